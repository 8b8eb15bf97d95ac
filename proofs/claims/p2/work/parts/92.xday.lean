set_option maxHeartbeats 4000000 in
set_option maxRecDepth 100000 in
theorem sx_buy {g : GG} {n : Int} {L : Int32} (hy : LyX g)  {I : pI} {J : pJ} {R : pR} (hr : RfX g R) (hI : XI g n L I) (th : Int32) (un : Int32) (pe : Int32) (da : Int32) (th_lo : -1 ≤ th.toInt) (th_hi : th.toInt ≤ 2) (un_lo : 0 ≤ un.toInt) (un_hi : un.toInt ≤ 3) (pe_lo : 0 ≤ pe.toInt) (pe_hi : pe.toInt ≤ 99) (da_lo : 0 ≤ da.toInt) (da_hi : da.toInt ≤ 6) : SP g mX9_buy [.ref (ad g 49), .int th, .int un, .int pe, .int da] I J R (fun r I' J' R' => (XI g n L I' ∧ R' = R) ∧ ∃ v : Int32, r = some (.int v) ∧ 0 ≤ v.toInt ∧ v.toInt ≤ 3 ∧ v.toInt ≤ un.toInt) := by
  refine SP_of ⟨by decide, rfl⟩ (Nat.le_of_ble_eq_true rfl) ?_
  have e7270 : I (ad g 1) 1 = L := hI.2
  have b7271 := BT_get hI.1 1 1 2 (0) (0) (900) (by decide) 1 (by decide) (by decide)
  rw [e7270] at b7271
  refine WP_iload_n dX9_buy_0 rfl ?_
  refine WQ_iconst (-1) (-1) dX9_buy_1 rfl rfl (fun v7272 hv7272 => ?_)
  refine WQ_icmp_eq 10 dX9_buy_2 rfl (fun c7272 => ?_) (fun c7272 => ?_)
  · refine WQ_iconst (0) (0) dX9_buy_10 rfl rfl (fun v7274 hv7274 => ?_)
    exact WP_iret dX9_buy_11 rfl ⟨⟨hI, rfl⟩, _, rfl, by omega, by omega, by omega⟩
  · refine WP_iload_n dX9_buy_5 rfl ?_
    refine WQ_iconst (1) (1) dX9_buy_6 rfl rfl (fun v7275 hv7275 => ?_)
    refine WQ_icmp_ge 12 dX9_buy_7 rfl (fun c7275 => ?_) (fun c7275 => ?_)
    · refine WP_iload_n dX9_buy_12 rfl ?_
      refine WP_aload_n dX9_buy_13 rfl ?_
      refine WP_getr dX9_buy_14 fX9_22 rfl (lyx_is hy 49 9 rfl) (rfx hr 49 4 52 (by decide)) ?_
      refine WP_iload_n dX9_buy_17 rfl ?_
      refine WQ_iald dX9_buy_18 (lyx_is hy 52 13 rfl) (lyx_n hy 52 3 rfl) (by omega) (by omega) (fun q hq => BT_get hI.1 52 0 3 (0) (0) (1000000) (by decide) q (Nat.zero_le _) hq) (fun v7277 av7277 bv7277 ev7277 => ?_)
      refine WP_iload_n dX9_buy_19 rfl ?_
      refine WQ_idivb dX9_buy_20 (by omega) (by omega) (fun v7278 pv7278 av7278 bv7278 cv7278 => ?_)
      refine WQ_min dX9_buy_21 lX9_78 ⟨by decide, Nat.le_of_ble_eq_true rfl⟩ (fun v7279 av7279 bv7279 cv7279 => ?_)
      refine WP_istore (ls' := [(0, _), (1, _), (2, _), (3, _), (4, _), (5, _)]) dX9_buy_24 (by decide) rfl ?_
      refine WP_aload_n dX9_buy_26 rfl ?_
      refine WP_getr dX9_buy_27 fX9_22 rfl (lyx_is hy 49 9 rfl) (rfx hr 49 4 52 (by decide)) ?_
      refine WP_iload_n dX9_buy_30 rfl ?_
      refine WP_dup2 dX9_buy_31 rfl rfl ?_
      refine WQ_ialde dX9_buy_32 (lyx_is hy 52 13 rfl) (lyx_n hy 52 3 rfl) (by omega) (by omega) ev7277 ?_
      refine WP_iload dX9_buy_33 rfl ?_
      refine WP_iload_n dX9_buy_35 rfl ?_
      refine WQ_imulb (3) (99) dX9_buy_36 ⟨by omega, by omega⟩ ⟨by omega, by omega⟩ (by decide) (fun v7281 pv7281 av7281 bv7281 cv7281 => ?_)
      have k0 : v7279.toInt * pe.toInt ≤ v7278.toInt * pe.toInt := Int.mul_le_mul_of_nonneg_right (by omega) (by omega)
      refine WQ_isub dX9_buy_37 (by omega) (by omega) (fun v7282 hv7282 => ?_)
      refine WQ_iast dX9_buy_38 (lyx_is hy 52 13 rfl) (lyx_n hy 52 3 rfl) (by omega) (by omega) (fun I7283 eI7283 => ?_)
      have hI7283 : XI g n L I7283 := by rw [eI7283]; exact (xi_r hy hI (c := 52) (0) (0) (1000000) (by decide) (Or.inl (by decide)) (by decide) (by omega) (by omega))
      have e7284 : I7283 (ad g 1) 1 = L := by rw [eI7283, pp_ne _ _ (Or.inl (lyx_ne hy (by decide) (by decide) (by decide)))]; exact e7270
      clear eI7283
      refine WP_aload_n dX9_buy_39 rfl ?_
      refine WP_getr dX9_buy_40 fX9_18 rfl (lyx_is hy 49 9 rfl) (rfx hr 49 1 51 (by decide)) ?_
      refine WP_iload_n dX9_buy_43 rfl ?_
      refine WQ_bipush (7) (7) dX9_buy_44 rfl rfl (fun v7285 hv7285 => ?_)
      refine WQ_imulk (7) dX9_buy_46 hv7285 (by omega) (by omega) (fun v7286 hv7286 => ?_)
      refine WP_iload dX9_buy_47 rfl ?_
      refine WQ_iadd dX9_buy_49 (by omega) (by omega) (fun v7287 hv7287 => ?_)
      refine WP_dup2 dX9_buy_50 rfl rfl ?_
      refine WQ_ialdu dX9_buy_51 (lyx_is hy 51 13 rfl) (lyx_n hy 51 21 rfl) (by omega) (by omega) (fun v7288 => ?_)
      refine WP_iload dX9_buy_52 rfl ?_
      refine WP_iload_n dX9_buy_54 rfl ?_
      refine WQ_imulb (3) (99) dX9_buy_55 ⟨by omega, by omega⟩ ⟨by omega, by omega⟩ (by decide) (fun v7289 pv7289 av7289 bv7289 cv7289 => ?_)
      refine WQ_iaddu dX9_buy_56 (fun v7290 => ?_)
      refine WQ_iast dX9_buy_57 (lyx_is hy 51 13 rfl) (lyx_n hy 51 21 rfl) (by omega) (by omega) (fun I7291 eI7291 => ?_)
      have hI7291 : XI g n L I7291 := by rw [eI7291]; exact (xi_r0 hy hI7283 (c := 51) (by decide) (Or.inl (by decide)) (by decide))
      have e7292 : I7291 (ad g 1) 1 = L := by rw [eI7291, pp_ne _ _ (Or.inl (lyx_ne hy (by decide) (by decide) (by decide)))]; exact e7284
      clear eI7291
      refine WP_iload dX9_buy_58 rfl ?_
      exact WP_iret dX9_buy_60 rfl ⟨⟨hI7291, rfl⟩, _, rfl, by omega, by omega, by omega⟩
    · refine WQ_iconst (0) (0) dX9_buy_10 rfl rfl (fun v7293 hv7293 => ?_)
      exact WP_iret dX9_buy_11 rfl ⟨⟨hI, rfl⟩, _, rfl, by omega, by omega, by omega⟩
set_option maxHeartbeats 4000000 in
set_option maxRecDepth 100000 in
theorem sx_openChest_53_6 {g : GG} {n : Int} {L : Int32} (hy : LyX g)  {I : pI} {J : pJ} {R : pR} (hr : RfX g R) (hT : R (ad g 5) 0 = some (ad g 6)) (hI : XI g n L I)   (hn : 0 ≤ n ∧ n ≤ 40000) : SP g mX9_openChest [.ref (ad g 49), .ref (ad g 53)] I J R (fun r I' J' R' => (XI g n L I' ∧ R' = R ∧ (I' (ad g 53) 1).toInt ≤ (I (ad g 53) 1).toInt) ∧ r = none) := by
  refine SP_of ⟨by decide, rfl⟩ (Nat.le_of_ble_eq_true rfl) ?_
  have e7294 : I (ad g 1) 1 = L := hI.2
  have b7295 := BT_get hI.1 1 1 2 (0) (0) (900) (by decide) 1 (by decide) (by decide)
  rw [e7294] at b7295
  obtain ⟨w7296, ew7296⟩ : ∃ w : Int32, I (ad g 53) 1 = w := ⟨_, rfl⟩
  have bw7296 := BT_get hI.1 53 1 2 (0) (23760) (0) (by decide) 1 (by decide) (by decide)
  rw [ew7296] at bw7296
  refine WP_aload_n dX9_openChest_0 rfl ?_
  refine WP_getr dX9_openChest_1 fX9_25 rfl (lyx_is hy 49 9 rfl) (rfx hr 49 2 5 (by decide)) ?_
  refine WP_getr dX9_openChest_4 fX9_49 rfl (lyx_is hy 5 0 rfl) hT ?_
  refine WQ_geti dX9_openChest_7 fX9_68 rfl (lyx_is hy 6 7 rfl) (BT_get hI.1 6 3 4 (-1) (0) (3) (by decide) 3 (by decide) (by decide)) (fun v7297 ev7297 av7297 bv7297 => ?_)
  refine WP_istore_n (ls' := [(0, _), (1, _), (2, _)]) dX9_openChest_10 (by decide) rfl ?_
  refine WP_iload_n dX9_openChest_11 rfl ?_
  refine WQ_iconst (-1) (-1) dX9_openChest_12 rfl rfl (fun v7298 hv7298 => ?_)
  refine WQ_icmp_eq 32 dX9_openChest_13 rfl (fun c7298 => ?_) (fun c7298 => ?_)
  · exact WP_vret dX9_openChest_32 rfl ⟨⟨hI, rfl, (by omega)⟩, rfl⟩
  · refine WP_aload_n dX9_openChest_16 rfl ?_
    refine WP_getr dX9_openChest_17 fX9_25 rfl (lyx_is hy 49 9 rfl) (rfx hr 49 2 5 (by decide)) ?_
    refine WP_getr dX9_openChest_20 fX9_49 rfl (lyx_is hy 5 0 rfl) hT ?_
    refine WP_getr dX9_openChest_23 fX9_71 rfl (lyx_is hy 6 7 rfl) (rfx hr 6 6 8 (by decide)) ?_
    refine WP_iload_n dX9_openChest_26 rfl ?_
    refine WQ_iald dX9_openChest_27 (lyx_is hy 8 13 rfl) (lyx_n hy 8 4 rfl) (by omega) (by omega) (fun q hq => BT_get hI.1 8 0 4 (0) (0) (99) (by decide) q (Nat.zero_le _) hq) (fun v7300 av7300 bv7300 ev7300 => ?_)
    refine WQ_iconst (1) (1) dX9_openChest_28 rfl rfl (fun v7301 hv7301 => ?_)
    refine WQ_icmp_ge 33 dX9_openChest_29 rfl (fun c7301 => ?_) (fun c7301 => ?_)
    · refine WP_aload_n dX9_openChest_33 rfl ?_
      refine WP_getr dX9_openChest_34 fX9_25 rfl (lyx_is hy 49 9 rfl) (rfx hr 49 2 5 (by decide)) ?_
      refine WP_getr dX9_openChest_37 fX9_49 rfl (lyx_is hy 5 0 rfl) hT ?_
      refine WP_getr dX9_openChest_40 fX9_71 rfl (lyx_is hy 6 7 rfl) (rfx hr 6 6 8 (by decide)) ?_
      refine WP_iload_n dX9_openChest_43 rfl ?_
      refine WQ_ialde dX9_openChest_44 (lyx_is hy 8 13 rfl) (lyx_n hy 8 4 rfl) (by omega) (by omega) ev7300 ?_
      refine WP_istore_n (ls' := [(0, _), (1, _), (2, _), (3, _)]) dX9_openChest_45 (by decide) rfl ?_
      refine WP_aload_n dX9_openChest_46 rfl ?_
      refine WQ_getim dX9_openChest_47 fX9_74 rfl (lyx_is hy 53 4 rfl) ew7296 ?_
      refine WP_iload_n dX9_openChest_50 rfl ?_
      refine WQ_idivb dX9_openChest_51 (by omega) (by omega) (fun v7304 pv7304 av7304 bv7304 cv7304 => ?_)
      refine WP_istore (ls' := [(0, _), (1, _), (2, _), (3, _), (4, _)]) dX9_openChest_52 (by decide) rfl ?_
      refine WP_iload_n dX9_openChest_54 rfl ?_
      refine WQ_bipush (7) (7) dX9_openChest_55 rfl rfl (fun v7305 hv7305 => ?_)
      refine WQ_imulk (7) dX9_openChest_57 hv7305 (by omega) (by omega) (fun v7306 hv7306 => ?_)
      refine WP_istore (ls' := [(0, _), (1, _), (2, _), (3, _), (4, _), (5, _)]) dX9_openChest_58 (by decide) rfl ?_
      refine WP_aload_n dX9_openChest_60 rfl ?_
      refine WP_dup dX9_openChest_61 rfl ?_
      refine WQ_getim dX9_openChest_62 fX9_74 rfl (lyx_is hy 53 4 rfl) ew7296 ?_
      refine WP_iload dX9_openChest_65 rfl ?_
      refine WP_iload_n dX9_openChest_67 rfl ?_
      have knv7307 : 0 ≤ v7304.toInt * v7300.toInt := Int.mul_nonneg (by omega) (by omega)
      refine WQ_imulx dX9_openChest_68 (by omega) (by omega) (fun v7307 pv7307 => ?_)
      refine WQ_isub dX9_openChest_69 (by omega) (by omega) (fun v7308 hv7308 => ?_)
      refine WQ_puti dX9_openChest_70 fX9_74 rfl rfl (lyx_is hy 53 4 rfl) (fun I7309 eI7309 => ?_)
      have hI7309 : XI g n L I7309 := by rw [eI7309]; exact (xi_f hy hI (c := 53) (0) (23760) (0) (by decide) (Or.inl (by decide)) (by decide) (by omega) (by omega))
      have e7310 : I7309 (ad g 1) 1 = L := by rw [eI7309, pp_ne _ _ (Or.inl (lyx_ne hy (by decide) (by decide) (by decide)))]; exact e7294
      have e7311 : I7309 (ad g 6) 3 = v7297 := by rw [eI7309, pp_ne _ _ (Or.inl (lyx_ne hy (by decide) (by decide) (by decide)))]; exact ev7297
      have e7312 : I7309 (ad g 8) v7297.toNatClampNeg = v7300 := by rw [eI7309, pp_ne _ _ (Or.inl (lyx_ne hy (by decide) (by decide) (by decide)))]; exact ev7300
      have e7313 : I7309 (ad g 53) 1 = v7308 := by rw [eI7309, pp_self]
      clear eI7309
      refine WP_aload_n dX9_openChest_73 rfl ?_
      refine WP_getr dX9_openChest_74 fX9_75 rfl (lyx_is hy 53 4 rfl) (rfx hr 53 5 55 (by decide)) ?_
      refine WP_iload dX9_openChest_77 rfl ?_
      refine WQ_bipush (6) (6) dX9_openChest_79 rfl rfl (fun v7314 hv7314 => ?_)
      refine WQ_iadd dX9_openChest_81 (by omega) (by omega) (fun v7315 hv7315 => ?_)
      refine WP_dup2 dX9_openChest_82 rfl rfl ?_
      refine WQ_ialdu dX9_openChest_83 (lyx_is hy 55 13 rfl) (lyx_n hy 55 28 rfl) (by omega) (by omega) (fun v7316 => ?_)
      refine WP_iload dX9_openChest_84 rfl ?_
      refine WP_iload_n dX9_openChest_86 rfl ?_
      have knv7317 : 0 ≤ v7304.toInt * v7300.toInt := Int.mul_nonneg (by omega) (by omega)
      refine WQ_imulx dX9_openChest_87 (by omega) (by omega) (fun v7317 pv7317 => ?_)
      refine WQ_iaddu dX9_openChest_88 (fun v7318 => ?_)
      refine WQ_iast dX9_openChest_89 (lyx_is hy 55 13 rfl) (lyx_n hy 55 28 rfl) (by omega) (by omega) (fun I7319 eI7319 => ?_)
      have hI7319 : XI g n L I7319 := by rw [eI7319]; exact (fa_put hy hI7309 (c := 55) (k := 6) (s := v7297.toInt.toNat) (by decide) (by omega) (by decide) (by rw [cl (n := 7 * v7297.toInt.toNat + 6) (by omega)]) (fun h => absurd h (by decide)) (fun h => absurd h (by decide)))
      have e7320 : I7319 (ad g 1) 1 = L := by rw [eI7319, pp_ne _ _ (Or.inl (lyx_ne hy (by decide) (by decide) (by decide)))]; exact e7310
      have e7321 : I7319 (ad g 6) 3 = v7297 := by rw [eI7319, pp_ne _ _ (Or.inl (lyx_ne hy (by decide) (by decide) (by decide)))]; exact e7311
      have e7322 : I7319 (ad g 8) v7297.toNatClampNeg = v7300 := by rw [eI7319, pp_ne _ _ (Or.inl (lyx_ne hy (by decide) (by decide) (by decide)))]; exact e7312
      have e7323 : I7319 (ad g 53) 1 = v7308 := by rw [eI7319, pp_ne _ _ (Or.inl (lyx_ne hy (by decide) (by decide) (by decide)))]; exact e7313
      clear eI7319
      refine WP_aload_n dX9_openChest_90 rfl ?_
      refine WP_getr dX9_openChest_91 fX9_75 rfl (lyx_is hy 53 4 rfl) (rfx hr 53 5 55 (by decide)) ?_
      refine WP_iload dX9_openChest_94 rfl ?_
      refine WQ_iconst (0) (0) dX9_openChest_96 rfl rfl (fun v7324 hv7324 => ?_)
      refine WQ_iadd dX9_openChest_97 (by omega) (by omega) (fun v7325 hv7325 => ?_)
      refine WQ_bipush (60) (60) dX9_openChest_98 rfl rfl (fun v7326 hv7326 => ?_)
      refine WP_aload_n dX9_openChest_100 rfl ?_
      refine WP_getr dX9_openChest_101 fX9_75 rfl (lyx_is hy 53 4 rfl) (rfx hr 53 5 55 (by decide)) ?_
      refine WP_iload dX9_openChest_104 rfl ?_
      refine WQ_iconst (0) (0) dX9_openChest_106 rfl rfl (fun v7327 hv7327 => ?_)
      refine WQ_iadd dX9_openChest_107 (by omega) (by omega) (fun v7328 hv7328 => ?_)
      refine WQ_ialdf (q := 7 * v7297.toInt.toNat) dX9_openChest_108 (lyx_is hy 55 13 rfl) (lyx_n hy 55 28 rfl) (by omega) (by omega) (by omega) (fa_get0 hI7319 (c := 55) (by decide) (by omega)) (fun v7329 av7329 bv7329 => ?_)
      refine WP_iload dX9_openChest_109 rfl ?_
      refine WQ_iadd dX9_openChest_111 (by omega) (by omega) (fun v7330 hv7330 => ?_)
      refine WQ_min dX9_openChest_112 lX9_78 ⟨by decide, Nat.le_of_ble_eq_true rfl⟩ (fun v7331 av7331 bv7331 cv7331 => ?_)
      refine WQ_iast dX9_openChest_115 (lyx_is hy 55 13 rfl) (lyx_n hy 55 28 rfl) (by omega) (by omega) (fun I7332 eI7332 => ?_)
      have hI7332 : XI g n L I7332 := by rw [eI7332]; exact (fa_put hy hI7319 (c := 55) (k := 0) (s := v7297.toInt.toNat) (by decide) (by omega) (by decide) (by rw [cl (n := 7 * v7297.toInt.toNat + 0) (by omega)]) (fun _ => by omega) (fun _ => by omega))
      have e7333 : I7332 (ad g 1) 1 = L := by rw [eI7332, pp_ne _ _ (Or.inl (lyx_ne hy (by decide) (by decide) (by decide)))]; exact e7320
      have e7334 : I7332 (ad g 6) 3 = v7297 := by rw [eI7332, pp_ne _ _ (Or.inl (lyx_ne hy (by decide) (by decide) (by decide)))]; exact e7321
      have e7335 : I7332 (ad g 8) v7297.toNatClampNeg = v7300 := by rw [eI7332, pp_ne _ _ (Or.inl (lyx_ne hy (by decide) (by decide) (by decide)))]; exact e7322
      have e7336 : I7332 (ad g 53) 1 = v7308 := by rw [eI7332, pp_ne _ _ (Or.inl (lyx_ne hy (by decide) (by decide) (by decide)))]; exact e7323
      clear eI7332
      exact WP_vret dX9_openChest_116 rfl ⟨⟨hI7332, rfl, (by rw [e7336, ew7296]; omega)⟩, rfl⟩
    · exact WP_vret dX9_openChest_32 rfl ⟨⟨hI, rfl, (by omega)⟩, rfl⟩
set_option maxHeartbeats 4000000 in
set_option maxRecDepth 100000 in
theorem sx_wsleep_53_6 {g : GG} {n : Int} {L : Int32} (hy : LyX g)  {I : pI} {J : pJ} {R : pR} (hr : RfX g R) (hT : R (ad g 5) 0 = some (ad g 6)) (hI : XI g n L I) (so : Int32) (da : Int32) (co : Int32) (st : Int32) (so_lo : 0 ≤ so.toInt) (so_hi : so.toInt ≤ 3) (da_lo : 0 ≤ da.toInt) (da_hi : da.toInt ≤ 6) (co_lo : 0 ≤ co.toInt) (co_hi : co.toInt ≤ 60) (st_lo : 0 ≤ st.toInt) (st_hi : st.toInt ≤ 5) (hn : 0 ≤ n ∧ n ≤ 40000) (hb : (I (ad g 53) 1).toInt ≤ 23760 * n + 0 - 5940) : SP g mX9_sleep [.ref (ad g 49), .ref (ad g 53), .int so, .int da, .int co, .int st] I J R (fun r I' J' R' => (XI g n L I' ∧ R' = R ∧ (I' (ad g 53) 1).toInt ≤ (I (ad g 53) 1).toInt + 5940) ∧ r = none) := by
  refine SP_of ⟨by decide, rfl⟩ (Nat.le_of_ble_eq_true rfl) ?_
  have e7337 : I (ad g 1) 1 = L := hI.2
  have b7338 := BT_get hI.1 1 1 2 (0) (0) (900) (by decide) 1 (by decide) (by decide)
  rw [e7337] at b7338
  obtain ⟨w7339, ew7339⟩ : ∃ w : Int32, I (ad g 53) 1 = w := ⟨_, rfl⟩
  have bw7339 := BT_get hI.1 53 1 2 (0) (23760) (0) (by decide) 1 (by decide) (by decide)
  rw [ew7339] at bw7339
  rw [ew7339] at hb
  refine WP_iload_n dX9_sleep_0 rfl ?_
  refine WQ_bipush (7) (7) dX9_sleep_1 rfl rfl (fun v7340 hv7340 => ?_)
  refine WQ_imulk (7) dX9_sleep_3 hv7340 (by omega) (by omega) (fun v7341 hv7341 => ?_)
  refine WP_istore (ls' := [(0, _), (1, _), (2, _), (3, _), (4, _), (5, _), (6, _)]) dX9_sleep_4 (by decide) rfl ?_
  refine WP_aload_n dX9_sleep_6 rfl ?_
  refine WP_getr dX9_sleep_7 fX9_25 rfl (lyx_is hy 49 9 rfl) (rfx hr 49 2 5 (by decide)) ?_
  refine WP_getr dX9_sleep_10 fX9_49 rfl (lyx_is hy 5 0 rfl) hT ?_
  refine WP_getr dX9_sleep_13 fX9_71 rfl (lyx_is hy 6 7 rfl) (rfx hr 6 6 8 (by decide)) ?_
  refine WP_iload_n dX9_sleep_16 rfl ?_
  refine WQ_iald dX9_sleep_17 (lyx_is hy 8 13 rfl) (lyx_n hy 8 4 rfl) (by omega) (by omega) (fun q hq => BT_get hI.1 8 0 4 (0) (0) (99) (by decide) q (Nat.zero_le _) hq) (fun v7342 av7342 bv7342 ev7342 => ?_)
  clear ev7342
  refine WP_istore (ls' := [(0, _), (1, _), (2, _), (3, _), (4, _), (5, _), (6, _), (7, _)]) dX9_sleep_18 (by decide) rfl ?_
  refine WP_iload dX9_sleep_20 rfl ?_
  refine WP_iload dX9_sleep_22 rfl ?_
  refine WP_aload_n dX9_sleep_24 rfl ?_
  refine WP_getr dX9_sleep_25 fX9_25 rfl (lyx_is hy 49 9 rfl) (rfx hr 49 2 5 (by decide)) ?_
  refine WP_getr dX9_sleep_28 fX9_128 rfl (lyx_is hy 5 0 rfl) (rfx hr 5 2 23 (by decide)) ?_
  refine WP_iload_n dX9_sleep_31 rfl ?_
  refine WQ_iald dX9_sleep_32 (lyx_is hy 23 13 rfl) (lyx_n hy 23 7 rfl) (by omega) (by omega) (fun q hq => BT_get hI.1 23 0 7 (0) (0) (900) (by decide) q (Nat.zero_le _) hq) (fun v7343 av7343 bv7343 ev7343 => ?_)
  clear ev7343
  refine WP_callN2 dX9_sleep_33 ⟨⟨⟨by decide, by decide⟩, zX10_stampsOf⟩, lX9_131, tX10_stampsOf⟩ (sx_stampsOf hy hr hI co v7343 (by omega) (by omega) (by omega) (by omega)) (Nat.le_of_ble_eq_true rfl) ?_
  intro r Ia Ja Ra hq
  obtain ⟨⟨ea, eb, ec⟩, v7344, rfl, av7344, bv7344, cv7344⟩ := hq
  show WP _ _ _ _ (.int _ :: _) _ _ _ _
  rw [ea, eb, ec]
  clear ea eb ec Ia Ja Ra
  refine WQ_imulb (99) (999) dX9_sleep_36 ⟨by omega, by omega⟩ ⟨by omega, by omega⟩ (by decide) (fun v7345 pv7345 av7345 bv7345 cv7345 => ?_)
  refine WP_istore (ls' := [(0, _), (1, _), (2, _), (3, _), (4, _), (5, _), (6, _), (7, _), (8, _)]) dX9_sleep_37 (by decide) rfl ?_
  refine WP_aload_n dX9_sleep_39 rfl ?_
  refine WP_getr dX9_sleep_40 fX9_25 rfl (lyx_is hy 49 9 rfl) (rfx hr 49 2 5 (by decide)) ?_
  refine WP_getr dX9_sleep_43 fX9_134 rfl (lyx_is hy 5 0 rfl) (rfx hr 5 5 26 (by decide)) ?_
  refine WP_iload dX9_sleep_46 rfl ?_
  refine WQ_iald dX9_sleep_48 (lyx_is hy 26 13 rfl) (lyx_n hy 26 6 rfl) (by omega) (by omega) (fun q hq => BT_get hI.1 26 0 6 (0) (0) (5) (by decide) q (Nat.zero_le _) hq) (fun v7346 av7346 bv7346 ev7346 => ?_)
  clear ev7346
  refine WP_istore (ls' := [(0, _), (1, _), (2, _), (3, _), (4, _), (5, _), (6, _), (7, _), (8, _), (9, _)]) dX9_sleep_49 (by decide) rfl ?_
  refine WP_aload_n dX9_sleep_51 rfl ?_
  refine WP_dup dX9_sleep_52 rfl ?_
  refine WQ_getim dX9_sleep_53 fX9_74 rfl (lyx_is hy 53 4 rfl) ew7339 ?_
  refine WP_iload dX9_sleep_56 rfl ?_
  refine WQ_iadd dX9_sleep_58 (by omega) (by omega) (fun v7347 hv7347 => ?_)
  refine WQ_puti dX9_sleep_59 fX9_74 rfl rfl (lyx_is hy 53 4 rfl) (fun I7348 eI7348 => ?_)
  have hI7348 : XI g n L I7348 := by rw [eI7348]; exact (xi_f hy hI (c := 53) (0) (23760) (0) (by decide) (Or.inl (by decide)) (by decide) (by omega) (by omega))
  have e7349 : I7348 (ad g 1) 1 = L := by rw [eI7348, pp_ne _ _ (Or.inl (lyx_ne hy (by decide) (by decide) (by decide)))]; exact e7337
  have e7350 : I7348 (ad g 53) 1 = v7347 := by rw [eI7348, pp_self]
  clear eI7348
  refine WP_aload_n dX9_sleep_62 rfl ?_
  refine WP_getr dX9_sleep_63 fX9_75 rfl (lyx_is hy 53 4 rfl) (rfx hr 53 5 55 (by decide)) ?_
  refine WP_iload dX9_sleep_66 rfl ?_
  refine WQ_iconst (3) (3) dX9_sleep_68 rfl rfl (fun v7351 hv7351 => ?_)
  refine WQ_iadd dX9_sleep_69 (by omega) (by omega) (fun v7352 hv7352 => ?_)
  refine WP_dup2 dX9_sleep_70 rfl rfl ?_
  refine WQ_ialdu dX9_sleep_71 (lyx_is hy 55 13 rfl) (lyx_n hy 55 28 rfl) (by omega) (by omega) (fun v7353 => ?_)
  refine WP_iload dX9_sleep_72 rfl ?_
  refine WQ_iaddu dX9_sleep_74 (fun v7354 => ?_)
  refine WQ_iast dX9_sleep_75 (lyx_is hy 55 13 rfl) (lyx_n hy 55 28 rfl) (by omega) (by omega) (fun I7355 eI7355 => ?_)
  have hI7355 : XI g n L I7355 := by rw [eI7355]; exact (fa_put hy hI7348 (c := 55) (k := 3) (s := so.toInt.toNat) (by decide) (by omega) (by decide) (by rw [cl (n := 7 * so.toInt.toNat + 3) (by omega)]) (fun h => absurd h (by decide)) (fun h => absurd h (by decide)))
  have e7356 : I7355 (ad g 1) 1 = L := by rw [eI7355, pp_ne _ _ (Or.inl (lyx_ne hy (by decide) (by decide) (by decide)))]; exact e7349
  have e7357 : I7355 (ad g 53) 1 = v7347 := by rw [eI7355, pp_ne _ _ (Or.inl (lyx_ne hy (by decide) (by decide) (by decide)))]; exact e7350
  clear eI7355
  refine WP_aload_n dX9_sleep_76 rfl ?_
  refine WP_getr dX9_sleep_77 fX9_75 rfl (lyx_is hy 53 4 rfl) (rfx hr 53 5 55 (by decide)) ?_
  refine WP_iload dX9_sleep_80 rfl ?_
  refine WQ_iconst (5) (5) dX9_sleep_82 rfl rfl (fun v7358 hv7358 => ?_)
  refine WQ_iadd dX9_sleep_83 (by omega) (by omega) (fun v7359 hv7359 => ?_)
  refine WP_dup2 dX9_sleep_84 rfl rfl ?_
  refine WQ_ialdu dX9_sleep_85 (lyx_is hy 55 13 rfl) (lyx_n hy 55 28 rfl) (by omega) (by omega) (fun v7360 => ?_)
  refine WP_iload dX9_sleep_86 rfl ?_
  refine WP_iload dX9_sleep_88 rfl ?_
  refine WP_iload dX9_sleep_90 rfl ?_
  refine WQ_isub dX9_sleep_92 (by omega) (by omega) (fun v7361 hv7361 => ?_)
  refine WQ_imulu dX9_sleep_93 (fun v7362 => ?_)
  refine WQ_iaddu dX9_sleep_94 (fun v7363 => ?_)
  refine WQ_iast dX9_sleep_95 (lyx_is hy 55 13 rfl) (lyx_n hy 55 28 rfl) (by omega) (by omega) (fun I7364 eI7364 => ?_)
  have hI7364 : XI g n L I7364 := by rw [eI7364]; exact (fa_put hy hI7355 (c := 55) (k := 5) (s := so.toInt.toNat) (by decide) (by omega) (by decide) (by rw [cl (n := 7 * so.toInt.toNat + 5) (by omega)]) (fun h => absurd h (by decide)) (fun h => absurd h (by decide)))
  have e7365 : I7364 (ad g 1) 1 = L := by rw [eI7364, pp_ne _ _ (Or.inl (lyx_ne hy (by decide) (by decide) (by decide)))]; exact e7356
  have e7366 : I7364 (ad g 53) 1 = v7347 := by rw [eI7364, pp_ne _ _ (Or.inl (lyx_ne hy (by decide) (by decide) (by decide)))]; exact e7357
  clear eI7364
  refine WP_aload_n dX9_sleep_96 rfl ?_
  refine WP_getr dX9_sleep_97 fX9_75 rfl (lyx_is hy 53 4 rfl) (rfx hr 53 5 55 (by decide)) ?_
  refine WP_iload dX9_sleep_100 rfl ?_
  refine WQ_iconst (0) (0) dX9_sleep_102 rfl rfl (fun v7367 hv7367 => ?_)
  refine WQ_iadd dX9_sleep_103 (by omega) (by omega) (fun v7368 hv7368 => ?_)
  refine WP_aload_n dX9_sleep_104 rfl ?_
  refine WP_getr dX9_sleep_105 fX9_25 rfl (lyx_is hy 49 9 rfl) (rfx hr 49 2 5 (by decide)) ?_
  refine WP_iload dX9_sleep_108 rfl ?_
  refine WP_iload dX9_sleep_110 rfl ?_
  refine WP_iload_n dX9_sleep_112 rfl ?_
  refine WP_callV3 (k := 0) dX9_sleep_113 ⟨⟨⟨by decide, by decide⟩, zX0_coinsBehind⟩, lX9_137, by decide, rfl, vX0_coinsBehind.1, vX0_coinsBehind.2⟩ (lyx_is hy 5 0 rfl) (sx_coinsBehind hy hr hI7364 co st da (by omega) (by omega) (by omega) (by omega) (by omega) (by omega)) (Nat.le_of_ble_eq_true rfl) ?_
  intro r Ia Ja Ra hq
  obtain ⟨⟨ea, eb, ec⟩, v7369, rfl, av7369, bv7369⟩ := hq
  show WP _ _ _ _ (.int _ :: _) _ _ _ _
  rw [ea, eb, ec]
  clear ea eb ec Ia Ja Ra
  refine WQ_iast dX9_sleep_116 (lyx_is hy 55 13 rfl) (lyx_n hy 55 28 rfl) (by omega) (by omega) (fun I7370 eI7370 => ?_)
  have hI7370 : XI g n L I7370 := by rw [eI7370]; exact (fa_put hy hI7364 (c := 55) (k := 0) (s := so.toInt.toNat) (by decide) (by omega) (by decide) (by rw [cl (n := 7 * so.toInt.toNat + 0) (by omega)]) (fun _ => by omega) (fun _ => by omega))
  have e7371 : I7370 (ad g 1) 1 = L := by rw [eI7370, pp_ne _ _ (Or.inl (lyx_ne hy (by decide) (by decide) (by decide)))]; exact e7365
  have e7372 : I7370 (ad g 53) 1 = v7347 := by rw [eI7370, pp_ne _ _ (Or.inl (lyx_ne hy (by decide) (by decide) (by decide)))]; exact e7366
  clear eI7370
  refine WP_aload_n dX9_sleep_117 rfl ?_
  refine WP_getr dX9_sleep_118 fX9_75 rfl (lyx_is hy 53 4 rfl) (rfx hr 53 5 55 (by decide)) ?_
  refine WP_iload dX9_sleep_121 rfl ?_
  refine WQ_iconst (1) (1) dX9_sleep_123 rfl rfl (fun v7373 hv7373 => ?_)
  refine WQ_iadd dX9_sleep_124 (by omega) (by omega) (fun v7374 hv7374 => ?_)
  refine WP_iload dX9_sleep_125 rfl ?_
  refine WQ_iast dX9_sleep_127 (lyx_is hy 55 13 rfl) (lyx_n hy 55 28 rfl) (by omega) (by omega) (fun I7375 eI7375 => ?_)
  have hI7375 : XI g n L I7375 := by rw [eI7375]; exact (fa_put hy hI7370 (c := 55) (k := 1) (s := so.toInt.toNat) (by decide) (by omega) (by decide) (by rw [cl (n := 7 * so.toInt.toNat + 1) (by omega)]) (fun _ => by omega) (fun _ => by omega))
  have e7376 : I7375 (ad g 1) 1 = L := by rw [eI7375, pp_ne _ _ (Or.inl (lyx_ne hy (by decide) (by decide) (by decide)))]; exact e7371
  have e7377 : I7375 (ad g 53) 1 = v7347 := by rw [eI7375, pp_ne _ _ (Or.inl (lyx_ne hy (by decide) (by decide) (by decide)))]; exact e7372
  clear eI7375
  exact WP_vret dX9_sleep_128 rfl ⟨⟨hI7375, rfl, (by rw [e7377, ew7339]; omega)⟩, rfl⟩
set_option maxHeartbeats 4000000 in
set_option maxRecDepth 100000 in
theorem sx_openChest_53_27 {g : GG} {n : Int} {L : Int32} (hy : LyX g)  {I : pI} {J : pJ} {R : pR} (hr : RfX g R) (hT : R (ad g 5) 0 = some (ad g 27)) (hI : XI g n L I)   (hn : 0 ≤ n ∧ n ≤ 40000) : SP g mX9_openChest [.ref (ad g 49), .ref (ad g 53)] I J R (fun r I' J' R' => (XI g n L I' ∧ R' = R ∧ (I' (ad g 53) 1).toInt ≤ (I (ad g 53) 1).toInt) ∧ r = none) := by
  refine SP_of ⟨by decide, rfl⟩ (Nat.le_of_ble_eq_true rfl) ?_
  have e7378 : I (ad g 1) 1 = L := hI.2
  have b7379 := BT_get hI.1 1 1 2 (0) (0) (900) (by decide) 1 (by decide) (by decide)
  rw [e7378] at b7379
  obtain ⟨w7380, ew7380⟩ : ∃ w : Int32, I (ad g 53) 1 = w := ⟨_, rfl⟩
  have bw7380 := BT_get hI.1 53 1 2 (0) (23760) (0) (by decide) 1 (by decide) (by decide)
  rw [ew7380] at bw7380
  refine WP_aload_n dX9_openChest_0 rfl ?_
  refine WP_getr dX9_openChest_1 fX9_25 rfl (lyx_is hy 49 9 rfl) (rfx hr 49 2 5 (by decide)) ?_
  refine WP_getr dX9_openChest_4 fX9_49 rfl (lyx_is hy 5 0 rfl) hT ?_
  refine WQ_geti dX9_openChest_7 fX9_68 rfl (lyx_is hy 27 7 rfl) (BT_get hI.1 27 3 4 (-1) (0) (3) (by decide) 3 (by decide) (by decide)) (fun v7381 ev7381 av7381 bv7381 => ?_)
  refine WP_istore_n (ls' := [(0, _), (1, _), (2, _)]) dX9_openChest_10 (by decide) rfl ?_
  refine WP_iload_n dX9_openChest_11 rfl ?_
  refine WQ_iconst (-1) (-1) dX9_openChest_12 rfl rfl (fun v7382 hv7382 => ?_)
  refine WQ_icmp_eq 32 dX9_openChest_13 rfl (fun c7382 => ?_) (fun c7382 => ?_)
  · exact WP_vret dX9_openChest_32 rfl ⟨⟨hI, rfl, (by omega)⟩, rfl⟩
  · refine WP_aload_n dX9_openChest_16 rfl ?_
    refine WP_getr dX9_openChest_17 fX9_25 rfl (lyx_is hy 49 9 rfl) (rfx hr 49 2 5 (by decide)) ?_
    refine WP_getr dX9_openChest_20 fX9_49 rfl (lyx_is hy 5 0 rfl) hT ?_
    refine WP_getr dX9_openChest_23 fX9_71 rfl (lyx_is hy 27 7 rfl) (rfx hr 27 6 29 (by decide)) ?_
    refine WP_iload_n dX9_openChest_26 rfl ?_
    refine WQ_iald dX9_openChest_27 (lyx_is hy 29 13 rfl) (lyx_n hy 29 4 rfl) (by omega) (by omega) (fun q hq => BT_get hI.1 29 0 4 (0) (0) (99) (by decide) q (Nat.zero_le _) hq) (fun v7384 av7384 bv7384 ev7384 => ?_)
    refine WQ_iconst (1) (1) dX9_openChest_28 rfl rfl (fun v7385 hv7385 => ?_)
    refine WQ_icmp_ge 33 dX9_openChest_29 rfl (fun c7385 => ?_) (fun c7385 => ?_)
    · refine WP_aload_n dX9_openChest_33 rfl ?_
      refine WP_getr dX9_openChest_34 fX9_25 rfl (lyx_is hy 49 9 rfl) (rfx hr 49 2 5 (by decide)) ?_
      refine WP_getr dX9_openChest_37 fX9_49 rfl (lyx_is hy 5 0 rfl) hT ?_
      refine WP_getr dX9_openChest_40 fX9_71 rfl (lyx_is hy 27 7 rfl) (rfx hr 27 6 29 (by decide)) ?_
      refine WP_iload_n dX9_openChest_43 rfl ?_
      refine WQ_ialde dX9_openChest_44 (lyx_is hy 29 13 rfl) (lyx_n hy 29 4 rfl) (by omega) (by omega) ev7384 ?_
      refine WP_istore_n (ls' := [(0, _), (1, _), (2, _), (3, _)]) dX9_openChest_45 (by decide) rfl ?_
      refine WP_aload_n dX9_openChest_46 rfl ?_
      refine WQ_getim dX9_openChest_47 fX9_74 rfl (lyx_is hy 53 4 rfl) ew7380 ?_
      refine WP_iload_n dX9_openChest_50 rfl ?_
      refine WQ_idivb dX9_openChest_51 (by omega) (by omega) (fun v7388 pv7388 av7388 bv7388 cv7388 => ?_)
      refine WP_istore (ls' := [(0, _), (1, _), (2, _), (3, _), (4, _)]) dX9_openChest_52 (by decide) rfl ?_
      refine WP_iload_n dX9_openChest_54 rfl ?_
      refine WQ_bipush (7) (7) dX9_openChest_55 rfl rfl (fun v7389 hv7389 => ?_)
      refine WQ_imulk (7) dX9_openChest_57 hv7389 (by omega) (by omega) (fun v7390 hv7390 => ?_)
      refine WP_istore (ls' := [(0, _), (1, _), (2, _), (3, _), (4, _), (5, _)]) dX9_openChest_58 (by decide) rfl ?_
      refine WP_aload_n dX9_openChest_60 rfl ?_
      refine WP_dup dX9_openChest_61 rfl ?_
      refine WQ_getim dX9_openChest_62 fX9_74 rfl (lyx_is hy 53 4 rfl) ew7380 ?_
      refine WP_iload dX9_openChest_65 rfl ?_
      refine WP_iload_n dX9_openChest_67 rfl ?_
      have knv7391 : 0 ≤ v7388.toInt * v7384.toInt := Int.mul_nonneg (by omega) (by omega)
      refine WQ_imulx dX9_openChest_68 (by omega) (by omega) (fun v7391 pv7391 => ?_)
      refine WQ_isub dX9_openChest_69 (by omega) (by omega) (fun v7392 hv7392 => ?_)
      refine WQ_puti dX9_openChest_70 fX9_74 rfl rfl (lyx_is hy 53 4 rfl) (fun I7393 eI7393 => ?_)
      have hI7393 : XI g n L I7393 := by rw [eI7393]; exact (xi_f hy hI (c := 53) (0) (23760) (0) (by decide) (Or.inl (by decide)) (by decide) (by omega) (by omega))
      have e7394 : I7393 (ad g 1) 1 = L := by rw [eI7393, pp_ne _ _ (Or.inl (lyx_ne hy (by decide) (by decide) (by decide)))]; exact e7378
      have e7395 : I7393 (ad g 27) 3 = v7381 := by rw [eI7393, pp_ne _ _ (Or.inl (lyx_ne hy (by decide) (by decide) (by decide)))]; exact ev7381
      have e7396 : I7393 (ad g 29) v7381.toNatClampNeg = v7384 := by rw [eI7393, pp_ne _ _ (Or.inl (lyx_ne hy (by decide) (by decide) (by decide)))]; exact ev7384
      have e7397 : I7393 (ad g 53) 1 = v7392 := by rw [eI7393, pp_self]
      clear eI7393
      refine WP_aload_n dX9_openChest_73 rfl ?_
      refine WP_getr dX9_openChest_74 fX9_75 rfl (lyx_is hy 53 4 rfl) (rfx hr 53 5 55 (by decide)) ?_
      refine WP_iload dX9_openChest_77 rfl ?_
      refine WQ_bipush (6) (6) dX9_openChest_79 rfl rfl (fun v7398 hv7398 => ?_)
      refine WQ_iadd dX9_openChest_81 (by omega) (by omega) (fun v7399 hv7399 => ?_)
      refine WP_dup2 dX9_openChest_82 rfl rfl ?_
      refine WQ_ialdu dX9_openChest_83 (lyx_is hy 55 13 rfl) (lyx_n hy 55 28 rfl) (by omega) (by omega) (fun v7400 => ?_)
      refine WP_iload dX9_openChest_84 rfl ?_
      refine WP_iload_n dX9_openChest_86 rfl ?_
      have knv7401 : 0 ≤ v7388.toInt * v7384.toInt := Int.mul_nonneg (by omega) (by omega)
      refine WQ_imulx dX9_openChest_87 (by omega) (by omega) (fun v7401 pv7401 => ?_)
      refine WQ_iaddu dX9_openChest_88 (fun v7402 => ?_)
      refine WQ_iast dX9_openChest_89 (lyx_is hy 55 13 rfl) (lyx_n hy 55 28 rfl) (by omega) (by omega) (fun I7403 eI7403 => ?_)
      have hI7403 : XI g n L I7403 := by rw [eI7403]; exact (fa_put hy hI7393 (c := 55) (k := 6) (s := v7381.toInt.toNat) (by decide) (by omega) (by decide) (by rw [cl (n := 7 * v7381.toInt.toNat + 6) (by omega)]) (fun h => absurd h (by decide)) (fun h => absurd h (by decide)))
      have e7404 : I7403 (ad g 1) 1 = L := by rw [eI7403, pp_ne _ _ (Or.inl (lyx_ne hy (by decide) (by decide) (by decide)))]; exact e7394
      have e7405 : I7403 (ad g 27) 3 = v7381 := by rw [eI7403, pp_ne _ _ (Or.inl (lyx_ne hy (by decide) (by decide) (by decide)))]; exact e7395
      have e7406 : I7403 (ad g 29) v7381.toNatClampNeg = v7384 := by rw [eI7403, pp_ne _ _ (Or.inl (lyx_ne hy (by decide) (by decide) (by decide)))]; exact e7396
      have e7407 : I7403 (ad g 53) 1 = v7392 := by rw [eI7403, pp_ne _ _ (Or.inl (lyx_ne hy (by decide) (by decide) (by decide)))]; exact e7397
      clear eI7403
      refine WP_aload_n dX9_openChest_90 rfl ?_
      refine WP_getr dX9_openChest_91 fX9_75 rfl (lyx_is hy 53 4 rfl) (rfx hr 53 5 55 (by decide)) ?_
      refine WP_iload dX9_openChest_94 rfl ?_
      refine WQ_iconst (0) (0) dX9_openChest_96 rfl rfl (fun v7408 hv7408 => ?_)
      refine WQ_iadd dX9_openChest_97 (by omega) (by omega) (fun v7409 hv7409 => ?_)
      refine WQ_bipush (60) (60) dX9_openChest_98 rfl rfl (fun v7410 hv7410 => ?_)
      refine WP_aload_n dX9_openChest_100 rfl ?_
      refine WP_getr dX9_openChest_101 fX9_75 rfl (lyx_is hy 53 4 rfl) (rfx hr 53 5 55 (by decide)) ?_
      refine WP_iload dX9_openChest_104 rfl ?_
      refine WQ_iconst (0) (0) dX9_openChest_106 rfl rfl (fun v7411 hv7411 => ?_)
      refine WQ_iadd dX9_openChest_107 (by omega) (by omega) (fun v7412 hv7412 => ?_)
      refine WQ_ialdf (q := 7 * v7381.toInt.toNat) dX9_openChest_108 (lyx_is hy 55 13 rfl) (lyx_n hy 55 28 rfl) (by omega) (by omega) (by omega) (fa_get0 hI7403 (c := 55) (by decide) (by omega)) (fun v7413 av7413 bv7413 => ?_)
      refine WP_iload dX9_openChest_109 rfl ?_
      refine WQ_iadd dX9_openChest_111 (by omega) (by omega) (fun v7414 hv7414 => ?_)
      refine WQ_min dX9_openChest_112 lX9_78 ⟨by decide, Nat.le_of_ble_eq_true rfl⟩ (fun v7415 av7415 bv7415 cv7415 => ?_)
      refine WQ_iast dX9_openChest_115 (lyx_is hy 55 13 rfl) (lyx_n hy 55 28 rfl) (by omega) (by omega) (fun I7416 eI7416 => ?_)
      have hI7416 : XI g n L I7416 := by rw [eI7416]; exact (fa_put hy hI7403 (c := 55) (k := 0) (s := v7381.toInt.toNat) (by decide) (by omega) (by decide) (by rw [cl (n := 7 * v7381.toInt.toNat + 0) (by omega)]) (fun _ => by omega) (fun _ => by omega))
      have e7417 : I7416 (ad g 1) 1 = L := by rw [eI7416, pp_ne _ _ (Or.inl (lyx_ne hy (by decide) (by decide) (by decide)))]; exact e7404
      have e7418 : I7416 (ad g 27) 3 = v7381 := by rw [eI7416, pp_ne _ _ (Or.inl (lyx_ne hy (by decide) (by decide) (by decide)))]; exact e7405
      have e7419 : I7416 (ad g 29) v7381.toNatClampNeg = v7384 := by rw [eI7416, pp_ne _ _ (Or.inl (lyx_ne hy (by decide) (by decide) (by decide)))]; exact e7406
      have e7420 : I7416 (ad g 53) 1 = v7392 := by rw [eI7416, pp_ne _ _ (Or.inl (lyx_ne hy (by decide) (by decide) (by decide)))]; exact e7407
      clear eI7416
      exact WP_vret dX9_openChest_116 rfl ⟨⟨hI7416, rfl, (by rw [e7420, ew7380]; omega)⟩, rfl⟩
    · exact WP_vret dX9_openChest_32 rfl ⟨⟨hI, rfl, (by omega)⟩, rfl⟩
set_option maxHeartbeats 4000000 in
set_option maxRecDepth 100000 in
theorem sx_wsleep_53_27 {g : GG} {n : Int} {L : Int32} (hy : LyX g)  {I : pI} {J : pJ} {R : pR} (hr : RfX g R) (hT : R (ad g 5) 0 = some (ad g 27)) (hI : XI g n L I) (so : Int32) (da : Int32) (co : Int32) (st : Int32) (so_lo : 0 ≤ so.toInt) (so_hi : so.toInt ≤ 3) (da_lo : 0 ≤ da.toInt) (da_hi : da.toInt ≤ 6) (co_lo : 0 ≤ co.toInt) (co_hi : co.toInt ≤ 60) (st_lo : 0 ≤ st.toInt) (st_hi : st.toInt ≤ 5) (hn : 0 ≤ n ∧ n ≤ 40000) (hb : (I (ad g 53) 1).toInt ≤ 23760 * n + 0 - 5940) : SP g mX9_sleep [.ref (ad g 49), .ref (ad g 53), .int so, .int da, .int co, .int st] I J R (fun r I' J' R' => (XI g n L I' ∧ R' = R ∧ (I' (ad g 53) 1).toInt ≤ (I (ad g 53) 1).toInt + 5940) ∧ r = none) := by
  refine SP_of ⟨by decide, rfl⟩ (Nat.le_of_ble_eq_true rfl) ?_
  have e7421 : I (ad g 1) 1 = L := hI.2
  have b7422 := BT_get hI.1 1 1 2 (0) (0) (900) (by decide) 1 (by decide) (by decide)
  rw [e7421] at b7422
  obtain ⟨w7423, ew7423⟩ : ∃ w : Int32, I (ad g 53) 1 = w := ⟨_, rfl⟩
  have bw7423 := BT_get hI.1 53 1 2 (0) (23760) (0) (by decide) 1 (by decide) (by decide)
  rw [ew7423] at bw7423
  rw [ew7423] at hb
  refine WP_iload_n dX9_sleep_0 rfl ?_
  refine WQ_bipush (7) (7) dX9_sleep_1 rfl rfl (fun v7424 hv7424 => ?_)
  refine WQ_imulk (7) dX9_sleep_3 hv7424 (by omega) (by omega) (fun v7425 hv7425 => ?_)
  refine WP_istore (ls' := [(0, _), (1, _), (2, _), (3, _), (4, _), (5, _), (6, _)]) dX9_sleep_4 (by decide) rfl ?_
  refine WP_aload_n dX9_sleep_6 rfl ?_
  refine WP_getr dX9_sleep_7 fX9_25 rfl (lyx_is hy 49 9 rfl) (rfx hr 49 2 5 (by decide)) ?_
  refine WP_getr dX9_sleep_10 fX9_49 rfl (lyx_is hy 5 0 rfl) hT ?_
  refine WP_getr dX9_sleep_13 fX9_71 rfl (lyx_is hy 27 7 rfl) (rfx hr 27 6 29 (by decide)) ?_
  refine WP_iload_n dX9_sleep_16 rfl ?_
  refine WQ_iald dX9_sleep_17 (lyx_is hy 29 13 rfl) (lyx_n hy 29 4 rfl) (by omega) (by omega) (fun q hq => BT_get hI.1 29 0 4 (0) (0) (99) (by decide) q (Nat.zero_le _) hq) (fun v7426 av7426 bv7426 ev7426 => ?_)
  clear ev7426
  refine WP_istore (ls' := [(0, _), (1, _), (2, _), (3, _), (4, _), (5, _), (6, _), (7, _)]) dX9_sleep_18 (by decide) rfl ?_
  refine WP_iload dX9_sleep_20 rfl ?_
  refine WP_iload dX9_sleep_22 rfl ?_
  refine WP_aload_n dX9_sleep_24 rfl ?_
  refine WP_getr dX9_sleep_25 fX9_25 rfl (lyx_is hy 49 9 rfl) (rfx hr 49 2 5 (by decide)) ?_
  refine WP_getr dX9_sleep_28 fX9_128 rfl (lyx_is hy 5 0 rfl) (rfx hr 5 2 23 (by decide)) ?_
  refine WP_iload_n dX9_sleep_31 rfl ?_
  refine WQ_iald dX9_sleep_32 (lyx_is hy 23 13 rfl) (lyx_n hy 23 7 rfl) (by omega) (by omega) (fun q hq => BT_get hI.1 23 0 7 (0) (0) (900) (by decide) q (Nat.zero_le _) hq) (fun v7427 av7427 bv7427 ev7427 => ?_)
  clear ev7427
  refine WP_callN2 dX9_sleep_33 ⟨⟨⟨by decide, by decide⟩, zX10_stampsOf⟩, lX9_131, tX10_stampsOf⟩ (sx_stampsOf hy hr hI co v7427 (by omega) (by omega) (by omega) (by omega)) (Nat.le_of_ble_eq_true rfl) ?_
  intro r Ia Ja Ra hq
  obtain ⟨⟨ea, eb, ec⟩, v7428, rfl, av7428, bv7428, cv7428⟩ := hq
  show WP _ _ _ _ (.int _ :: _) _ _ _ _
  rw [ea, eb, ec]
  clear ea eb ec Ia Ja Ra
  refine WQ_imulb (99) (999) dX9_sleep_36 ⟨by omega, by omega⟩ ⟨by omega, by omega⟩ (by decide) (fun v7429 pv7429 av7429 bv7429 cv7429 => ?_)
  refine WP_istore (ls' := [(0, _), (1, _), (2, _), (3, _), (4, _), (5, _), (6, _), (7, _), (8, _)]) dX9_sleep_37 (by decide) rfl ?_
  refine WP_aload_n dX9_sleep_39 rfl ?_
  refine WP_getr dX9_sleep_40 fX9_25 rfl (lyx_is hy 49 9 rfl) (rfx hr 49 2 5 (by decide)) ?_
  refine WP_getr dX9_sleep_43 fX9_134 rfl (lyx_is hy 5 0 rfl) (rfx hr 5 5 26 (by decide)) ?_
  refine WP_iload dX9_sleep_46 rfl ?_
  refine WQ_iald dX9_sleep_48 (lyx_is hy 26 13 rfl) (lyx_n hy 26 6 rfl) (by omega) (by omega) (fun q hq => BT_get hI.1 26 0 6 (0) (0) (5) (by decide) q (Nat.zero_le _) hq) (fun v7430 av7430 bv7430 ev7430 => ?_)
  clear ev7430
  refine WP_istore (ls' := [(0, _), (1, _), (2, _), (3, _), (4, _), (5, _), (6, _), (7, _), (8, _), (9, _)]) dX9_sleep_49 (by decide) rfl ?_
  refine WP_aload_n dX9_sleep_51 rfl ?_
  refine WP_dup dX9_sleep_52 rfl ?_
  refine WQ_getim dX9_sleep_53 fX9_74 rfl (lyx_is hy 53 4 rfl) ew7423 ?_
  refine WP_iload dX9_sleep_56 rfl ?_
  refine WQ_iadd dX9_sleep_58 (by omega) (by omega) (fun v7431 hv7431 => ?_)
  refine WQ_puti dX9_sleep_59 fX9_74 rfl rfl (lyx_is hy 53 4 rfl) (fun I7432 eI7432 => ?_)
  have hI7432 : XI g n L I7432 := by rw [eI7432]; exact (xi_f hy hI (c := 53) (0) (23760) (0) (by decide) (Or.inl (by decide)) (by decide) (by omega) (by omega))
  have e7433 : I7432 (ad g 1) 1 = L := by rw [eI7432, pp_ne _ _ (Or.inl (lyx_ne hy (by decide) (by decide) (by decide)))]; exact e7421
  have e7434 : I7432 (ad g 53) 1 = v7431 := by rw [eI7432, pp_self]
  clear eI7432
  refine WP_aload_n dX9_sleep_62 rfl ?_
  refine WP_getr dX9_sleep_63 fX9_75 rfl (lyx_is hy 53 4 rfl) (rfx hr 53 5 55 (by decide)) ?_
  refine WP_iload dX9_sleep_66 rfl ?_
  refine WQ_iconst (3) (3) dX9_sleep_68 rfl rfl (fun v7435 hv7435 => ?_)
  refine WQ_iadd dX9_sleep_69 (by omega) (by omega) (fun v7436 hv7436 => ?_)
  refine WP_dup2 dX9_sleep_70 rfl rfl ?_
  refine WQ_ialdu dX9_sleep_71 (lyx_is hy 55 13 rfl) (lyx_n hy 55 28 rfl) (by omega) (by omega) (fun v7437 => ?_)
  refine WP_iload dX9_sleep_72 rfl ?_
  refine WQ_iaddu dX9_sleep_74 (fun v7438 => ?_)
  refine WQ_iast dX9_sleep_75 (lyx_is hy 55 13 rfl) (lyx_n hy 55 28 rfl) (by omega) (by omega) (fun I7439 eI7439 => ?_)
  have hI7439 : XI g n L I7439 := by rw [eI7439]; exact (fa_put hy hI7432 (c := 55) (k := 3) (s := so.toInt.toNat) (by decide) (by omega) (by decide) (by rw [cl (n := 7 * so.toInt.toNat + 3) (by omega)]) (fun h => absurd h (by decide)) (fun h => absurd h (by decide)))
  have e7440 : I7439 (ad g 1) 1 = L := by rw [eI7439, pp_ne _ _ (Or.inl (lyx_ne hy (by decide) (by decide) (by decide)))]; exact e7433
  have e7441 : I7439 (ad g 53) 1 = v7431 := by rw [eI7439, pp_ne _ _ (Or.inl (lyx_ne hy (by decide) (by decide) (by decide)))]; exact e7434
  clear eI7439
  refine WP_aload_n dX9_sleep_76 rfl ?_
  refine WP_getr dX9_sleep_77 fX9_75 rfl (lyx_is hy 53 4 rfl) (rfx hr 53 5 55 (by decide)) ?_
  refine WP_iload dX9_sleep_80 rfl ?_
  refine WQ_iconst (5) (5) dX9_sleep_82 rfl rfl (fun v7442 hv7442 => ?_)
  refine WQ_iadd dX9_sleep_83 (by omega) (by omega) (fun v7443 hv7443 => ?_)
  refine WP_dup2 dX9_sleep_84 rfl rfl ?_
  refine WQ_ialdu dX9_sleep_85 (lyx_is hy 55 13 rfl) (lyx_n hy 55 28 rfl) (by omega) (by omega) (fun v7444 => ?_)
  refine WP_iload dX9_sleep_86 rfl ?_
  refine WP_iload dX9_sleep_88 rfl ?_
  refine WP_iload dX9_sleep_90 rfl ?_
  refine WQ_isub dX9_sleep_92 (by omega) (by omega) (fun v7445 hv7445 => ?_)
  refine WQ_imulu dX9_sleep_93 (fun v7446 => ?_)
  refine WQ_iaddu dX9_sleep_94 (fun v7447 => ?_)
  refine WQ_iast dX9_sleep_95 (lyx_is hy 55 13 rfl) (lyx_n hy 55 28 rfl) (by omega) (by omega) (fun I7448 eI7448 => ?_)
  have hI7448 : XI g n L I7448 := by rw [eI7448]; exact (fa_put hy hI7439 (c := 55) (k := 5) (s := so.toInt.toNat) (by decide) (by omega) (by decide) (by rw [cl (n := 7 * so.toInt.toNat + 5) (by omega)]) (fun h => absurd h (by decide)) (fun h => absurd h (by decide)))
  have e7449 : I7448 (ad g 1) 1 = L := by rw [eI7448, pp_ne _ _ (Or.inl (lyx_ne hy (by decide) (by decide) (by decide)))]; exact e7440
  have e7450 : I7448 (ad g 53) 1 = v7431 := by rw [eI7448, pp_ne _ _ (Or.inl (lyx_ne hy (by decide) (by decide) (by decide)))]; exact e7441
  clear eI7448
  refine WP_aload_n dX9_sleep_96 rfl ?_
  refine WP_getr dX9_sleep_97 fX9_75 rfl (lyx_is hy 53 4 rfl) (rfx hr 53 5 55 (by decide)) ?_
  refine WP_iload dX9_sleep_100 rfl ?_
  refine WQ_iconst (0) (0) dX9_sleep_102 rfl rfl (fun v7451 hv7451 => ?_)
  refine WQ_iadd dX9_sleep_103 (by omega) (by omega) (fun v7452 hv7452 => ?_)
  refine WP_aload_n dX9_sleep_104 rfl ?_
  refine WP_getr dX9_sleep_105 fX9_25 rfl (lyx_is hy 49 9 rfl) (rfx hr 49 2 5 (by decide)) ?_
  refine WP_iload dX9_sleep_108 rfl ?_
  refine WP_iload dX9_sleep_110 rfl ?_
  refine WP_iload_n dX9_sleep_112 rfl ?_
  refine WP_callV3 (k := 0) dX9_sleep_113 ⟨⟨⟨by decide, by decide⟩, zX0_coinsBehind⟩, lX9_137, by decide, rfl, vX0_coinsBehind.1, vX0_coinsBehind.2⟩ (lyx_is hy 5 0 rfl) (sx_coinsBehind hy hr hI7448 co st da (by omega) (by omega) (by omega) (by omega) (by omega) (by omega)) (Nat.le_of_ble_eq_true rfl) ?_
  intro r Ia Ja Ra hq
  obtain ⟨⟨ea, eb, ec⟩, v7453, rfl, av7453, bv7453⟩ := hq
  show WP _ _ _ _ (.int _ :: _) _ _ _ _
  rw [ea, eb, ec]
  clear ea eb ec Ia Ja Ra
  refine WQ_iast dX9_sleep_116 (lyx_is hy 55 13 rfl) (lyx_n hy 55 28 rfl) (by omega) (by omega) (fun I7454 eI7454 => ?_)
  have hI7454 : XI g n L I7454 := by rw [eI7454]; exact (fa_put hy hI7448 (c := 55) (k := 0) (s := so.toInt.toNat) (by decide) (by omega) (by decide) (by rw [cl (n := 7 * so.toInt.toNat + 0) (by omega)]) (fun _ => by omega) (fun _ => by omega))
  have e7455 : I7454 (ad g 1) 1 = L := by rw [eI7454, pp_ne _ _ (Or.inl (lyx_ne hy (by decide) (by decide) (by decide)))]; exact e7449
  have e7456 : I7454 (ad g 53) 1 = v7431 := by rw [eI7454, pp_ne _ _ (Or.inl (lyx_ne hy (by decide) (by decide) (by decide)))]; exact e7450
  clear eI7454
  refine WP_aload_n dX9_sleep_117 rfl ?_
  refine WP_getr dX9_sleep_118 fX9_75 rfl (lyx_is hy 53 4 rfl) (rfx hr 53 5 55 (by decide)) ?_
  refine WP_iload dX9_sleep_121 rfl ?_
  refine WQ_iconst (1) (1) dX9_sleep_123 rfl rfl (fun v7457 hv7457 => ?_)
  refine WQ_iadd dX9_sleep_124 (by omega) (by omega) (fun v7458 hv7458 => ?_)
  refine WP_iload dX9_sleep_125 rfl ?_
  refine WQ_iast dX9_sleep_127 (lyx_is hy 55 13 rfl) (lyx_n hy 55 28 rfl) (by omega) (by omega) (fun I7459 eI7459 => ?_)
  have hI7459 : XI g n L I7459 := by rw [eI7459]; exact (fa_put hy hI7454 (c := 55) (k := 1) (s := so.toInt.toNat) (by decide) (by omega) (by decide) (by rw [cl (n := 7 * so.toInt.toNat + 1) (by omega)]) (fun _ => by omega) (fun _ => by omega))
  have e7460 : I7459 (ad g 1) 1 = L := by rw [eI7459, pp_ne _ _ (Or.inl (lyx_ne hy (by decide) (by decide) (by decide)))]; exact e7455
  have e7461 : I7459 (ad g 53) 1 = v7431 := by rw [eI7459, pp_ne _ _ (Or.inl (lyx_ne hy (by decide) (by decide) (by decide)))]; exact e7456
  clear eI7459
  exact WP_vret dX9_sleep_128 rfl ⟨⟨hI7459, rfl, (by rw [e7461, ew7423]; omega)⟩, rfl⟩
set_option maxHeartbeats 4000000 in
set_option maxRecDepth 100000 in
theorem sx_openChest_56_6 {g : GG} {n : Int} {L : Int32} (hy : LyX g)  {I : pI} {J : pJ} {R : pR} (hr : RfX g R) (hT : R (ad g 5) 0 = some (ad g 6)) (hI : XI g n L I)   (hn : 0 ≤ n ∧ n ≤ 40000) : SP g mX9_openChest [.ref (ad g 49), .ref (ad g 56)] I J R (fun r I' J' R' => (XI g n L I' ∧ R' = R ∧ (I' (ad g 56) 1).toInt ≤ (I (ad g 56) 1).toInt) ∧ r = none) := by
  refine SP_of ⟨by decide, rfl⟩ (Nat.le_of_ble_eq_true rfl) ?_
  have e7462 : I (ad g 1) 1 = L := hI.2
  have b7463 := BT_get hI.1 1 1 2 (0) (0) (900) (by decide) 1 (by decide) (by decide)
  rw [e7462] at b7463
  obtain ⟨w7464, ew7464⟩ : ∃ w : Int32, I (ad g 56) 1 = w := ⟨_, rfl⟩
  have bw7464 := BT_get hI.1 56 1 2 (0) (23760) (700000) (by decide) 1 (by decide) (by decide)
  rw [ew7464] at bw7464
  refine WP_aload_n dX9_openChest_0 rfl ?_
  refine WP_getr dX9_openChest_1 fX9_25 rfl (lyx_is hy 49 9 rfl) (rfx hr 49 2 5 (by decide)) ?_
  refine WP_getr dX9_openChest_4 fX9_49 rfl (lyx_is hy 5 0 rfl) hT ?_
  refine WQ_geti dX9_openChest_7 fX9_68 rfl (lyx_is hy 6 7 rfl) (BT_get hI.1 6 3 4 (-1) (0) (3) (by decide) 3 (by decide) (by decide)) (fun v7465 ev7465 av7465 bv7465 => ?_)
  refine WP_istore_n (ls' := [(0, _), (1, _), (2, _)]) dX9_openChest_10 (by decide) rfl ?_
  refine WP_iload_n dX9_openChest_11 rfl ?_
  refine WQ_iconst (-1) (-1) dX9_openChest_12 rfl rfl (fun v7466 hv7466 => ?_)
  refine WQ_icmp_eq 32 dX9_openChest_13 rfl (fun c7466 => ?_) (fun c7466 => ?_)
  · exact WP_vret dX9_openChest_32 rfl ⟨⟨hI, rfl, (by omega)⟩, rfl⟩
  · refine WP_aload_n dX9_openChest_16 rfl ?_
    refine WP_getr dX9_openChest_17 fX9_25 rfl (lyx_is hy 49 9 rfl) (rfx hr 49 2 5 (by decide)) ?_
    refine WP_getr dX9_openChest_20 fX9_49 rfl (lyx_is hy 5 0 rfl) hT ?_
    refine WP_getr dX9_openChest_23 fX9_71 rfl (lyx_is hy 6 7 rfl) (rfx hr 6 6 8 (by decide)) ?_
    refine WP_iload_n dX9_openChest_26 rfl ?_
    refine WQ_iald dX9_openChest_27 (lyx_is hy 8 13 rfl) (lyx_n hy 8 4 rfl) (by omega) (by omega) (fun q hq => BT_get hI.1 8 0 4 (0) (0) (99) (by decide) q (Nat.zero_le _) hq) (fun v7468 av7468 bv7468 ev7468 => ?_)
    refine WQ_iconst (1) (1) dX9_openChest_28 rfl rfl (fun v7469 hv7469 => ?_)
    refine WQ_icmp_ge 33 dX9_openChest_29 rfl (fun c7469 => ?_) (fun c7469 => ?_)
    · refine WP_aload_n dX9_openChest_33 rfl ?_
      refine WP_getr dX9_openChest_34 fX9_25 rfl (lyx_is hy 49 9 rfl) (rfx hr 49 2 5 (by decide)) ?_
      refine WP_getr dX9_openChest_37 fX9_49 rfl (lyx_is hy 5 0 rfl) hT ?_
      refine WP_getr dX9_openChest_40 fX9_71 rfl (lyx_is hy 6 7 rfl) (rfx hr 6 6 8 (by decide)) ?_
      refine WP_iload_n dX9_openChest_43 rfl ?_
      refine WQ_ialde dX9_openChest_44 (lyx_is hy 8 13 rfl) (lyx_n hy 8 4 rfl) (by omega) (by omega) ev7468 ?_
      refine WP_istore_n (ls' := [(0, _), (1, _), (2, _), (3, _)]) dX9_openChest_45 (by decide) rfl ?_
      refine WP_aload_n dX9_openChest_46 rfl ?_
      refine WQ_getim dX9_openChest_47 fX9_74 rfl (lyx_is hy 56 4 rfl) ew7464 ?_
      refine WP_iload_n dX9_openChest_50 rfl ?_
      refine WQ_idivb dX9_openChest_51 (by omega) (by omega) (fun v7472 pv7472 av7472 bv7472 cv7472 => ?_)
      refine WP_istore (ls' := [(0, _), (1, _), (2, _), (3, _), (4, _)]) dX9_openChest_52 (by decide) rfl ?_
      refine WP_iload_n dX9_openChest_54 rfl ?_
      refine WQ_bipush (7) (7) dX9_openChest_55 rfl rfl (fun v7473 hv7473 => ?_)
      refine WQ_imulk (7) dX9_openChest_57 hv7473 (by omega) (by omega) (fun v7474 hv7474 => ?_)
      refine WP_istore (ls' := [(0, _), (1, _), (2, _), (3, _), (4, _), (5, _)]) dX9_openChest_58 (by decide) rfl ?_
      refine WP_aload_n dX9_openChest_60 rfl ?_
      refine WP_dup dX9_openChest_61 rfl ?_
      refine WQ_getim dX9_openChest_62 fX9_74 rfl (lyx_is hy 56 4 rfl) ew7464 ?_
      refine WP_iload dX9_openChest_65 rfl ?_
      refine WP_iload_n dX9_openChest_67 rfl ?_
      have knv7475 : 0 ≤ v7472.toInt * v7468.toInt := Int.mul_nonneg (by omega) (by omega)
      refine WQ_imulx dX9_openChest_68 (by omega) (by omega) (fun v7475 pv7475 => ?_)
      refine WQ_isub dX9_openChest_69 (by omega) (by omega) (fun v7476 hv7476 => ?_)
      refine WQ_puti dX9_openChest_70 fX9_74 rfl rfl (lyx_is hy 56 4 rfl) (fun I7477 eI7477 => ?_)
      have hI7477 : XI g n L I7477 := by rw [eI7477]; exact (xi_f hy hI (c := 56) (0) (23760) (700000) (by decide) (Or.inl (by decide)) (by decide) (by omega) (by omega))
      have e7478 : I7477 (ad g 1) 1 = L := by rw [eI7477, pp_ne _ _ (Or.inl (lyx_ne hy (by decide) (by decide) (by decide)))]; exact e7462
      have e7479 : I7477 (ad g 6) 3 = v7465 := by rw [eI7477, pp_ne _ _ (Or.inl (lyx_ne hy (by decide) (by decide) (by decide)))]; exact ev7465
      have e7480 : I7477 (ad g 8) v7465.toNatClampNeg = v7468 := by rw [eI7477, pp_ne _ _ (Or.inl (lyx_ne hy (by decide) (by decide) (by decide)))]; exact ev7468
      have e7481 : I7477 (ad g 56) 1 = v7476 := by rw [eI7477, pp_self]
      clear eI7477
      refine WP_aload_n dX9_openChest_73 rfl ?_
      refine WP_getr dX9_openChest_74 fX9_75 rfl (lyx_is hy 56 4 rfl) (rfx hr 56 5 58 (by decide)) ?_
      refine WP_iload dX9_openChest_77 rfl ?_
      refine WQ_bipush (6) (6) dX9_openChest_79 rfl rfl (fun v7482 hv7482 => ?_)
      refine WQ_iadd dX9_openChest_81 (by omega) (by omega) (fun v7483 hv7483 => ?_)
      refine WP_dup2 dX9_openChest_82 rfl rfl ?_
      refine WQ_ialdu dX9_openChest_83 (lyx_is hy 58 13 rfl) (lyx_n hy 58 28 rfl) (by omega) (by omega) (fun v7484 => ?_)
      refine WP_iload dX9_openChest_84 rfl ?_
      refine WP_iload_n dX9_openChest_86 rfl ?_
      have knv7485 : 0 ≤ v7472.toInt * v7468.toInt := Int.mul_nonneg (by omega) (by omega)
      refine WQ_imulx dX9_openChest_87 (by omega) (by omega) (fun v7485 pv7485 => ?_)
      refine WQ_iaddu dX9_openChest_88 (fun v7486 => ?_)
      refine WQ_iast dX9_openChest_89 (lyx_is hy 58 13 rfl) (lyx_n hy 58 28 rfl) (by omega) (by omega) (fun I7487 eI7487 => ?_)
      have hI7487 : XI g n L I7487 := by rw [eI7487]; exact (fa_put hy hI7477 (c := 58) (k := 6) (s := v7465.toInt.toNat) (by decide) (by omega) (by decide) (by rw [cl (n := 7 * v7465.toInt.toNat + 6) (by omega)]) (fun h => absurd h (by decide)) (fun h => absurd h (by decide)))
      have e7488 : I7487 (ad g 1) 1 = L := by rw [eI7487, pp_ne _ _ (Or.inl (lyx_ne hy (by decide) (by decide) (by decide)))]; exact e7478
      have e7489 : I7487 (ad g 6) 3 = v7465 := by rw [eI7487, pp_ne _ _ (Or.inl (lyx_ne hy (by decide) (by decide) (by decide)))]; exact e7479
      have e7490 : I7487 (ad g 8) v7465.toNatClampNeg = v7468 := by rw [eI7487, pp_ne _ _ (Or.inl (lyx_ne hy (by decide) (by decide) (by decide)))]; exact e7480
      have e7491 : I7487 (ad g 56) 1 = v7476 := by rw [eI7487, pp_ne _ _ (Or.inl (lyx_ne hy (by decide) (by decide) (by decide)))]; exact e7481
      clear eI7487
      refine WP_aload_n dX9_openChest_90 rfl ?_
      refine WP_getr dX9_openChest_91 fX9_75 rfl (lyx_is hy 56 4 rfl) (rfx hr 56 5 58 (by decide)) ?_
      refine WP_iload dX9_openChest_94 rfl ?_
      refine WQ_iconst (0) (0) dX9_openChest_96 rfl rfl (fun v7492 hv7492 => ?_)
      refine WQ_iadd dX9_openChest_97 (by omega) (by omega) (fun v7493 hv7493 => ?_)
      refine WQ_bipush (60) (60) dX9_openChest_98 rfl rfl (fun v7494 hv7494 => ?_)
      refine WP_aload_n dX9_openChest_100 rfl ?_
      refine WP_getr dX9_openChest_101 fX9_75 rfl (lyx_is hy 56 4 rfl) (rfx hr 56 5 58 (by decide)) ?_
      refine WP_iload dX9_openChest_104 rfl ?_
      refine WQ_iconst (0) (0) dX9_openChest_106 rfl rfl (fun v7495 hv7495 => ?_)
      refine WQ_iadd dX9_openChest_107 (by omega) (by omega) (fun v7496 hv7496 => ?_)
      refine WQ_ialdf (q := 7 * v7465.toInt.toNat) dX9_openChest_108 (lyx_is hy 58 13 rfl) (lyx_n hy 58 28 rfl) (by omega) (by omega) (by omega) (fa_get0 hI7487 (c := 58) (by decide) (by omega)) (fun v7497 av7497 bv7497 => ?_)
      refine WP_iload dX9_openChest_109 rfl ?_
      refine WQ_iadd dX9_openChest_111 (by omega) (by omega) (fun v7498 hv7498 => ?_)
      refine WQ_min dX9_openChest_112 lX9_78 ⟨by decide, Nat.le_of_ble_eq_true rfl⟩ (fun v7499 av7499 bv7499 cv7499 => ?_)
      refine WQ_iast dX9_openChest_115 (lyx_is hy 58 13 rfl) (lyx_n hy 58 28 rfl) (by omega) (by omega) (fun I7500 eI7500 => ?_)
      have hI7500 : XI g n L I7500 := by rw [eI7500]; exact (fa_put hy hI7487 (c := 58) (k := 0) (s := v7465.toInt.toNat) (by decide) (by omega) (by decide) (by rw [cl (n := 7 * v7465.toInt.toNat + 0) (by omega)]) (fun _ => by omega) (fun _ => by omega))
      have e7501 : I7500 (ad g 1) 1 = L := by rw [eI7500, pp_ne _ _ (Or.inl (lyx_ne hy (by decide) (by decide) (by decide)))]; exact e7488
      have e7502 : I7500 (ad g 6) 3 = v7465 := by rw [eI7500, pp_ne _ _ (Or.inl (lyx_ne hy (by decide) (by decide) (by decide)))]; exact e7489
      have e7503 : I7500 (ad g 8) v7465.toNatClampNeg = v7468 := by rw [eI7500, pp_ne _ _ (Or.inl (lyx_ne hy (by decide) (by decide) (by decide)))]; exact e7490
      have e7504 : I7500 (ad g 56) 1 = v7476 := by rw [eI7500, pp_ne _ _ (Or.inl (lyx_ne hy (by decide) (by decide) (by decide)))]; exact e7491
      clear eI7500
      exact WP_vret dX9_openChest_116 rfl ⟨⟨hI7500, rfl, (by rw [e7504, ew7464]; omega)⟩, rfl⟩
    · exact WP_vret dX9_openChest_32 rfl ⟨⟨hI, rfl, (by omega)⟩, rfl⟩
set_option maxHeartbeats 4000000 in
set_option maxRecDepth 100000 in
theorem sx_wsleep_56_6 {g : GG} {n : Int} {L : Int32} (hy : LyX g)  {I : pI} {J : pJ} {R : pR} (hr : RfX g R) (hT : R (ad g 5) 0 = some (ad g 6)) (hI : XI g n L I) (so : Int32) (da : Int32) (co : Int32) (st : Int32) (so_lo : 0 ≤ so.toInt) (so_hi : so.toInt ≤ 3) (da_lo : 0 ≤ da.toInt) (da_hi : da.toInt ≤ 6) (co_lo : 0 ≤ co.toInt) (co_hi : co.toInt ≤ 60) (st_lo : 0 ≤ st.toInt) (st_hi : st.toInt ≤ 5) (hn : 0 ≤ n ∧ n ≤ 40000) (hb : (I (ad g 56) 1).toInt ≤ 23760 * n + 700000 - 5940) : SP g mX9_sleep [.ref (ad g 49), .ref (ad g 56), .int so, .int da, .int co, .int st] I J R (fun r I' J' R' => (XI g n L I' ∧ R' = R ∧ (I' (ad g 56) 1).toInt ≤ (I (ad g 56) 1).toInt + 5940) ∧ r = none) := by
  refine SP_of ⟨by decide, rfl⟩ (Nat.le_of_ble_eq_true rfl) ?_
  have e7505 : I (ad g 1) 1 = L := hI.2
  have b7506 := BT_get hI.1 1 1 2 (0) (0) (900) (by decide) 1 (by decide) (by decide)
  rw [e7505] at b7506
  obtain ⟨w7507, ew7507⟩ : ∃ w : Int32, I (ad g 56) 1 = w := ⟨_, rfl⟩
  have bw7507 := BT_get hI.1 56 1 2 (0) (23760) (700000) (by decide) 1 (by decide) (by decide)
  rw [ew7507] at bw7507
  rw [ew7507] at hb
  refine WP_iload_n dX9_sleep_0 rfl ?_
  refine WQ_bipush (7) (7) dX9_sleep_1 rfl rfl (fun v7508 hv7508 => ?_)
  refine WQ_imulk (7) dX9_sleep_3 hv7508 (by omega) (by omega) (fun v7509 hv7509 => ?_)
  refine WP_istore (ls' := [(0, _), (1, _), (2, _), (3, _), (4, _), (5, _), (6, _)]) dX9_sleep_4 (by decide) rfl ?_
  refine WP_aload_n dX9_sleep_6 rfl ?_
  refine WP_getr dX9_sleep_7 fX9_25 rfl (lyx_is hy 49 9 rfl) (rfx hr 49 2 5 (by decide)) ?_
  refine WP_getr dX9_sleep_10 fX9_49 rfl (lyx_is hy 5 0 rfl) hT ?_
  refine WP_getr dX9_sleep_13 fX9_71 rfl (lyx_is hy 6 7 rfl) (rfx hr 6 6 8 (by decide)) ?_
  refine WP_iload_n dX9_sleep_16 rfl ?_
  refine WQ_iald dX9_sleep_17 (lyx_is hy 8 13 rfl) (lyx_n hy 8 4 rfl) (by omega) (by omega) (fun q hq => BT_get hI.1 8 0 4 (0) (0) (99) (by decide) q (Nat.zero_le _) hq) (fun v7510 av7510 bv7510 ev7510 => ?_)
  clear ev7510
  refine WP_istore (ls' := [(0, _), (1, _), (2, _), (3, _), (4, _), (5, _), (6, _), (7, _)]) dX9_sleep_18 (by decide) rfl ?_
  refine WP_iload dX9_sleep_20 rfl ?_
  refine WP_iload dX9_sleep_22 rfl ?_
  refine WP_aload_n dX9_sleep_24 rfl ?_
  refine WP_getr dX9_sleep_25 fX9_25 rfl (lyx_is hy 49 9 rfl) (rfx hr 49 2 5 (by decide)) ?_
  refine WP_getr dX9_sleep_28 fX9_128 rfl (lyx_is hy 5 0 rfl) (rfx hr 5 2 23 (by decide)) ?_
  refine WP_iload_n dX9_sleep_31 rfl ?_
  refine WQ_iald dX9_sleep_32 (lyx_is hy 23 13 rfl) (lyx_n hy 23 7 rfl) (by omega) (by omega) (fun q hq => BT_get hI.1 23 0 7 (0) (0) (900) (by decide) q (Nat.zero_le _) hq) (fun v7511 av7511 bv7511 ev7511 => ?_)
  clear ev7511
  refine WP_callN2 dX9_sleep_33 ⟨⟨⟨by decide, by decide⟩, zX10_stampsOf⟩, lX9_131, tX10_stampsOf⟩ (sx_stampsOf hy hr hI co v7511 (by omega) (by omega) (by omega) (by omega)) (Nat.le_of_ble_eq_true rfl) ?_
  intro r Ia Ja Ra hq
  obtain ⟨⟨ea, eb, ec⟩, v7512, rfl, av7512, bv7512, cv7512⟩ := hq
  show WP _ _ _ _ (.int _ :: _) _ _ _ _
  rw [ea, eb, ec]
  clear ea eb ec Ia Ja Ra
  refine WQ_imulb (99) (999) dX9_sleep_36 ⟨by omega, by omega⟩ ⟨by omega, by omega⟩ (by decide) (fun v7513 pv7513 av7513 bv7513 cv7513 => ?_)
  refine WP_istore (ls' := [(0, _), (1, _), (2, _), (3, _), (4, _), (5, _), (6, _), (7, _), (8, _)]) dX9_sleep_37 (by decide) rfl ?_
  refine WP_aload_n dX9_sleep_39 rfl ?_
  refine WP_getr dX9_sleep_40 fX9_25 rfl (lyx_is hy 49 9 rfl) (rfx hr 49 2 5 (by decide)) ?_
  refine WP_getr dX9_sleep_43 fX9_134 rfl (lyx_is hy 5 0 rfl) (rfx hr 5 5 26 (by decide)) ?_
  refine WP_iload dX9_sleep_46 rfl ?_
  refine WQ_iald dX9_sleep_48 (lyx_is hy 26 13 rfl) (lyx_n hy 26 6 rfl) (by omega) (by omega) (fun q hq => BT_get hI.1 26 0 6 (0) (0) (5) (by decide) q (Nat.zero_le _) hq) (fun v7514 av7514 bv7514 ev7514 => ?_)
  clear ev7514
  refine WP_istore (ls' := [(0, _), (1, _), (2, _), (3, _), (4, _), (5, _), (6, _), (7, _), (8, _), (9, _)]) dX9_sleep_49 (by decide) rfl ?_
  refine WP_aload_n dX9_sleep_51 rfl ?_
  refine WP_dup dX9_sleep_52 rfl ?_
  refine WQ_getim dX9_sleep_53 fX9_74 rfl (lyx_is hy 56 4 rfl) ew7507 ?_
  refine WP_iload dX9_sleep_56 rfl ?_
  refine WQ_iadd dX9_sleep_58 (by omega) (by omega) (fun v7515 hv7515 => ?_)
  refine WQ_puti dX9_sleep_59 fX9_74 rfl rfl (lyx_is hy 56 4 rfl) (fun I7516 eI7516 => ?_)
  have hI7516 : XI g n L I7516 := by rw [eI7516]; exact (xi_f hy hI (c := 56) (0) (23760) (700000) (by decide) (Or.inl (by decide)) (by decide) (by omega) (by omega))
  have e7517 : I7516 (ad g 1) 1 = L := by rw [eI7516, pp_ne _ _ (Or.inl (lyx_ne hy (by decide) (by decide) (by decide)))]; exact e7505
  have e7518 : I7516 (ad g 56) 1 = v7515 := by rw [eI7516, pp_self]
  clear eI7516
  refine WP_aload_n dX9_sleep_62 rfl ?_
  refine WP_getr dX9_sleep_63 fX9_75 rfl (lyx_is hy 56 4 rfl) (rfx hr 56 5 58 (by decide)) ?_
  refine WP_iload dX9_sleep_66 rfl ?_
  refine WQ_iconst (3) (3) dX9_sleep_68 rfl rfl (fun v7519 hv7519 => ?_)
  refine WQ_iadd dX9_sleep_69 (by omega) (by omega) (fun v7520 hv7520 => ?_)
  refine WP_dup2 dX9_sleep_70 rfl rfl ?_
  refine WQ_ialdu dX9_sleep_71 (lyx_is hy 58 13 rfl) (lyx_n hy 58 28 rfl) (by omega) (by omega) (fun v7521 => ?_)
  refine WP_iload dX9_sleep_72 rfl ?_
  refine WQ_iaddu dX9_sleep_74 (fun v7522 => ?_)
  refine WQ_iast dX9_sleep_75 (lyx_is hy 58 13 rfl) (lyx_n hy 58 28 rfl) (by omega) (by omega) (fun I7523 eI7523 => ?_)
  have hI7523 : XI g n L I7523 := by rw [eI7523]; exact (fa_put hy hI7516 (c := 58) (k := 3) (s := so.toInt.toNat) (by decide) (by omega) (by decide) (by rw [cl (n := 7 * so.toInt.toNat + 3) (by omega)]) (fun h => absurd h (by decide)) (fun h => absurd h (by decide)))
  have e7524 : I7523 (ad g 1) 1 = L := by rw [eI7523, pp_ne _ _ (Or.inl (lyx_ne hy (by decide) (by decide) (by decide)))]; exact e7517
  have e7525 : I7523 (ad g 56) 1 = v7515 := by rw [eI7523, pp_ne _ _ (Or.inl (lyx_ne hy (by decide) (by decide) (by decide)))]; exact e7518
  clear eI7523
  refine WP_aload_n dX9_sleep_76 rfl ?_
  refine WP_getr dX9_sleep_77 fX9_75 rfl (lyx_is hy 56 4 rfl) (rfx hr 56 5 58 (by decide)) ?_
  refine WP_iload dX9_sleep_80 rfl ?_
  refine WQ_iconst (5) (5) dX9_sleep_82 rfl rfl (fun v7526 hv7526 => ?_)
  refine WQ_iadd dX9_sleep_83 (by omega) (by omega) (fun v7527 hv7527 => ?_)
  refine WP_dup2 dX9_sleep_84 rfl rfl ?_
  refine WQ_ialdu dX9_sleep_85 (lyx_is hy 58 13 rfl) (lyx_n hy 58 28 rfl) (by omega) (by omega) (fun v7528 => ?_)
  refine WP_iload dX9_sleep_86 rfl ?_
  refine WP_iload dX9_sleep_88 rfl ?_
  refine WP_iload dX9_sleep_90 rfl ?_
  refine WQ_isub dX9_sleep_92 (by omega) (by omega) (fun v7529 hv7529 => ?_)
  refine WQ_imulu dX9_sleep_93 (fun v7530 => ?_)
  refine WQ_iaddu dX9_sleep_94 (fun v7531 => ?_)
  refine WQ_iast dX9_sleep_95 (lyx_is hy 58 13 rfl) (lyx_n hy 58 28 rfl) (by omega) (by omega) (fun I7532 eI7532 => ?_)
  have hI7532 : XI g n L I7532 := by rw [eI7532]; exact (fa_put hy hI7523 (c := 58) (k := 5) (s := so.toInt.toNat) (by decide) (by omega) (by decide) (by rw [cl (n := 7 * so.toInt.toNat + 5) (by omega)]) (fun h => absurd h (by decide)) (fun h => absurd h (by decide)))
  have e7533 : I7532 (ad g 1) 1 = L := by rw [eI7532, pp_ne _ _ (Or.inl (lyx_ne hy (by decide) (by decide) (by decide)))]; exact e7524
  have e7534 : I7532 (ad g 56) 1 = v7515 := by rw [eI7532, pp_ne _ _ (Or.inl (lyx_ne hy (by decide) (by decide) (by decide)))]; exact e7525
  clear eI7532
  refine WP_aload_n dX9_sleep_96 rfl ?_
  refine WP_getr dX9_sleep_97 fX9_75 rfl (lyx_is hy 56 4 rfl) (rfx hr 56 5 58 (by decide)) ?_
  refine WP_iload dX9_sleep_100 rfl ?_
  refine WQ_iconst (0) (0) dX9_sleep_102 rfl rfl (fun v7535 hv7535 => ?_)
  refine WQ_iadd dX9_sleep_103 (by omega) (by omega) (fun v7536 hv7536 => ?_)
  refine WP_aload_n dX9_sleep_104 rfl ?_
  refine WP_getr dX9_sleep_105 fX9_25 rfl (lyx_is hy 49 9 rfl) (rfx hr 49 2 5 (by decide)) ?_
  refine WP_iload dX9_sleep_108 rfl ?_
  refine WP_iload dX9_sleep_110 rfl ?_
  refine WP_iload_n dX9_sleep_112 rfl ?_
  refine WP_callV3 (k := 0) dX9_sleep_113 ⟨⟨⟨by decide, by decide⟩, zX0_coinsBehind⟩, lX9_137, by decide, rfl, vX0_coinsBehind.1, vX0_coinsBehind.2⟩ (lyx_is hy 5 0 rfl) (sx_coinsBehind hy hr hI7532 co st da (by omega) (by omega) (by omega) (by omega) (by omega) (by omega)) (Nat.le_of_ble_eq_true rfl) ?_
  intro r Ia Ja Ra hq
  obtain ⟨⟨ea, eb, ec⟩, v7537, rfl, av7537, bv7537⟩ := hq
  show WP _ _ _ _ (.int _ :: _) _ _ _ _
  rw [ea, eb, ec]
  clear ea eb ec Ia Ja Ra
  refine WQ_iast dX9_sleep_116 (lyx_is hy 58 13 rfl) (lyx_n hy 58 28 rfl) (by omega) (by omega) (fun I7538 eI7538 => ?_)
  have hI7538 : XI g n L I7538 := by rw [eI7538]; exact (fa_put hy hI7532 (c := 58) (k := 0) (s := so.toInt.toNat) (by decide) (by omega) (by decide) (by rw [cl (n := 7 * so.toInt.toNat + 0) (by omega)]) (fun _ => by omega) (fun _ => by omega))
  have e7539 : I7538 (ad g 1) 1 = L := by rw [eI7538, pp_ne _ _ (Or.inl (lyx_ne hy (by decide) (by decide) (by decide)))]; exact e7533
  have e7540 : I7538 (ad g 56) 1 = v7515 := by rw [eI7538, pp_ne _ _ (Or.inl (lyx_ne hy (by decide) (by decide) (by decide)))]; exact e7534
  clear eI7538
  refine WP_aload_n dX9_sleep_117 rfl ?_
  refine WP_getr dX9_sleep_118 fX9_75 rfl (lyx_is hy 56 4 rfl) (rfx hr 56 5 58 (by decide)) ?_
  refine WP_iload dX9_sleep_121 rfl ?_
  refine WQ_iconst (1) (1) dX9_sleep_123 rfl rfl (fun v7541 hv7541 => ?_)
  refine WQ_iadd dX9_sleep_124 (by omega) (by omega) (fun v7542 hv7542 => ?_)
  refine WP_iload dX9_sleep_125 rfl ?_
  refine WQ_iast dX9_sleep_127 (lyx_is hy 58 13 rfl) (lyx_n hy 58 28 rfl) (by omega) (by omega) (fun I7543 eI7543 => ?_)
  have hI7543 : XI g n L I7543 := by rw [eI7543]; exact (fa_put hy hI7538 (c := 58) (k := 1) (s := so.toInt.toNat) (by decide) (by omega) (by decide) (by rw [cl (n := 7 * so.toInt.toNat + 1) (by omega)]) (fun _ => by omega) (fun _ => by omega))
  have e7544 : I7543 (ad g 1) 1 = L := by rw [eI7543, pp_ne _ _ (Or.inl (lyx_ne hy (by decide) (by decide) (by decide)))]; exact e7539
  have e7545 : I7543 (ad g 56) 1 = v7515 := by rw [eI7543, pp_ne _ _ (Or.inl (lyx_ne hy (by decide) (by decide) (by decide)))]; exact e7540
  clear eI7543
  exact WP_vret dX9_sleep_128 rfl ⟨⟨hI7543, rfl, (by rw [e7545, ew7507]; omega)⟩, rfl⟩
set_option maxHeartbeats 4000000 in
set_option maxRecDepth 100000 in
theorem sx_openChest_56_27 {g : GG} {n : Int} {L : Int32} (hy : LyX g)  {I : pI} {J : pJ} {R : pR} (hr : RfX g R) (hT : R (ad g 5) 0 = some (ad g 27)) (hI : XI g n L I)   (hn : 0 ≤ n ∧ n ≤ 40000) : SP g mX9_openChest [.ref (ad g 49), .ref (ad g 56)] I J R (fun r I' J' R' => (XI g n L I' ∧ R' = R ∧ (I' (ad g 56) 1).toInt ≤ (I (ad g 56) 1).toInt) ∧ r = none) := by
  refine SP_of ⟨by decide, rfl⟩ (Nat.le_of_ble_eq_true rfl) ?_
  have e7546 : I (ad g 1) 1 = L := hI.2
  have b7547 := BT_get hI.1 1 1 2 (0) (0) (900) (by decide) 1 (by decide) (by decide)
  rw [e7546] at b7547
  obtain ⟨w7548, ew7548⟩ : ∃ w : Int32, I (ad g 56) 1 = w := ⟨_, rfl⟩
  have bw7548 := BT_get hI.1 56 1 2 (0) (23760) (700000) (by decide) 1 (by decide) (by decide)
  rw [ew7548] at bw7548
  refine WP_aload_n dX9_openChest_0 rfl ?_
  refine WP_getr dX9_openChest_1 fX9_25 rfl (lyx_is hy 49 9 rfl) (rfx hr 49 2 5 (by decide)) ?_
  refine WP_getr dX9_openChest_4 fX9_49 rfl (lyx_is hy 5 0 rfl) hT ?_
  refine WQ_geti dX9_openChest_7 fX9_68 rfl (lyx_is hy 27 7 rfl) (BT_get hI.1 27 3 4 (-1) (0) (3) (by decide) 3 (by decide) (by decide)) (fun v7549 ev7549 av7549 bv7549 => ?_)
  refine WP_istore_n (ls' := [(0, _), (1, _), (2, _)]) dX9_openChest_10 (by decide) rfl ?_
  refine WP_iload_n dX9_openChest_11 rfl ?_
  refine WQ_iconst (-1) (-1) dX9_openChest_12 rfl rfl (fun v7550 hv7550 => ?_)
  refine WQ_icmp_eq 32 dX9_openChest_13 rfl (fun c7550 => ?_) (fun c7550 => ?_)
  · exact WP_vret dX9_openChest_32 rfl ⟨⟨hI, rfl, (by omega)⟩, rfl⟩
  · refine WP_aload_n dX9_openChest_16 rfl ?_
    refine WP_getr dX9_openChest_17 fX9_25 rfl (lyx_is hy 49 9 rfl) (rfx hr 49 2 5 (by decide)) ?_
    refine WP_getr dX9_openChest_20 fX9_49 rfl (lyx_is hy 5 0 rfl) hT ?_
    refine WP_getr dX9_openChest_23 fX9_71 rfl (lyx_is hy 27 7 rfl) (rfx hr 27 6 29 (by decide)) ?_
    refine WP_iload_n dX9_openChest_26 rfl ?_
    refine WQ_iald dX9_openChest_27 (lyx_is hy 29 13 rfl) (lyx_n hy 29 4 rfl) (by omega) (by omega) (fun q hq => BT_get hI.1 29 0 4 (0) (0) (99) (by decide) q (Nat.zero_le _) hq) (fun v7552 av7552 bv7552 ev7552 => ?_)
    refine WQ_iconst (1) (1) dX9_openChest_28 rfl rfl (fun v7553 hv7553 => ?_)
    refine WQ_icmp_ge 33 dX9_openChest_29 rfl (fun c7553 => ?_) (fun c7553 => ?_)
    · refine WP_aload_n dX9_openChest_33 rfl ?_
      refine WP_getr dX9_openChest_34 fX9_25 rfl (lyx_is hy 49 9 rfl) (rfx hr 49 2 5 (by decide)) ?_
      refine WP_getr dX9_openChest_37 fX9_49 rfl (lyx_is hy 5 0 rfl) hT ?_
      refine WP_getr dX9_openChest_40 fX9_71 rfl (lyx_is hy 27 7 rfl) (rfx hr 27 6 29 (by decide)) ?_
      refine WP_iload_n dX9_openChest_43 rfl ?_
      refine WQ_ialde dX9_openChest_44 (lyx_is hy 29 13 rfl) (lyx_n hy 29 4 rfl) (by omega) (by omega) ev7552 ?_
      refine WP_istore_n (ls' := [(0, _), (1, _), (2, _), (3, _)]) dX9_openChest_45 (by decide) rfl ?_
      refine WP_aload_n dX9_openChest_46 rfl ?_
      refine WQ_getim dX9_openChest_47 fX9_74 rfl (lyx_is hy 56 4 rfl) ew7548 ?_
      refine WP_iload_n dX9_openChest_50 rfl ?_
      refine WQ_idivb dX9_openChest_51 (by omega) (by omega) (fun v7556 pv7556 av7556 bv7556 cv7556 => ?_)
      refine WP_istore (ls' := [(0, _), (1, _), (2, _), (3, _), (4, _)]) dX9_openChest_52 (by decide) rfl ?_
      refine WP_iload_n dX9_openChest_54 rfl ?_
      refine WQ_bipush (7) (7) dX9_openChest_55 rfl rfl (fun v7557 hv7557 => ?_)
      refine WQ_imulk (7) dX9_openChest_57 hv7557 (by omega) (by omega) (fun v7558 hv7558 => ?_)
      refine WP_istore (ls' := [(0, _), (1, _), (2, _), (3, _), (4, _), (5, _)]) dX9_openChest_58 (by decide) rfl ?_
      refine WP_aload_n dX9_openChest_60 rfl ?_
      refine WP_dup dX9_openChest_61 rfl ?_
      refine WQ_getim dX9_openChest_62 fX9_74 rfl (lyx_is hy 56 4 rfl) ew7548 ?_
      refine WP_iload dX9_openChest_65 rfl ?_
      refine WP_iload_n dX9_openChest_67 rfl ?_
      have knv7559 : 0 ≤ v7556.toInt * v7552.toInt := Int.mul_nonneg (by omega) (by omega)
      refine WQ_imulx dX9_openChest_68 (by omega) (by omega) (fun v7559 pv7559 => ?_)
      refine WQ_isub dX9_openChest_69 (by omega) (by omega) (fun v7560 hv7560 => ?_)
      refine WQ_puti dX9_openChest_70 fX9_74 rfl rfl (lyx_is hy 56 4 rfl) (fun I7561 eI7561 => ?_)
      have hI7561 : XI g n L I7561 := by rw [eI7561]; exact (xi_f hy hI (c := 56) (0) (23760) (700000) (by decide) (Or.inl (by decide)) (by decide) (by omega) (by omega))
      have e7562 : I7561 (ad g 1) 1 = L := by rw [eI7561, pp_ne _ _ (Or.inl (lyx_ne hy (by decide) (by decide) (by decide)))]; exact e7546
      have e7563 : I7561 (ad g 27) 3 = v7549 := by rw [eI7561, pp_ne _ _ (Or.inl (lyx_ne hy (by decide) (by decide) (by decide)))]; exact ev7549
      have e7564 : I7561 (ad g 29) v7549.toNatClampNeg = v7552 := by rw [eI7561, pp_ne _ _ (Or.inl (lyx_ne hy (by decide) (by decide) (by decide)))]; exact ev7552
      have e7565 : I7561 (ad g 56) 1 = v7560 := by rw [eI7561, pp_self]
      clear eI7561
      refine WP_aload_n dX9_openChest_73 rfl ?_
      refine WP_getr dX9_openChest_74 fX9_75 rfl (lyx_is hy 56 4 rfl) (rfx hr 56 5 58 (by decide)) ?_
      refine WP_iload dX9_openChest_77 rfl ?_
      refine WQ_bipush (6) (6) dX9_openChest_79 rfl rfl (fun v7566 hv7566 => ?_)
      refine WQ_iadd dX9_openChest_81 (by omega) (by omega) (fun v7567 hv7567 => ?_)
      refine WP_dup2 dX9_openChest_82 rfl rfl ?_
      refine WQ_ialdu dX9_openChest_83 (lyx_is hy 58 13 rfl) (lyx_n hy 58 28 rfl) (by omega) (by omega) (fun v7568 => ?_)
      refine WP_iload dX9_openChest_84 rfl ?_
      refine WP_iload_n dX9_openChest_86 rfl ?_
      have knv7569 : 0 ≤ v7556.toInt * v7552.toInt := Int.mul_nonneg (by omega) (by omega)
      refine WQ_imulx dX9_openChest_87 (by omega) (by omega) (fun v7569 pv7569 => ?_)
      refine WQ_iaddu dX9_openChest_88 (fun v7570 => ?_)
      refine WQ_iast dX9_openChest_89 (lyx_is hy 58 13 rfl) (lyx_n hy 58 28 rfl) (by omega) (by omega) (fun I7571 eI7571 => ?_)
      have hI7571 : XI g n L I7571 := by rw [eI7571]; exact (fa_put hy hI7561 (c := 58) (k := 6) (s := v7549.toInt.toNat) (by decide) (by omega) (by decide) (by rw [cl (n := 7 * v7549.toInt.toNat + 6) (by omega)]) (fun h => absurd h (by decide)) (fun h => absurd h (by decide)))
      have e7572 : I7571 (ad g 1) 1 = L := by rw [eI7571, pp_ne _ _ (Or.inl (lyx_ne hy (by decide) (by decide) (by decide)))]; exact e7562
      have e7573 : I7571 (ad g 27) 3 = v7549 := by rw [eI7571, pp_ne _ _ (Or.inl (lyx_ne hy (by decide) (by decide) (by decide)))]; exact e7563
      have e7574 : I7571 (ad g 29) v7549.toNatClampNeg = v7552 := by rw [eI7571, pp_ne _ _ (Or.inl (lyx_ne hy (by decide) (by decide) (by decide)))]; exact e7564
      have e7575 : I7571 (ad g 56) 1 = v7560 := by rw [eI7571, pp_ne _ _ (Or.inl (lyx_ne hy (by decide) (by decide) (by decide)))]; exact e7565
      clear eI7571
      refine WP_aload_n dX9_openChest_90 rfl ?_
      refine WP_getr dX9_openChest_91 fX9_75 rfl (lyx_is hy 56 4 rfl) (rfx hr 56 5 58 (by decide)) ?_
      refine WP_iload dX9_openChest_94 rfl ?_
      refine WQ_iconst (0) (0) dX9_openChest_96 rfl rfl (fun v7576 hv7576 => ?_)
      refine WQ_iadd dX9_openChest_97 (by omega) (by omega) (fun v7577 hv7577 => ?_)
      refine WQ_bipush (60) (60) dX9_openChest_98 rfl rfl (fun v7578 hv7578 => ?_)
      refine WP_aload_n dX9_openChest_100 rfl ?_
      refine WP_getr dX9_openChest_101 fX9_75 rfl (lyx_is hy 56 4 rfl) (rfx hr 56 5 58 (by decide)) ?_
      refine WP_iload dX9_openChest_104 rfl ?_
      refine WQ_iconst (0) (0) dX9_openChest_106 rfl rfl (fun v7579 hv7579 => ?_)
      refine WQ_iadd dX9_openChest_107 (by omega) (by omega) (fun v7580 hv7580 => ?_)
      refine WQ_ialdf (q := 7 * v7549.toInt.toNat) dX9_openChest_108 (lyx_is hy 58 13 rfl) (lyx_n hy 58 28 rfl) (by omega) (by omega) (by omega) (fa_get0 hI7571 (c := 58) (by decide) (by omega)) (fun v7581 av7581 bv7581 => ?_)
      refine WP_iload dX9_openChest_109 rfl ?_
      refine WQ_iadd dX9_openChest_111 (by omega) (by omega) (fun v7582 hv7582 => ?_)
      refine WQ_min dX9_openChest_112 lX9_78 ⟨by decide, Nat.le_of_ble_eq_true rfl⟩ (fun v7583 av7583 bv7583 cv7583 => ?_)
      refine WQ_iast dX9_openChest_115 (lyx_is hy 58 13 rfl) (lyx_n hy 58 28 rfl) (by omega) (by omega) (fun I7584 eI7584 => ?_)
      have hI7584 : XI g n L I7584 := by rw [eI7584]; exact (fa_put hy hI7571 (c := 58) (k := 0) (s := v7549.toInt.toNat) (by decide) (by omega) (by decide) (by rw [cl (n := 7 * v7549.toInt.toNat + 0) (by omega)]) (fun _ => by omega) (fun _ => by omega))
      have e7585 : I7584 (ad g 1) 1 = L := by rw [eI7584, pp_ne _ _ (Or.inl (lyx_ne hy (by decide) (by decide) (by decide)))]; exact e7572
      have e7586 : I7584 (ad g 27) 3 = v7549 := by rw [eI7584, pp_ne _ _ (Or.inl (lyx_ne hy (by decide) (by decide) (by decide)))]; exact e7573
      have e7587 : I7584 (ad g 29) v7549.toNatClampNeg = v7552 := by rw [eI7584, pp_ne _ _ (Or.inl (lyx_ne hy (by decide) (by decide) (by decide)))]; exact e7574
      have e7588 : I7584 (ad g 56) 1 = v7560 := by rw [eI7584, pp_ne _ _ (Or.inl (lyx_ne hy (by decide) (by decide) (by decide)))]; exact e7575
      clear eI7584
      exact WP_vret dX9_openChest_116 rfl ⟨⟨hI7584, rfl, (by rw [e7588, ew7548]; omega)⟩, rfl⟩
    · exact WP_vret dX9_openChest_32 rfl ⟨⟨hI, rfl, (by omega)⟩, rfl⟩
set_option maxHeartbeats 4000000 in
set_option maxRecDepth 100000 in
theorem sx_wsleep_56_27 {g : GG} {n : Int} {L : Int32} (hy : LyX g)  {I : pI} {J : pJ} {R : pR} (hr : RfX g R) (hT : R (ad g 5) 0 = some (ad g 27)) (hI : XI g n L I) (so : Int32) (da : Int32) (co : Int32) (st : Int32) (so_lo : 0 ≤ so.toInt) (so_hi : so.toInt ≤ 3) (da_lo : 0 ≤ da.toInt) (da_hi : da.toInt ≤ 6) (co_lo : 0 ≤ co.toInt) (co_hi : co.toInt ≤ 60) (st_lo : 0 ≤ st.toInt) (st_hi : st.toInt ≤ 5) (hn : 0 ≤ n ∧ n ≤ 40000) (hb : (I (ad g 56) 1).toInt ≤ 23760 * n + 700000 - 5940) : SP g mX9_sleep [.ref (ad g 49), .ref (ad g 56), .int so, .int da, .int co, .int st] I J R (fun r I' J' R' => (XI g n L I' ∧ R' = R ∧ (I' (ad g 56) 1).toInt ≤ (I (ad g 56) 1).toInt + 5940) ∧ r = none) := by
  refine SP_of ⟨by decide, rfl⟩ (Nat.le_of_ble_eq_true rfl) ?_
  have e7589 : I (ad g 1) 1 = L := hI.2
  have b7590 := BT_get hI.1 1 1 2 (0) (0) (900) (by decide) 1 (by decide) (by decide)
  rw [e7589] at b7590
  obtain ⟨w7591, ew7591⟩ : ∃ w : Int32, I (ad g 56) 1 = w := ⟨_, rfl⟩
  have bw7591 := BT_get hI.1 56 1 2 (0) (23760) (700000) (by decide) 1 (by decide) (by decide)
  rw [ew7591] at bw7591
  rw [ew7591] at hb
  refine WP_iload_n dX9_sleep_0 rfl ?_
  refine WQ_bipush (7) (7) dX9_sleep_1 rfl rfl (fun v7592 hv7592 => ?_)
  refine WQ_imulk (7) dX9_sleep_3 hv7592 (by omega) (by omega) (fun v7593 hv7593 => ?_)
  refine WP_istore (ls' := [(0, _), (1, _), (2, _), (3, _), (4, _), (5, _), (6, _)]) dX9_sleep_4 (by decide) rfl ?_
  refine WP_aload_n dX9_sleep_6 rfl ?_
  refine WP_getr dX9_sleep_7 fX9_25 rfl (lyx_is hy 49 9 rfl) (rfx hr 49 2 5 (by decide)) ?_
  refine WP_getr dX9_sleep_10 fX9_49 rfl (lyx_is hy 5 0 rfl) hT ?_
  refine WP_getr dX9_sleep_13 fX9_71 rfl (lyx_is hy 27 7 rfl) (rfx hr 27 6 29 (by decide)) ?_
  refine WP_iload_n dX9_sleep_16 rfl ?_
  refine WQ_iald dX9_sleep_17 (lyx_is hy 29 13 rfl) (lyx_n hy 29 4 rfl) (by omega) (by omega) (fun q hq => BT_get hI.1 29 0 4 (0) (0) (99) (by decide) q (Nat.zero_le _) hq) (fun v7594 av7594 bv7594 ev7594 => ?_)
  clear ev7594
  refine WP_istore (ls' := [(0, _), (1, _), (2, _), (3, _), (4, _), (5, _), (6, _), (7, _)]) dX9_sleep_18 (by decide) rfl ?_
  refine WP_iload dX9_sleep_20 rfl ?_
  refine WP_iload dX9_sleep_22 rfl ?_
  refine WP_aload_n dX9_sleep_24 rfl ?_
  refine WP_getr dX9_sleep_25 fX9_25 rfl (lyx_is hy 49 9 rfl) (rfx hr 49 2 5 (by decide)) ?_
  refine WP_getr dX9_sleep_28 fX9_128 rfl (lyx_is hy 5 0 rfl) (rfx hr 5 2 23 (by decide)) ?_
  refine WP_iload_n dX9_sleep_31 rfl ?_
  refine WQ_iald dX9_sleep_32 (lyx_is hy 23 13 rfl) (lyx_n hy 23 7 rfl) (by omega) (by omega) (fun q hq => BT_get hI.1 23 0 7 (0) (0) (900) (by decide) q (Nat.zero_le _) hq) (fun v7595 av7595 bv7595 ev7595 => ?_)
  clear ev7595
  refine WP_callN2 dX9_sleep_33 ⟨⟨⟨by decide, by decide⟩, zX10_stampsOf⟩, lX9_131, tX10_stampsOf⟩ (sx_stampsOf hy hr hI co v7595 (by omega) (by omega) (by omega) (by omega)) (Nat.le_of_ble_eq_true rfl) ?_
  intro r Ia Ja Ra hq
  obtain ⟨⟨ea, eb, ec⟩, v7596, rfl, av7596, bv7596, cv7596⟩ := hq
  show WP _ _ _ _ (.int _ :: _) _ _ _ _
  rw [ea, eb, ec]
  clear ea eb ec Ia Ja Ra
  refine WQ_imulb (99) (999) dX9_sleep_36 ⟨by omega, by omega⟩ ⟨by omega, by omega⟩ (by decide) (fun v7597 pv7597 av7597 bv7597 cv7597 => ?_)
  refine WP_istore (ls' := [(0, _), (1, _), (2, _), (3, _), (4, _), (5, _), (6, _), (7, _), (8, _)]) dX9_sleep_37 (by decide) rfl ?_
  refine WP_aload_n dX9_sleep_39 rfl ?_
  refine WP_getr dX9_sleep_40 fX9_25 rfl (lyx_is hy 49 9 rfl) (rfx hr 49 2 5 (by decide)) ?_
  refine WP_getr dX9_sleep_43 fX9_134 rfl (lyx_is hy 5 0 rfl) (rfx hr 5 5 26 (by decide)) ?_
  refine WP_iload dX9_sleep_46 rfl ?_
  refine WQ_iald dX9_sleep_48 (lyx_is hy 26 13 rfl) (lyx_n hy 26 6 rfl) (by omega) (by omega) (fun q hq => BT_get hI.1 26 0 6 (0) (0) (5) (by decide) q (Nat.zero_le _) hq) (fun v7598 av7598 bv7598 ev7598 => ?_)
  clear ev7598
  refine WP_istore (ls' := [(0, _), (1, _), (2, _), (3, _), (4, _), (5, _), (6, _), (7, _), (8, _), (9, _)]) dX9_sleep_49 (by decide) rfl ?_
  refine WP_aload_n dX9_sleep_51 rfl ?_
  refine WP_dup dX9_sleep_52 rfl ?_
  refine WQ_getim dX9_sleep_53 fX9_74 rfl (lyx_is hy 56 4 rfl) ew7591 ?_
  refine WP_iload dX9_sleep_56 rfl ?_
  refine WQ_iadd dX9_sleep_58 (by omega) (by omega) (fun v7599 hv7599 => ?_)
  refine WQ_puti dX9_sleep_59 fX9_74 rfl rfl (lyx_is hy 56 4 rfl) (fun I7600 eI7600 => ?_)
  have hI7600 : XI g n L I7600 := by rw [eI7600]; exact (xi_f hy hI (c := 56) (0) (23760) (700000) (by decide) (Or.inl (by decide)) (by decide) (by omega) (by omega))
  have e7601 : I7600 (ad g 1) 1 = L := by rw [eI7600, pp_ne _ _ (Or.inl (lyx_ne hy (by decide) (by decide) (by decide)))]; exact e7589
  have e7602 : I7600 (ad g 56) 1 = v7599 := by rw [eI7600, pp_self]
  clear eI7600
  refine WP_aload_n dX9_sleep_62 rfl ?_
  refine WP_getr dX9_sleep_63 fX9_75 rfl (lyx_is hy 56 4 rfl) (rfx hr 56 5 58 (by decide)) ?_
  refine WP_iload dX9_sleep_66 rfl ?_
  refine WQ_iconst (3) (3) dX9_sleep_68 rfl rfl (fun v7603 hv7603 => ?_)
  refine WQ_iadd dX9_sleep_69 (by omega) (by omega) (fun v7604 hv7604 => ?_)
  refine WP_dup2 dX9_sleep_70 rfl rfl ?_
  refine WQ_ialdu dX9_sleep_71 (lyx_is hy 58 13 rfl) (lyx_n hy 58 28 rfl) (by omega) (by omega) (fun v7605 => ?_)
  refine WP_iload dX9_sleep_72 rfl ?_
  refine WQ_iaddu dX9_sleep_74 (fun v7606 => ?_)
  refine WQ_iast dX9_sleep_75 (lyx_is hy 58 13 rfl) (lyx_n hy 58 28 rfl) (by omega) (by omega) (fun I7607 eI7607 => ?_)
  have hI7607 : XI g n L I7607 := by rw [eI7607]; exact (fa_put hy hI7600 (c := 58) (k := 3) (s := so.toInt.toNat) (by decide) (by omega) (by decide) (by rw [cl (n := 7 * so.toInt.toNat + 3) (by omega)]) (fun h => absurd h (by decide)) (fun h => absurd h (by decide)))
  have e7608 : I7607 (ad g 1) 1 = L := by rw [eI7607, pp_ne _ _ (Or.inl (lyx_ne hy (by decide) (by decide) (by decide)))]; exact e7601
  have e7609 : I7607 (ad g 56) 1 = v7599 := by rw [eI7607, pp_ne _ _ (Or.inl (lyx_ne hy (by decide) (by decide) (by decide)))]; exact e7602
  clear eI7607
  refine WP_aload_n dX9_sleep_76 rfl ?_
  refine WP_getr dX9_sleep_77 fX9_75 rfl (lyx_is hy 56 4 rfl) (rfx hr 56 5 58 (by decide)) ?_
  refine WP_iload dX9_sleep_80 rfl ?_
  refine WQ_iconst (5) (5) dX9_sleep_82 rfl rfl (fun v7610 hv7610 => ?_)
  refine WQ_iadd dX9_sleep_83 (by omega) (by omega) (fun v7611 hv7611 => ?_)
  refine WP_dup2 dX9_sleep_84 rfl rfl ?_
  refine WQ_ialdu dX9_sleep_85 (lyx_is hy 58 13 rfl) (lyx_n hy 58 28 rfl) (by omega) (by omega) (fun v7612 => ?_)
  refine WP_iload dX9_sleep_86 rfl ?_
  refine WP_iload dX9_sleep_88 rfl ?_
  refine WP_iload dX9_sleep_90 rfl ?_
  refine WQ_isub dX9_sleep_92 (by omega) (by omega) (fun v7613 hv7613 => ?_)
  refine WQ_imulu dX9_sleep_93 (fun v7614 => ?_)
  refine WQ_iaddu dX9_sleep_94 (fun v7615 => ?_)
  refine WQ_iast dX9_sleep_95 (lyx_is hy 58 13 rfl) (lyx_n hy 58 28 rfl) (by omega) (by omega) (fun I7616 eI7616 => ?_)
  have hI7616 : XI g n L I7616 := by rw [eI7616]; exact (fa_put hy hI7607 (c := 58) (k := 5) (s := so.toInt.toNat) (by decide) (by omega) (by decide) (by rw [cl (n := 7 * so.toInt.toNat + 5) (by omega)]) (fun h => absurd h (by decide)) (fun h => absurd h (by decide)))
  have e7617 : I7616 (ad g 1) 1 = L := by rw [eI7616, pp_ne _ _ (Or.inl (lyx_ne hy (by decide) (by decide) (by decide)))]; exact e7608
  have e7618 : I7616 (ad g 56) 1 = v7599 := by rw [eI7616, pp_ne _ _ (Or.inl (lyx_ne hy (by decide) (by decide) (by decide)))]; exact e7609
  clear eI7616
  refine WP_aload_n dX9_sleep_96 rfl ?_
  refine WP_getr dX9_sleep_97 fX9_75 rfl (lyx_is hy 56 4 rfl) (rfx hr 56 5 58 (by decide)) ?_
  refine WP_iload dX9_sleep_100 rfl ?_
  refine WQ_iconst (0) (0) dX9_sleep_102 rfl rfl (fun v7619 hv7619 => ?_)
  refine WQ_iadd dX9_sleep_103 (by omega) (by omega) (fun v7620 hv7620 => ?_)
  refine WP_aload_n dX9_sleep_104 rfl ?_
  refine WP_getr dX9_sleep_105 fX9_25 rfl (lyx_is hy 49 9 rfl) (rfx hr 49 2 5 (by decide)) ?_
  refine WP_iload dX9_sleep_108 rfl ?_
  refine WP_iload dX9_sleep_110 rfl ?_
  refine WP_iload_n dX9_sleep_112 rfl ?_
  refine WP_callV3 (k := 0) dX9_sleep_113 ⟨⟨⟨by decide, by decide⟩, zX0_coinsBehind⟩, lX9_137, by decide, rfl, vX0_coinsBehind.1, vX0_coinsBehind.2⟩ (lyx_is hy 5 0 rfl) (sx_coinsBehind hy hr hI7616 co st da (by omega) (by omega) (by omega) (by omega) (by omega) (by omega)) (Nat.le_of_ble_eq_true rfl) ?_
  intro r Ia Ja Ra hq
  obtain ⟨⟨ea, eb, ec⟩, v7621, rfl, av7621, bv7621⟩ := hq
  show WP _ _ _ _ (.int _ :: _) _ _ _ _
  rw [ea, eb, ec]
  clear ea eb ec Ia Ja Ra
  refine WQ_iast dX9_sleep_116 (lyx_is hy 58 13 rfl) (lyx_n hy 58 28 rfl) (by omega) (by omega) (fun I7622 eI7622 => ?_)
  have hI7622 : XI g n L I7622 := by rw [eI7622]; exact (fa_put hy hI7616 (c := 58) (k := 0) (s := so.toInt.toNat) (by decide) (by omega) (by decide) (by rw [cl (n := 7 * so.toInt.toNat + 0) (by omega)]) (fun _ => by omega) (fun _ => by omega))
  have e7623 : I7622 (ad g 1) 1 = L := by rw [eI7622, pp_ne _ _ (Or.inl (lyx_ne hy (by decide) (by decide) (by decide)))]; exact e7617
  have e7624 : I7622 (ad g 56) 1 = v7599 := by rw [eI7622, pp_ne _ _ (Or.inl (lyx_ne hy (by decide) (by decide) (by decide)))]; exact e7618
  clear eI7622
  refine WP_aload_n dX9_sleep_117 rfl ?_
  refine WP_getr dX9_sleep_118 fX9_75 rfl (lyx_is hy 56 4 rfl) (rfx hr 56 5 58 (by decide)) ?_
  refine WP_iload dX9_sleep_121 rfl ?_
  refine WQ_iconst (1) (1) dX9_sleep_123 rfl rfl (fun v7625 hv7625 => ?_)
  refine WQ_iadd dX9_sleep_124 (by omega) (by omega) (fun v7626 hv7626 => ?_)
  refine WP_iload dX9_sleep_125 rfl ?_
  refine WQ_iast dX9_sleep_127 (lyx_is hy 58 13 rfl) (lyx_n hy 58 28 rfl) (by omega) (by omega) (fun I7627 eI7627 => ?_)
  have hI7627 : XI g n L I7627 := by rw [eI7627]; exact (fa_put hy hI7622 (c := 58) (k := 1) (s := so.toInt.toNat) (by decide) (by omega) (by decide) (by rw [cl (n := 7 * so.toInt.toNat + 1) (by omega)]) (fun _ => by omega) (fun _ => by omega))
  have e7628 : I7627 (ad g 1) 1 = L := by rw [eI7627, pp_ne _ _ (Or.inl (lyx_ne hy (by decide) (by decide) (by decide)))]; exact e7623
  have e7629 : I7627 (ad g 56) 1 = v7599 := by rw [eI7627, pp_ne _ _ (Or.inl (lyx_ne hy (by decide) (by decide) (by decide)))]; exact e7624
  clear eI7627
  exact WP_vret dX9_sleep_128 rfl ⟨⟨hI7627, rfl, (by rw [e7629, ew7591]; omega)⟩, rfl⟩
