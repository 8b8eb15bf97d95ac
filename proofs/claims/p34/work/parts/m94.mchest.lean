set_option maxHeartbeats 4000000 in
set_option maxRecDepth 100000 in
theorem sm_openChest_38 {g : GG} {n : Int} {L : Int32} (hy : Ly g)  {I : pI} {J : pJ} {R : pR} (hr : Rf g R) (hI : MP g n L I)   (hn : 0 ≤ n ∧ n ≤ 40000) (hb : 0 ≤ (I (ad g 38) 32).toInt) : SP g mX11_openChest [.ref (ad g 0), .ref (ad g 38)] I J R (fun r I' J' R' => (MP g n L I' ∧ R' = R ∧ fz 49 g [38] I I' ∧ fz 49 g [] J J' ∧ fs g [] I I' ∧ (I' (ad g 38) 32).toInt ≤ (I (ad g 38) 32).toInt) ∧ r = none) := by
  refine SP_of ⟨by decide, rfl⟩ (Nat.le_of_ble_eq_true rfl) ?_
  have e4219 : I (ad g 0) 1 = L := hI.1.2
  have b4220 := BT_get hI.1.1 0 1 2 (0) (0) (900) (by decide) 1 (by decide) (by decide)
  rw [e4219] at b4220
  have fr0 : fz 49 g [38] I I := fz_rf
  have frj0 : fz 49 g [] J J := fz_rf
  have frq0 : fs g [] I I := fs_rf
  obtain ⟨w4221, ew4221⟩ : ∃ w : Int32, I (ad g 38) 32 = w := ⟨_, rfl⟩
  have bw4221 := BT_get hI.1.1 38 32 33 (0) (23760) (0) (by decide) 32 (by decide) (by decide)
  rw [ew4221] at bw4221
  rw [ew4221] at hb
  refine WP_aload_n dX11_openChest_0 rfl ?_
  refine WQ_geti dX11_openChest_1 fX11_221 rfl (ly_is hy 0 11 rfl) (BT_get hI.1.1 0 13 14 (-1) (0) (3) (by decide) 13 (by decide) (by decide)) (fun v4222 ev4222 av4222 bv4222 => ?_)
  refine WQ_iconst (-1) (-1) dX11_openChest_4 rfl rfl (fun v4223 hv4223 => ?_)
  refine WQ_icmp_ne 9 dX11_openChest_5 rfl (fun c4223 => ?_) (fun c4223 => ?_)
  · obtain ⟨w4225, ew4225⟩ : ∃ w : Int32, I (ad g 0) 10 = w := ⟨_, rfl⟩
    have bw4225 := BT_get hI.1.1 0 10 11 (0) (0) (4) (by decide) 10 (by decide) (by decide)
    rw [ew4225] at bw4225
    have kc := pc_lt hI
    rw [ev4222, ew4225] at kc
    refine WP_aload_n dX11_openChest_9 rfl ?_
    refine WQ_bipush (32) (32) dX11_openChest_10 rfl rfl (fun v4226 hv4226 => ?_)
    refine WQ_ialdm (z := 32) dX11_openChest_12 (ly_is hy 38 13 rfl) (ly_n hy 38 35 rfl) hv4226 (by decide) ew4221 ?_
    refine WP_aload_n dX11_openChest_13 rfl ?_
    refine WP_getr dX11_openChest_14 fX11_235 rfl (ly_is hy 0 11 rfl) (rf hr 0 26 8 (by decide)) ?_
    refine WP_aload_n dX11_openChest_17 rfl ?_
    refine WQ_getim dX11_openChest_18 fX11_221 rfl (ly_is hy 0 11 rfl) ev4222 ?_
    refine WQ_ialdq (q := v4222.toInt.toNat) dX11_openChest_21 (ly_is hy 8 13 rfl) (ly_n hy 8 4 rfl) (by omega) (by omega) (by omega) (pp_get hI (by omega) (by rw [ew4225]; omega)) (fun v4228 av4228 bv4228 ev4228 => ?_)
    refine WQ_idivb dX11_openChest_22 (by omega) (by omega) (fun v4229 pv4229 av4229 bv4229 cv4229 => ?_)
    refine WP_istore_n (ls' := [(0, _), (1, _), (2, _)]) dX11_openChest_23 (by decide) rfl ?_
    refine WP_aload_n dX11_openChest_24 rfl ?_
    refine WQ_bipush (32) (32) dX11_openChest_25 rfl rfl (fun v4230 hv4230 => ?_)
    refine WP_dup2 dX11_openChest_27 rfl rfl ?_
    refine WQ_ialdm (z := 32) dX11_openChest_28 (ly_is hy 38 13 rfl) (ly_n hy 38 35 rfl) hv4230 (by decide) ew4221 ?_
    refine WP_iload_n dX11_openChest_29 rfl ?_
    refine WP_aload_n dX11_openChest_30 rfl ?_
    refine WP_getr dX11_openChest_31 fX11_235 rfl (ly_is hy 0 11 rfl) (rf hr 0 26 8 (by decide)) ?_
    refine WP_aload_n dX11_openChest_34 rfl ?_
    refine WQ_getim dX11_openChest_35 fX11_221 rfl (ly_is hy 0 11 rfl) ev4222 ?_
    refine WQ_ialde dX11_openChest_38 (ly_is hy 8 13 rfl) (ly_n hy 8 4 rfl) (by omega) (by omega) ev4228 ?_
    have knv4233 : 0 ≤ v4229.toInt * v4228.toInt := Int.mul_nonneg (by omega) (by omega)
    refine WQ_imulx dX11_openChest_39 (by omega) (by omega) (fun v4233 pv4233 => ?_)
    refine WQ_isub dX11_openChest_40 (by omega) (by omega) (fun v4234 hv4234 => ?_)
    refine WQ_iast dX11_openChest_41 (ly_is hy 38 13 rfl) (ly_n hy 38 35 rfl) (by omega) (by omega) (fun I4235 fI4235 => ?_)
    have eI4235 := fI4235
    rw [cl (x := v4230) (n := 32) (by omega)] at eI4235
    clear fI4235
    have hI4235 : MP g n L I4235 := by rw [eI4235]; exact (mp_w hy hI (c := 38) (mi_f hy hI.1 (c := 38) (0) (23760) (0) (by decide) (Or.inl (by decide)) (by decide) (by omega) (by omega)) (by decide) (by decide) (Or.inl (by decide)))
    have e4236 : I4235 (ad g 0) 1 = L := by rw [eI4235, pp_ne _ _ (Or.inl (ly_ne hy (by decide) (by decide) (by decide)))]; exact e4219
    have e4237 : I4235 (ad g 0) 13 = v4222 := by rw [eI4235, pp_ne _ _ (Or.inl (ly_ne hy (by decide) (by decide) (by decide)))]; exact ev4222
    have e4238 : I4235 (ad g 0) 10 = w4225 := by rw [eI4235, pp_ne _ _ (Or.inl (ly_ne hy (by decide) (by decide) (by decide)))]; exact ew4225
    have e4239 : I4235 (ad g 8) v4222.toNatClampNeg = v4228 := by rw [eI4235, pp_ne _ _ (Or.inl (ly_ne hy (by decide) (by decide) (by decide)))]; exact ev4228
    have e4240 : I4235 (ad g 38) 32 = v4234 := by rw [eI4235, pp_self]
    have fr4241 : fs g [] I I4235 := by rw [eI4235]; exact fs_ppn hy frq0 (by decide) (by decide)
    have fr4242 : fz 49 g [38] I I4235 := by rw [eI4235]; exact fzm_pp hy fr0 (by decide) (by decide)
    clear eI4235
    refine WP_aload_n dX11_openChest_42 rfl ?_
    refine WQ_bipush (24) (24) dX11_openChest_43 rfl rfl (fun v4243 hv4243 => ?_)
    refine WP_aload_n dX11_openChest_45 rfl ?_
    refine WQ_getim dX11_openChest_46 fX11_221 rfl (ly_is hy 0 11 rfl) e4237 ?_
    refine WQ_iadd dX11_openChest_49 (by omega) (by omega) (fun v4244 hv4244 => ?_)
    refine WP_dup2 dX11_openChest_50 rfl rfl ?_
    refine WQ_ialdu dX11_openChest_51 (ly_is hy 38 13 rfl) (ly_n hy 38 35 rfl) (by omega) (by omega) (fun v4245 => ?_)
    refine WP_iload_n dX11_openChest_52 rfl ?_
    refine WP_aload_n dX11_openChest_53 rfl ?_
    refine WP_getr dX11_openChest_54 fX11_235 rfl (ly_is hy 0 11 rfl) (rf hr 0 26 8 (by decide)) ?_
    refine WP_aload_n dX11_openChest_57 rfl ?_
    refine WQ_getim dX11_openChest_58 fX11_221 rfl (ly_is hy 0 11 rfl) e4237 ?_
    refine WQ_ialde dX11_openChest_61 (ly_is hy 8 13 rfl) (ly_n hy 8 4 rfl) (by omega) (by omega) e4239 ?_
    have knv4247 : 0 ≤ v4229.toInt * v4228.toInt := Int.mul_nonneg (by omega) (by omega)
    refine WQ_imulx dX11_openChest_62 (by omega) (by omega) (fun v4247 pv4247 => ?_)
    refine WQ_iaddu dX11_openChest_63 (fun v4248 => ?_)
    refine WQ_iast dX11_openChest_64 (ly_is hy 38 13 rfl) (ly_n hy 38 35 rfl) (by omega) (by omega) (fun I4249 eI4249 => ?_)
    have hI4249 : MP g n L I4249 := by rw [eI4249]; exact (mp_w hy hI4235 (c := 38) (mi_rr hy hI4235.1 (c := 38) (24) (27) (0) (0) (0) (by decide) (Or.inl (by decide)) (by rw [cl (n := v4244.toInt.toNat) (by omega)]; omega) (by decide) (fun h => absurd h (by decide))) (by decide) (by decide) (Or.inl (by decide)))
    have e4250 : I4249 (ad g 0) 1 = L := by rw [eI4249, pp_ne _ _ (Or.inl (ly_ne hy (by decide) (by decide) (by decide)))]; exact e4236
    have e4251 : I4249 (ad g 0) 13 = v4222 := by rw [eI4249, pp_ne _ _ (Or.inl (ly_ne hy (by decide) (by decide) (by decide)))]; exact e4237
    have e4252 : I4249 (ad g 0) 10 = w4225 := by rw [eI4249, pp_ne _ _ (Or.inl (ly_ne hy (by decide) (by decide) (by decide)))]; exact e4238
    have e4253 : I4249 (ad g 8) v4222.toNatClampNeg = v4228 := by rw [eI4249, pp_ne _ _ (Or.inl (ly_ne hy (by decide) (by decide) (by decide)))]; exact e4239
    have e4254 : I4249 (ad g 38) 32 = v4234 := by rw [eI4249, pp_ne _ _ (Or.inr (by rw [cl (x := v4244) (n := v4244.toInt.toNat) (by omega)]; omega))]; exact e4240
    have fr4255 : fs g [] I I4249 := by rw [eI4249]; exact fs_ppn hy fr4241 (by decide) (by decide)
    have fr4256 : fz 49 g [38] I I4249 := by rw [eI4249]; exact fzm_pp hy fr4242 (by decide) (by decide)
    clear eI4249
    refine WP_aload_n dX11_openChest_65 rfl ?_
    refine WQ_iconst (0) (0) dX11_openChest_66 rfl rfl (fun v4257 hv4257 => ?_)
    refine WP_aload_n dX11_openChest_67 rfl ?_
    refine WQ_getim dX11_openChest_68 fX11_221 rfl (ly_is hy 0 11 rfl) e4251 ?_
    refine WQ_iadd dX11_openChest_71 (by omega) (by omega) (fun v4258 hv4258 => ?_)
    refine WQ_bipush (60) (60) dX11_openChest_72 rfl rfl (fun v4259 hv4259 => ?_)
    refine WP_aload_n dX11_openChest_74 rfl ?_
    refine WQ_iconst (0) (0) dX11_openChest_75 rfl rfl (fun v4260 hv4260 => ?_)
    refine WP_aload_n dX11_openChest_76 rfl ?_
    refine WQ_getim dX11_openChest_77 fX11_221 rfl (ly_is hy 0 11 rfl) e4251 ?_
    refine WQ_iadd dX11_openChest_80 (by omega) (by omega) (fun v4261 hv4261 => ?_)
    refine WQ_ialdr dX11_openChest_81 (ly_is hy 38 13 rfl) (ly_n hy 38 35 rfl) (by omega) (by omega) (a := 0) (b := 4) (by omega) (by omega) (fun q hq1 hq2 => BT_get hI4249.1.1 38 0 4 (0) (0) (60) (by decide) q hq1 hq2) (fun v4262 av4262 bv4262 => ?_)
    refine WP_iload_n dX11_openChest_82 rfl ?_
    refine WQ_iadd dX11_openChest_83 (by omega) (by omega) (fun v4263 hv4263 => ?_)
    refine WQ_min dX11_openChest_84 lX11_417 ⟨by decide, Nat.le_of_ble_eq_true rfl⟩ (fun v4264 av4264 bv4264 cv4264 => ?_)
    refine WQ_iast dX11_openChest_87 (ly_is hy 38 13 rfl) (ly_n hy 38 35 rfl) (by omega) (by omega) (fun I4265 eI4265 => ?_)
    have hI4265 : MP g n L I4265 := by rw [eI4265]; exact (mp_w hy hI4249 (c := 38) (mi_rr hy hI4249.1 (c := 38) (0) (3) (0) (0) (60) (by decide) (Or.inl (by decide)) (by rw [cl (n := v4258.toInt.toNat) (by omega)]; omega) (by decide) (fun _ => ⟨by omega, by omega⟩)) (by decide) (by decide) (Or.inl (by decide)))
    have e4266 : I4265 (ad g 0) 1 = L := by rw [eI4265, pp_ne _ _ (Or.inl (ly_ne hy (by decide) (by decide) (by decide)))]; exact e4250
    have e4267 : I4265 (ad g 0) 13 = v4222 := by rw [eI4265, pp_ne _ _ (Or.inl (ly_ne hy (by decide) (by decide) (by decide)))]; exact e4251
    have e4268 : I4265 (ad g 0) 10 = w4225 := by rw [eI4265, pp_ne _ _ (Or.inl (ly_ne hy (by decide) (by decide) (by decide)))]; exact e4252
    have e4269 : I4265 (ad g 8) v4222.toNatClampNeg = v4228 := by rw [eI4265, pp_ne _ _ (Or.inl (ly_ne hy (by decide) (by decide) (by decide)))]; exact e4253
    have e4270 : I4265 (ad g 38) 32 = v4234 := by rw [eI4265, pp_ne _ _ (Or.inr (by rw [cl (x := v4258) (n := v4258.toInt.toNat) (by omega)]; omega))]; exact e4254
    have fr4271 : fs g [] I I4265 := by rw [eI4265]; exact fs_ppn hy fr4255 (by decide) (by decide)
    have fr4272 : fz 49 g [38] I I4265 := by rw [eI4265]; exact fzm_pp hy fr4256 (by decide) (by decide)
    clear eI4265
    exact WP_vret dX11_openChest_88 rfl ⟨⟨hI4265, rfl, fr4272, frj0, fr4271, (by rw [e4270, ew4221]; omega)⟩, rfl⟩
  · exact WP_vret dX11_openChest_8 rfl ⟨⟨hI, rfl, fr0, frj0, frq0, (by omega)⟩, rfl⟩
set_option maxHeartbeats 4000000 in
set_option maxRecDepth 100000 in
theorem sm_openChest_39 {g : GG} {n : Int} {L : Int32} (hy : Ly g)  {I : pI} {J : pJ} {R : pR} (hr : Rf g R) (hI : MP g n L I)   (hn : 0 ≤ n ∧ n ≤ 40000) (hb : 0 ≤ (I (ad g 39) 32).toInt) : SP g mX11_openChest [.ref (ad g 0), .ref (ad g 39)] I J R (fun r I' J' R' => (MP g n L I' ∧ R' = R ∧ fz 49 g [39] I I' ∧ fz 49 g [] J J' ∧ fs g [] I I' ∧ (I' (ad g 39) 32).toInt ≤ (I (ad g 39) 32).toInt) ∧ r = none) := by
  refine SP_of ⟨by decide, rfl⟩ (Nat.le_of_ble_eq_true rfl) ?_
  have e4273 : I (ad g 0) 1 = L := hI.1.2
  have b4274 := BT_get hI.1.1 0 1 2 (0) (0) (900) (by decide) 1 (by decide) (by decide)
  rw [e4273] at b4274
  have fr0 : fz 49 g [39] I I := fz_rf
  have frj0 : fz 49 g [] J J := fz_rf
  have frq0 : fs g [] I I := fs_rf
  obtain ⟨w4275, ew4275⟩ : ∃ w : Int32, I (ad g 39) 32 = w := ⟨_, rfl⟩
  have bw4275 := BT_get hI.1.1 39 32 33 (0) (23760) (700000) (by decide) 32 (by decide) (by decide)
  rw [ew4275] at bw4275
  rw [ew4275] at hb
  refine WP_aload_n dX11_openChest_0 rfl ?_
  refine WQ_geti dX11_openChest_1 fX11_221 rfl (ly_is hy 0 11 rfl) (BT_get hI.1.1 0 13 14 (-1) (0) (3) (by decide) 13 (by decide) (by decide)) (fun v4276 ev4276 av4276 bv4276 => ?_)
  refine WQ_iconst (-1) (-1) dX11_openChest_4 rfl rfl (fun v4277 hv4277 => ?_)
  refine WQ_icmp_ne 9 dX11_openChest_5 rfl (fun c4277 => ?_) (fun c4277 => ?_)
  · obtain ⟨w4279, ew4279⟩ : ∃ w : Int32, I (ad g 0) 10 = w := ⟨_, rfl⟩
    have bw4279 := BT_get hI.1.1 0 10 11 (0) (0) (4) (by decide) 10 (by decide) (by decide)
    rw [ew4279] at bw4279
    have kc := pc_lt hI
    rw [ev4276, ew4279] at kc
    refine WP_aload_n dX11_openChest_9 rfl ?_
    refine WQ_bipush (32) (32) dX11_openChest_10 rfl rfl (fun v4280 hv4280 => ?_)
    refine WQ_ialdm (z := 32) dX11_openChest_12 (ly_is hy 39 13 rfl) (ly_n hy 39 35 rfl) hv4280 (by decide) ew4275 ?_
    refine WP_aload_n dX11_openChest_13 rfl ?_
    refine WP_getr dX11_openChest_14 fX11_235 rfl (ly_is hy 0 11 rfl) (rf hr 0 26 8 (by decide)) ?_
    refine WP_aload_n dX11_openChest_17 rfl ?_
    refine WQ_getim dX11_openChest_18 fX11_221 rfl (ly_is hy 0 11 rfl) ev4276 ?_
    refine WQ_ialdq (q := v4276.toInt.toNat) dX11_openChest_21 (ly_is hy 8 13 rfl) (ly_n hy 8 4 rfl) (by omega) (by omega) (by omega) (pp_get hI (by omega) (by rw [ew4279]; omega)) (fun v4282 av4282 bv4282 ev4282 => ?_)
    refine WQ_idivb dX11_openChest_22 (by omega) (by omega) (fun v4283 pv4283 av4283 bv4283 cv4283 => ?_)
    refine WP_istore_n (ls' := [(0, _), (1, _), (2, _)]) dX11_openChest_23 (by decide) rfl ?_
    refine WP_aload_n dX11_openChest_24 rfl ?_
    refine WQ_bipush (32) (32) dX11_openChest_25 rfl rfl (fun v4284 hv4284 => ?_)
    refine WP_dup2 dX11_openChest_27 rfl rfl ?_
    refine WQ_ialdm (z := 32) dX11_openChest_28 (ly_is hy 39 13 rfl) (ly_n hy 39 35 rfl) hv4284 (by decide) ew4275 ?_
    refine WP_iload_n dX11_openChest_29 rfl ?_
    refine WP_aload_n dX11_openChest_30 rfl ?_
    refine WP_getr dX11_openChest_31 fX11_235 rfl (ly_is hy 0 11 rfl) (rf hr 0 26 8 (by decide)) ?_
    refine WP_aload_n dX11_openChest_34 rfl ?_
    refine WQ_getim dX11_openChest_35 fX11_221 rfl (ly_is hy 0 11 rfl) ev4276 ?_
    refine WQ_ialde dX11_openChest_38 (ly_is hy 8 13 rfl) (ly_n hy 8 4 rfl) (by omega) (by omega) ev4282 ?_
    have knv4287 : 0 ≤ v4283.toInt * v4282.toInt := Int.mul_nonneg (by omega) (by omega)
    refine WQ_imulx dX11_openChest_39 (by omega) (by omega) (fun v4287 pv4287 => ?_)
    refine WQ_isub dX11_openChest_40 (by omega) (by omega) (fun v4288 hv4288 => ?_)
    refine WQ_iast dX11_openChest_41 (ly_is hy 39 13 rfl) (ly_n hy 39 35 rfl) (by omega) (by omega) (fun I4289 fI4289 => ?_)
    have eI4289 := fI4289
    rw [cl (x := v4284) (n := 32) (by omega)] at eI4289
    clear fI4289
    have hI4289 : MP g n L I4289 := by rw [eI4289]; exact (mp_w hy hI (c := 39) (mi_f hy hI.1 (c := 39) (0) (23760) (700000) (by decide) (Or.inl (by decide)) (by decide) (by omega) (by omega)) (by decide) (by decide) (Or.inl (by decide)))
    have e4290 : I4289 (ad g 0) 1 = L := by rw [eI4289, pp_ne _ _ (Or.inl (ly_ne hy (by decide) (by decide) (by decide)))]; exact e4273
    have e4291 : I4289 (ad g 0) 13 = v4276 := by rw [eI4289, pp_ne _ _ (Or.inl (ly_ne hy (by decide) (by decide) (by decide)))]; exact ev4276
    have e4292 : I4289 (ad g 0) 10 = w4279 := by rw [eI4289, pp_ne _ _ (Or.inl (ly_ne hy (by decide) (by decide) (by decide)))]; exact ew4279
    have e4293 : I4289 (ad g 8) v4276.toNatClampNeg = v4282 := by rw [eI4289, pp_ne _ _ (Or.inl (ly_ne hy (by decide) (by decide) (by decide)))]; exact ev4282
    have e4294 : I4289 (ad g 39) 32 = v4288 := by rw [eI4289, pp_self]
    have fr4295 : fs g [] I I4289 := by rw [eI4289]; exact fs_ppn hy frq0 (by decide) (by decide)
    have fr4296 : fz 49 g [39] I I4289 := by rw [eI4289]; exact fzm_pp hy fr0 (by decide) (by decide)
    clear eI4289
    refine WP_aload_n dX11_openChest_42 rfl ?_
    refine WQ_bipush (24) (24) dX11_openChest_43 rfl rfl (fun v4297 hv4297 => ?_)
    refine WP_aload_n dX11_openChest_45 rfl ?_
    refine WQ_getim dX11_openChest_46 fX11_221 rfl (ly_is hy 0 11 rfl) e4291 ?_
    refine WQ_iadd dX11_openChest_49 (by omega) (by omega) (fun v4298 hv4298 => ?_)
    refine WP_dup2 dX11_openChest_50 rfl rfl ?_
    refine WQ_ialdu dX11_openChest_51 (ly_is hy 39 13 rfl) (ly_n hy 39 35 rfl) (by omega) (by omega) (fun v4299 => ?_)
    refine WP_iload_n dX11_openChest_52 rfl ?_
    refine WP_aload_n dX11_openChest_53 rfl ?_
    refine WP_getr dX11_openChest_54 fX11_235 rfl (ly_is hy 0 11 rfl) (rf hr 0 26 8 (by decide)) ?_
    refine WP_aload_n dX11_openChest_57 rfl ?_
    refine WQ_getim dX11_openChest_58 fX11_221 rfl (ly_is hy 0 11 rfl) e4291 ?_
    refine WQ_ialde dX11_openChest_61 (ly_is hy 8 13 rfl) (ly_n hy 8 4 rfl) (by omega) (by omega) e4293 ?_
    have knv4301 : 0 ≤ v4283.toInt * v4282.toInt := Int.mul_nonneg (by omega) (by omega)
    refine WQ_imulx dX11_openChest_62 (by omega) (by omega) (fun v4301 pv4301 => ?_)
    refine WQ_iaddu dX11_openChest_63 (fun v4302 => ?_)
    refine WQ_iast dX11_openChest_64 (ly_is hy 39 13 rfl) (ly_n hy 39 35 rfl) (by omega) (by omega) (fun I4303 eI4303 => ?_)
    have hI4303 : MP g n L I4303 := by rw [eI4303]; exact (mp_w hy hI4289 (c := 39) (mi_rr hy hI4289.1 (c := 39) (24) (27) (0) (0) (0) (by decide) (Or.inl (by decide)) (by rw [cl (n := v4298.toInt.toNat) (by omega)]; omega) (by decide) (fun h => absurd h (by decide))) (by decide) (by decide) (Or.inl (by decide)))
    have e4304 : I4303 (ad g 0) 1 = L := by rw [eI4303, pp_ne _ _ (Or.inl (ly_ne hy (by decide) (by decide) (by decide)))]; exact e4290
    have e4305 : I4303 (ad g 0) 13 = v4276 := by rw [eI4303, pp_ne _ _ (Or.inl (ly_ne hy (by decide) (by decide) (by decide)))]; exact e4291
    have e4306 : I4303 (ad g 0) 10 = w4279 := by rw [eI4303, pp_ne _ _ (Or.inl (ly_ne hy (by decide) (by decide) (by decide)))]; exact e4292
    have e4307 : I4303 (ad g 8) v4276.toNatClampNeg = v4282 := by rw [eI4303, pp_ne _ _ (Or.inl (ly_ne hy (by decide) (by decide) (by decide)))]; exact e4293
    have e4308 : I4303 (ad g 39) 32 = v4288 := by rw [eI4303, pp_ne _ _ (Or.inr (by rw [cl (x := v4298) (n := v4298.toInt.toNat) (by omega)]; omega))]; exact e4294
    have fr4309 : fs g [] I I4303 := by rw [eI4303]; exact fs_ppn hy fr4295 (by decide) (by decide)
    have fr4310 : fz 49 g [39] I I4303 := by rw [eI4303]; exact fzm_pp hy fr4296 (by decide) (by decide)
    clear eI4303
    refine WP_aload_n dX11_openChest_65 rfl ?_
    refine WQ_iconst (0) (0) dX11_openChest_66 rfl rfl (fun v4311 hv4311 => ?_)
    refine WP_aload_n dX11_openChest_67 rfl ?_
    refine WQ_getim dX11_openChest_68 fX11_221 rfl (ly_is hy 0 11 rfl) e4305 ?_
    refine WQ_iadd dX11_openChest_71 (by omega) (by omega) (fun v4312 hv4312 => ?_)
    refine WQ_bipush (60) (60) dX11_openChest_72 rfl rfl (fun v4313 hv4313 => ?_)
    refine WP_aload_n dX11_openChest_74 rfl ?_
    refine WQ_iconst (0) (0) dX11_openChest_75 rfl rfl (fun v4314 hv4314 => ?_)
    refine WP_aload_n dX11_openChest_76 rfl ?_
    refine WQ_getim dX11_openChest_77 fX11_221 rfl (ly_is hy 0 11 rfl) e4305 ?_
    refine WQ_iadd dX11_openChest_80 (by omega) (by omega) (fun v4315 hv4315 => ?_)
    refine WQ_ialdr dX11_openChest_81 (ly_is hy 39 13 rfl) (ly_n hy 39 35 rfl) (by omega) (by omega) (a := 0) (b := 4) (by omega) (by omega) (fun q hq1 hq2 => BT_get hI4303.1.1 39 0 4 (0) (0) (60) (by decide) q hq1 hq2) (fun v4316 av4316 bv4316 => ?_)
    refine WP_iload_n dX11_openChest_82 rfl ?_
    refine WQ_iadd dX11_openChest_83 (by omega) (by omega) (fun v4317 hv4317 => ?_)
    refine WQ_min dX11_openChest_84 lX11_417 ⟨by decide, Nat.le_of_ble_eq_true rfl⟩ (fun v4318 av4318 bv4318 cv4318 => ?_)
    refine WQ_iast dX11_openChest_87 (ly_is hy 39 13 rfl) (ly_n hy 39 35 rfl) (by omega) (by omega) (fun I4319 eI4319 => ?_)
    have hI4319 : MP g n L I4319 := by rw [eI4319]; exact (mp_w hy hI4303 (c := 39) (mi_rr hy hI4303.1 (c := 39) (0) (3) (0) (0) (60) (by decide) (Or.inl (by decide)) (by rw [cl (n := v4312.toInt.toNat) (by omega)]; omega) (by decide) (fun _ => ⟨by omega, by omega⟩)) (by decide) (by decide) (Or.inl (by decide)))
    have e4320 : I4319 (ad g 0) 1 = L := by rw [eI4319, pp_ne _ _ (Or.inl (ly_ne hy (by decide) (by decide) (by decide)))]; exact e4304
    have e4321 : I4319 (ad g 0) 13 = v4276 := by rw [eI4319, pp_ne _ _ (Or.inl (ly_ne hy (by decide) (by decide) (by decide)))]; exact e4305
    have e4322 : I4319 (ad g 0) 10 = w4279 := by rw [eI4319, pp_ne _ _ (Or.inl (ly_ne hy (by decide) (by decide) (by decide)))]; exact e4306
    have e4323 : I4319 (ad g 8) v4276.toNatClampNeg = v4282 := by rw [eI4319, pp_ne _ _ (Or.inl (ly_ne hy (by decide) (by decide) (by decide)))]; exact e4307
    have e4324 : I4319 (ad g 39) 32 = v4288 := by rw [eI4319, pp_ne _ _ (Or.inr (by rw [cl (x := v4312) (n := v4312.toInt.toNat) (by omega)]; omega))]; exact e4308
    have fr4325 : fs g [] I I4319 := by rw [eI4319]; exact fs_ppn hy fr4309 (by decide) (by decide)
    have fr4326 : fz 49 g [39] I I4319 := by rw [eI4319]; exact fzm_pp hy fr4310 (by decide) (by decide)
    clear eI4319
    exact WP_vret dX11_openChest_88 rfl ⟨⟨hI4319, rfl, fr4326, frj0, fr4325, (by rw [e4324, ew4275]; omega)⟩, rfl⟩
  · exact WP_vret dX11_openChest_8 rfl ⟨⟨hI, rfl, fr0, frj0, frq0, (by omega)⟩, rfl⟩
