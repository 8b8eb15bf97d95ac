set_option maxHeartbeats 4000000 in
set_option maxRecDepth 100000 in
theorem sm_readTown {g : GG} {n : Int} {L : Int32} (hy : Ly g) {aK aV : Nat → Nat} {fo : Option Nat} (hz : HZ g aK aV fo)  {I : pI} {J : pJ} {R : pR} (hr : Rf g R) (hI : MP g n L I)   (hb : ((I (ad g 0) 4).toInt ≤ (I (ad g 0) 2).toInt ∧ (I (ad g 0) 3).toInt ≤ (I (ad g 0) 4).toInt ∧ ((I (ad g 0) 5).toInt = 0 ∨ (I (ad g 0) 3).toInt < (I (ad g 0) 4).toInt))) : SP g mX11_readTown [.ref (ad g 0)] I J R (fun r I' J' R' => (MP g n L I' ∧ R' = R ∧ fz 49 g [0, 7, 14, 15, 16, 17, 18, 19, 27, 28, 29, 30, 31, 32, 33, 34] I I') ∧ ∃ v : Int32, r = some (.int v) ∧ 0 ≤ v.toInt ∧ v.toInt ≤ 1 ∧ (v.toInt = 1 → (I' (ad g 0) 17).toInt < (I' (ad g 0) 15).toInt ∧ WRt (I' (ad g 30)) (I' (ad g 31)) (7 * (I' (ad g 0) 15).toInt))) := by
  refine SP_of ⟨by decide, rfl⟩ (Nat.le_of_ble_eq_true rfl) ?_
  have e9239 : I (ad g 0) 1 = L := hI.1.2
  have b9240 := BT_get hI.1.1 0 1 2 (0) (0) (900) (by decide) 1 (by decide) (by decide)
  rw [e9239] at b9240
  have fr0 : fz 49 g [0, 7, 14, 15, 16, 17, 18, 19, 27, 28, 29, 30, 31, 32, 33, 34] I I := fz_rf
  obtain ⟨w9241, ew9241⟩ : ∃ w : Int32, I (ad g 0) 2 = w := ⟨_, rfl⟩
  have bw9241 := BT_get hI.1.1 0 2 3 (0) (0) (900) (by decide) 2 (by decide) (by decide)
  rw [ew9241] at bw9241
  obtain ⟨w9242, ew9242⟩ : ∃ w : Int32, I (ad g 0) 3 = w := ⟨_, rfl⟩
  have bw9242 := BT_get hI.1.1 0 3 4 (0) (0) (900) (by decide) 3 (by decide) (by decide)
  rw [ew9242] at bw9242
  obtain ⟨w9243, ew9243⟩ : ∃ w : Int32, I (ad g 0) 4 = w := ⟨_, rfl⟩
  have bw9243 := BT_get hI.1.1 0 4 5 (0) (0) (900) (by decide) 4 (by decide) (by decide)
  rw [ew9243] at bw9243
  obtain ⟨w9244, ew9244⟩ : ∃ w : Int32, I (ad g 0) 5 = w := ⟨_, rfl⟩
  have bw9244 := BT_get hI.1.1 0 5 6 (0) (0) (4) (by decide) 5 (by decide) (by decide)
  rw [ew9244] at bw9244
  rw [ew9241, ew9242, ew9243, ew9244] at hb
  refine WP_aload_n dX11_readTown_0 rfl ?_
  refine WQ_iconst (0) (0) dX11_readTown_1 rfl rfl (fun v9245 hv9245 => ?_)
  refine WQ_puti dX11_readTown_2 fX11_88 rfl rfl (ly_is hy 0 11 rfl) (fun I9246 eI9246 => ?_)
  have hI9246 : MP g n L I9246 := by rw [eI9246]; exact (mp_w15 hy hI (mi_f hy hI.1 (c := 0) (0) (0) (4) (by decide) (Or.inr (by decide)) (by decide) (by omega) (by omega)) (Or.inl (by omega)))
  have e9247 : I9246 (ad g 0) 1 = L := by rw [eI9246, pp_ne _ _ (Or.inr (by decide))]; exact e9239
  have e9248 : I9246 (ad g 0) 2 = w9241 := by rw [eI9246, pp_ne _ _ (Or.inr (by decide))]; exact ew9241
  have e9249 : I9246 (ad g 0) 3 = w9242 := by rw [eI9246, pp_ne _ _ (Or.inr (by decide))]; exact ew9242
  have e9250 : I9246 (ad g 0) 4 = w9243 := by rw [eI9246, pp_ne _ _ (Or.inr (by decide))]; exact ew9243
  have e9251 : I9246 (ad g 0) 5 = w9244 := by rw [eI9246, pp_ne _ _ (Or.inr (by decide))]; exact ew9244
  have e9252 : I9246 (ad g 0) 15 = v9245 := by rw [eI9246, pp_self]
  have fr9253 : fz 49 g [0, 7, 14, 15, 16, 17, 18, 19, 27, 28, 29, 30, 31, 32, 33, 34] I I9246 := by rw [eI9246]; exact fzm_pp hy fr0 (by decide) (by decide)
  clear eI9246
  refine WP_aload_n dX11_readTown_5 rfl ?_
  refine WQ_iconst (0) (0) dX11_readTown_6 rfl rfl (fun v9254 hv9254 => ?_)
  refine WQ_puti dX11_readTown_7 fX11_126 rfl rfl (ly_is hy 0 11 rfl) (fun I9255 eI9255 => ?_)
  have hI9255 : MP g n L I9255 := by rw [eI9255]; exact (mp_w hy hI9246 (c := 0) (mi_f hy hI9246.1 (c := 0) (0) (0) (3) (by decide) (Or.inr (by decide)) (by decide) (by omega) (by omega)) (by decide) (by decide) (Or.inr (by decide)))
  have e9256 : I9255 (ad g 0) 1 = L := by rw [eI9255, pp_ne _ _ (Or.inr (by decide))]; exact e9247
  have e9257 : I9255 (ad g 0) 2 = w9241 := by rw [eI9255, pp_ne _ _ (Or.inr (by decide))]; exact e9248
  have e9258 : I9255 (ad g 0) 3 = w9242 := by rw [eI9255, pp_ne _ _ (Or.inr (by decide))]; exact e9249
  have e9259 : I9255 (ad g 0) 4 = w9243 := by rw [eI9255, pp_ne _ _ (Or.inr (by decide))]; exact e9250
  have e9260 : I9255 (ad g 0) 5 = w9244 := by rw [eI9255, pp_ne _ _ (Or.inr (by decide))]; exact e9251
  have e9261 : I9255 (ad g 0) 15 = v9245 := by rw [eI9255, pp_ne _ _ (Or.inr (by decide))]; exact e9252
  have e9262 : I9255 (ad g 0) 16 = v9254 := by rw [eI9255, pp_self]
  have fr9263 : fz 49 g [0, 7, 14, 15, 16, 17, 18, 19, 27, 28, 29, 30, 31, 32, 33, 34] I I9255 := by rw [eI9255]; exact fzm_pp hy fr9253 (by decide) (by decide)
  clear eI9255
  refine WP_aload_n dX11_readTown_10 rfl ?_
  refine WQ_iconst (-1) (-1) dX11_readTown_11 rfl rfl (fun v9264 hv9264 => ?_)
  refine WQ_puti dX11_readTown_12 fX11_158 rfl rfl (ly_is hy 0 11 rfl) (fun I9265 eI9265 => ?_)
  have hI9265 : MP g n L I9265 := by rw [eI9265]; exact (mp_w hy hI9255 (c := 0) (mi_f hy hI9255.1 (c := 0) (-1) (0) (3) (by decide) (Or.inr (by decide)) (by decide) (by omega) (by omega)) (by decide) (by decide) (Or.inr (by decide)))
  have e9266 : I9265 (ad g 0) 1 = L := by rw [eI9265, pp_ne _ _ (Or.inr (by decide))]; exact e9256
  have e9267 : I9265 (ad g 0) 2 = w9241 := by rw [eI9265, pp_ne _ _ (Or.inr (by decide))]; exact e9257
  have e9268 : I9265 (ad g 0) 3 = w9242 := by rw [eI9265, pp_ne _ _ (Or.inr (by decide))]; exact e9258
  have e9269 : I9265 (ad g 0) 4 = w9243 := by rw [eI9265, pp_ne _ _ (Or.inr (by decide))]; exact e9259
  have e9270 : I9265 (ad g 0) 5 = w9244 := by rw [eI9265, pp_ne _ _ (Or.inr (by decide))]; exact e9260
  have e9271 : I9265 (ad g 0) 15 = v9245 := by rw [eI9265, pp_ne _ _ (Or.inr (by decide))]; exact e9261
  have e9272 : I9265 (ad g 0) 16 = v9254 := by rw [eI9265, pp_ne _ _ (Or.inr (by decide))]; exact e9262
  have e9273 : I9265 (ad g 0) 17 = v9264 := by rw [eI9265, pp_self]
  have fr9274 : fz 49 g [0, 7, 14, 15, 16, 17, 18, 19, 27, 28, 29, 30, 31, 32, 33, 34] I I9265 := by rw [eI9265]; exact fzm_pp hy fr9263 (by decide) (by decide)
  clear eI9265
  refine WP_aload_n dX11_readTown_15 rfl ?_
  refine WQ_iconst (-1) (-1) dX11_readTown_16 rfl rfl (fun v9275 hv9275 => ?_)
  refine WQ_puti dX11_readTown_17 fX11_161 rfl rfl (ly_is hy 0 11 rfl) (fun I9276 eI9276 => ?_)
  have hI9276 : MP g n L I9276 := by rw [eI9276]; exact (mp_w hy hI9265 (c := 0) (mi_f hy hI9265.1 (c := 0) (-1) (0) (2) (by decide) (Or.inr (by decide)) (by decide) (by omega) (by omega)) (by decide) (by decide) (Or.inr (by decide)))
  have e9277 : I9276 (ad g 0) 1 = L := by rw [eI9276, pp_ne _ _ (Or.inr (by decide))]; exact e9266
  have e9278 : I9276 (ad g 0) 2 = w9241 := by rw [eI9276, pp_ne _ _ (Or.inr (by decide))]; exact e9267
  have e9279 : I9276 (ad g 0) 3 = w9242 := by rw [eI9276, pp_ne _ _ (Or.inr (by decide))]; exact e9268
  have e9280 : I9276 (ad g 0) 4 = w9243 := by rw [eI9276, pp_ne _ _ (Or.inr (by decide))]; exact e9269
  have e9281 : I9276 (ad g 0) 5 = w9244 := by rw [eI9276, pp_ne _ _ (Or.inr (by decide))]; exact e9270
  have e9282 : I9276 (ad g 0) 15 = v9245 := by rw [eI9276, pp_ne _ _ (Or.inr (by decide))]; exact e9271
  have e9283 : I9276 (ad g 0) 16 = v9254 := by rw [eI9276, pp_ne _ _ (Or.inr (by decide))]; exact e9272
  have e9284 : I9276 (ad g 0) 17 = v9264 := by rw [eI9276, pp_ne _ _ (Or.inr (by decide))]; exact e9273
  have e9285 : I9276 (ad g 0) 18 = v9275 := by rw [eI9276, pp_self]
  have fr9286 : fz 49 g [0, 7, 14, 15, 16, 17, 18, 19, 27, 28, 29, 30, 31, 32, 33, 34] I I9276 := by rw [eI9276]; exact fzm_pp hy fr9274 (by decide) (by decide)
  clear eI9276
  refine WP_aload_n dX11_readTown_20 rfl ?_
  refine WQ_iconst (0) (0) dX11_readTown_21 rfl rfl (fun v9287 hv9287 => ?_)
  refine WQ_puti dX11_readTown_22 fX11_78 rfl rfl (ly_is hy 0 11 rfl) (fun I9288 eI9288 => ?_)
  have hI9288 : MP g n L I9288 := by rw [eI9288]; exact (mp_w hy hI9276 (c := 0) (mi_f0 hy hI9276.1 (c := 0) (by decide) (Or.inr (by decide)) (by decide)) (by decide) (by decide) (Or.inr (by decide)))
  have e9289 : I9288 (ad g 0) 1 = L := by rw [eI9288, pp_ne _ _ (Or.inr (by decide))]; exact e9277
  have e9290 : I9288 (ad g 0) 2 = w9241 := by rw [eI9288, pp_ne _ _ (Or.inr (by decide))]; exact e9278
  have e9291 : I9288 (ad g 0) 3 = w9242 := by rw [eI9288, pp_ne _ _ (Or.inr (by decide))]; exact e9279
  have e9292 : I9288 (ad g 0) 4 = w9243 := by rw [eI9288, pp_ne _ _ (Or.inr (by decide))]; exact e9280
  have e9293 : I9288 (ad g 0) 5 = w9244 := by rw [eI9288, pp_ne _ _ (Or.inr (by decide))]; exact e9281
  have e9294 : I9288 (ad g 0) 15 = v9245 := by rw [eI9288, pp_ne _ _ (Or.inr (by decide))]; exact e9282
  have e9295 : I9288 (ad g 0) 16 = v9254 := by rw [eI9288, pp_ne _ _ (Or.inr (by decide))]; exact e9283
  have e9296 : I9288 (ad g 0) 17 = v9264 := by rw [eI9288, pp_ne _ _ (Or.inr (by decide))]; exact e9284
  have e9297 : I9288 (ad g 0) 18 = v9275 := by rw [eI9288, pp_ne _ _ (Or.inr (by decide))]; exact e9285
  have e9298 : I9288 (ad g 0) 51 = v9287 := by rw [eI9288, pp_self]
  have fr9299 : fz 49 g [0, 7, 14, 15, 16, 17, 18, 19, 27, 28, 29, 30, 31, 32, 33, 34] I I9288 := by rw [eI9288]; exact fzm_pp hy fr9286 (by decide) (by decide)
  clear eI9288
  refine WP_aload_n dX11_readTown_25 rfl ?_
  refine WQ_iconst (0) (0) dX11_readTown_26 rfl rfl (fun v9300 hv9300 => ?_)
  refine WQ_puti dX11_readTown_27 fX11_207 rfl rfl (ly_is hy 0 11 rfl) (fun I9301 eI9301 => ?_)
  have hI9301 : MP g n L I9301 := by rw [eI9301]; exact (mp_w hy hI9288 (c := 0) (mi_f0 hy hI9288.1 (c := 0) (by decide) (Or.inr (by decide)) (by decide)) (by decide) (by decide) (Or.inr (by decide)))
  have e9302 : I9301 (ad g 0) 1 = L := by rw [eI9301, pp_ne _ _ (Or.inr (by decide))]; exact e9289
  have e9303 : I9301 (ad g 0) 2 = w9241 := by rw [eI9301, pp_ne _ _ (Or.inr (by decide))]; exact e9290
  have e9304 : I9301 (ad g 0) 3 = w9242 := by rw [eI9301, pp_ne _ _ (Or.inr (by decide))]; exact e9291
  have e9305 : I9301 (ad g 0) 4 = w9243 := by rw [eI9301, pp_ne _ _ (Or.inr (by decide))]; exact e9292
  have e9306 : I9301 (ad g 0) 5 = w9244 := by rw [eI9301, pp_ne _ _ (Or.inr (by decide))]; exact e9293
  have e9307 : I9301 (ad g 0) 15 = v9245 := by rw [eI9301, pp_ne _ _ (Or.inr (by decide))]; exact e9294
  have e9308 : I9301 (ad g 0) 16 = v9254 := by rw [eI9301, pp_ne _ _ (Or.inr (by decide))]; exact e9295
  have e9309 : I9301 (ad g 0) 17 = v9264 := by rw [eI9301, pp_ne _ _ (Or.inr (by decide))]; exact e9296
  have e9310 : I9301 (ad g 0) 18 = v9275 := by rw [eI9301, pp_ne _ _ (Or.inr (by decide))]; exact e9297
  have e9311 : I9301 (ad g 0) 51 = v9287 := by rw [eI9301, pp_ne _ _ (Or.inr (by decide))]; exact e9298
  have e9312 : I9301 (ad g 0) 19 = v9300 := by rw [eI9301, pp_self]
  have fr9313 : fz 49 g [0, 7, 14, 15, 16, 17, 18, 19, 27, 28, 29, 30, 31, 32, 33, 34] I I9301 := by rw [eI9301]; exact fzm_pp hy fr9299 (by decide) (by decide)
  clear eI9301
  refine WQ_iconst (0) (0) dX11_readTown_30 rfl rfl (fun v9314 hv9314 => ?_)
  refine WP_istore_n (ls' := [(0, _), (1, _)]) dX11_readTown_31 (by decide) rfl ?_
  have lp32_9323 : ∀ (mz : Nat) (i9315 : Int32) (I9316 : pI) (J9317 : pJ), MP g n L I9316 → fz 49 g [0, 7, 14, 15, 16, 17, 18, 19, 27, 28, 29, 30, 31, 32, 33, 34] I I9316 → ∀ (w9318 : Int32), I9316 (ad g 0) 2 = w9318 → ∀ (w9319 : Int32), I9316 (ad g 0) 3 = w9319 → ∀ (w9320 : Int32), I9316 (ad g 0) 4 = w9320 → ∀ (w9321 : Int32), I9316 (ad g 0) 5 = w9321 → ∀ (w9322 : Int32), I9316 (ad g 0) 15 = w9322 → ∀ (w9323 : Int32), I9316 (ad g 0) 17 = w9323 → 0 ≤ i9315.toInt → i9315.toInt ≤ 7 → w9320.toInt ≤ w9318.toInt → w9319.toInt ≤ w9320.toInt → (w9321.toInt = 0 ∨ w9319.toInt < w9320.toInt) → w9322.toInt = 0 → w9323.toInt = -1 → (8 - i9315.toInt).toNat < mz → WP g mX11_readTown 32 [(0, .ref (ad g 0)), (1, .int i9315)] [] I9316 J9317 R (fun r I' J' R' => (MP g n L I' ∧ R' = R ∧ fz 49 g [0, 7, 14, 15, 16, 17, 18, 19, 27, 28, 29, 30, 31, 32, 33, 34] I I') ∧ ∃ v : Int32, r = some (.int v) ∧ 0 ≤ v.toInt ∧ v.toInt ≤ 1 ∧ (v.toInt = 1 → (I' (ad g 0) 17).toInt < (I' (ad g 0) 15).toInt ∧ WRt (I' (ad g 30)) (I' (ad g 31)) (7 * (I' (ad g 0) 15).toInt))) := by
    intro mz
    induction mz with
    | zero =>
      intro i9315 I9316 J9317 hI9316 fiI9316 w9318 ew9318 w9319 ew9319 w9320 ew9320 w9321 ew9321 w9322 ew9322 w9323 ew9323 ai9315 bi9315 j0_I9316 j1_I9316 j2_I9316 j3_I9316 j4_I9316 hmlp32_9323
      exact absurd hmlp32_9323 (Nat.not_lt_zero _)
    | succ mz ihlp32_9323 =>
      intro i9315 I9316 J9317 hI9316 fiI9316 w9318 ew9318 w9319 ew9319 w9320 ew9320 w9321 ew9321 w9322 ew9322 w9323 ew9323 ai9315 bi9315 j0_I9316 j1_I9316 j2_I9316 j3_I9316 j4_I9316 hmlp32_9323
      have bw9318 := BT_get hI9316.1.1 0 2 3 (0) (0) (900) (by decide) 2 (by decide) (by decide)
      rw [ew9318] at bw9318
      have bw9319 := BT_get hI9316.1.1 0 3 4 (0) (0) (900) (by decide) 3 (by decide) (by decide)
      rw [ew9319] at bw9319
      have bw9320 := BT_get hI9316.1.1 0 4 5 (0) (0) (900) (by decide) 4 (by decide) (by decide)
      rw [ew9320] at bw9320
      have bw9321 := BT_get hI9316.1.1 0 5 6 (0) (0) (4) (by decide) 5 (by decide) (by decide)
      rw [ew9321] at bw9321
      have bw9322 := BT_get hI9316.1.1 0 15 16 (0) (0) (4) (by decide) 15 (by decide) (by decide)
      rw [ew9322] at bw9322
      have bw9323 := BT_get hI9316.1.1 0 17 18 (-1) (0) (3) (by decide) 17 (by decide) (by decide)
      rw [ew9323] at bw9323
      have e9325 : I9316 (ad g 0) 1 = L := hI9316.1.2
      have b9326 := BT_get hI9316.1.1 0 1 2 (0) (0) (900) (by decide) 1 (by decide) (by decide)
      rw [e9325] at b9326
      refine WP_iload_n dX11_readTown_32 rfl ?_
      refine WQ_bipush (7) (7) dX11_readTown_33 rfl rfl (fun v9327 hv9327 => ?_)
      refine WQ_icmp_ge 51 dX11_readTown_35 rfl (fun c9327 => ?_) (fun c9327 => ?_)
      · have lp51_9337 : ∀ (mz : Nat)  (I9329 : pI) (J9330 : pJ), MP g n L I9329 → fz 49 g [0, 7, 14, 15, 16, 17, 18, 19, 27, 28, 29, 30, 31, 32, 33, 34] I I9329 → ∀ (w9332 : Int32), I9329 (ad g 0) 2 = w9332 → ∀ (w9333 : Int32), I9329 (ad g 0) 3 = w9333 → ∀ (w9334 : Int32), I9329 (ad g 0) 4 = w9334 → ∀ (w9335 : Int32), I9329 (ad g 0) 5 = w9335 → ∀ (w9336 : Int32), I9329 (ad g 0) 15 = w9336 → ∀ (w9337 : Int32), I9329 (ad g 0) 17 = w9337 → w9334.toInt ≤ w9332.toInt → w9333.toInt ≤ w9334.toInt → (w9335.toInt = 0 ∨ w9333.toInt < w9334.toInt) → w9337.toInt < w9336.toInt → (WRt (I9329 (ad g 30)) (I9329 (ad g 31)) (7 * w9336.toInt)) → (901 - w9333.toInt).toNat < mz → WP g mX11_readTown 51 [(0, .ref (ad g 0)), (1, .int i9315)] [] I9329 J9330 R (fun r I' J' R' => (MP g n L I' ∧ R' = R ∧ fz 49 g [0, 7, 14, 15, 16, 17, 18, 19, 27, 28, 29, 30, 31, 32, 33, 34] I I') ∧ ∃ v : Int32, r = some (.int v) ∧ 0 ≤ v.toInt ∧ v.toInt ≤ 1 ∧ (v.toInt = 1 → (I' (ad g 0) 17).toInt < (I' (ad g 0) 15).toInt ∧ WRt (I' (ad g 30)) (I' (ad g 31)) (7 * (I' (ad g 0) 15).toInt))) := by
          intro mz
          induction mz with
          | zero =>
            intro  I9329 J9330 hI9329 fiI9329 w9332 ew9332 w9333 ew9333 w9334 ew9334 w9335 ew9335 w9336 ew9336 w9337 ew9337 j0_I9329 j1_I9329 j2_I9329 j3_I9329 PW_I9329_9330 hmlp51_9337
            exact absurd hmlp51_9337 (Nat.not_lt_zero _)
          | succ mz ihlp51_9337 =>
            intro  I9329 J9330 hI9329 fiI9329 w9332 ew9332 w9333 ew9333 w9334 ew9334 w9335 ew9335 w9336 ew9336 w9337 ew9337 j0_I9329 j1_I9329 j2_I9329 j3_I9329 PW_I9329_9330 hmlp51_9337
            have bw9332 := BT_get hI9329.1.1 0 2 3 (0) (0) (900) (by decide) 2 (by decide) (by decide)
            rw [ew9332] at bw9332
            have bw9333 := BT_get hI9329.1.1 0 3 4 (0) (0) (900) (by decide) 3 (by decide) (by decide)
            rw [ew9333] at bw9333
            have bw9334 := BT_get hI9329.1.1 0 4 5 (0) (0) (900) (by decide) 4 (by decide) (by decide)
            rw [ew9334] at bw9334
            have bw9335 := BT_get hI9329.1.1 0 5 6 (0) (0) (4) (by decide) 5 (by decide) (by decide)
            rw [ew9335] at bw9335
            have bw9336 := BT_get hI9329.1.1 0 15 16 (0) (0) (4) (by decide) 15 (by decide) (by decide)
            rw [ew9336] at bw9336
            have bw9337 := BT_get hI9329.1.1 0 17 18 (-1) (0) (3) (by decide) 17 (by decide) (by decide)
            rw [ew9337] at bw9337
            have e9339 : I9329 (ad g 0) 1 = L := hI9329.1.2
            have b9340 := BT_get hI9329.1.1 0 1 2 (0) (0) (900) (by decide) 1 (by decide) (by decide)
            rw [e9339] at b9340
            refine WP_aload_n dX11_readTown_51 rfl ?_
            refine WQ_getim dX11_readTown_52 fX11_27 rfl (ly_is hy 0 11 rfl) ew9335 ?_
            refine WQ_if_eq 87 dX11_readTown_55 rfl (fun c9340 => ?_) (fun c9340 => ?_)
            · refine WQ_iconst (1) (1) dX11_readTown_87 rfl rfl (fun v9342 hv9342 => ?_)
              exact WP_zret dX11_readTown_88 rfl (nar_z (by omega)) ⟨⟨hI9329, rfl, fiI9329⟩, _, rfl, by omega, by omega, (fun _ => ⟨by rw [ew9337, ew9336]; omega, by rw [ew9336]; exact PW_I9329_9330⟩)⟩
            · refine WP_aload_n dX11_readTown_58 rfl ?_
              refine WP_callV0 (k := 11) dX11_readTown_59 ⟨⟨⟨by decide, by decide⟩, zX11_readClause⟩, lX11_210, by decide, rfl, vX11_readClause.1, vX11_readClause.2⟩ (ly_is hy 0 11 rfl) (sm_readClause hy hz hr hI9329   (by rw [ew9332, ew9333, ew9334, ew9335, ew9336, ew9337]; omega) (by rw [ew9336]; exact PW_I9329_9330)) (Nat.le_of_ble_eq_true rfl) ?_
              intro r I9343 J9344 Ra hq
              obtain ⟨⟨hI9343, ec, fiI9343, pI9343⟩, v9345, rfl, av9345, bv9345, cv9345⟩ := hq
              show WP _ _ _ _ (.int _ :: _) _ _ _ _
              rw [ec]
              clear ec Ra
              have fr9346 : fz 49 g [0, 7, 14, 15, 16, 17, 18, 19, 27, 28, 29, 30, 31, 32, 33, 34] I I9343 := fz_tr fiI9329 (fz_mono fiI9343 (by decide))
              have e9347 : I9343 (ad g 0) 1 = L := hI9343.1.2
              have b9348 := BT_get hI9343.1.1 0 1 2 (0) (0) (900) (by decide) 1 (by decide) (by decide)
              rw [e9347] at b9348
              obtain ⟨w9349, ew9349⟩ : ∃ w : Int32, I9343 (ad g 0) 2 = w := ⟨_, rfl⟩
              have bw9349 := BT_get hI9343.1.1 0 2 3 (0) (0) (900) (by decide) 2 (by decide) (by decide)
              rw [ew9349] at bw9349
              obtain ⟨w9350, ew9350⟩ : ∃ w : Int32, I9343 (ad g 0) 3 = w := ⟨_, rfl⟩
              have bw9350 := BT_get hI9343.1.1 0 3 4 (0) (0) (900) (by decide) 3 (by decide) (by decide)
              rw [ew9350] at bw9350
              obtain ⟨w9351, ew9351⟩ : ∃ w : Int32, I9343 (ad g 0) 4 = w := ⟨_, rfl⟩
              have bw9351 := BT_get hI9343.1.1 0 4 5 (0) (0) (900) (by decide) 4 (by decide) (by decide)
              rw [ew9351] at bw9351
              obtain ⟨w9352, ew9352⟩ : ∃ w : Int32, I9343 (ad g 0) 5 = w := ⟨_, rfl⟩
              have bw9352 := BT_get hI9343.1.1 0 5 6 (0) (0) (4) (by decide) 5 (by decide) (by decide)
              rw [ew9352] at bw9352
              obtain ⟨w9353, ew9353⟩ : ∃ w : Int32, I9343 (ad g 0) 15 = w := ⟨_, rfl⟩
              have bw9353 := BT_get hI9343.1.1 0 15 16 (0) (0) (4) (by decide) 15 (by decide) (by decide)
              rw [ew9353] at bw9353
              obtain ⟨w9354, ew9354⟩ : ∃ w : Int32, I9343 (ad g 0) 17 = w := ⟨_, rfl⟩
              have bw9354 := BT_get hI9343.1.1 0 17 18 (-1) (0) (3) (by decide) 17 (by decide) (by decide)
              rw [ew9354] at bw9354
              rw [ew9349, ew9350, ew9351, ew9352, ew9353, ew9354, ew9333] at pI9343
              refine WQ_if_eq 72 dX11_readTown_62 rfl (fun c9354 => ?_) (fun c9354 => ?_)
              · refine WQ_iconst (0) (0) dX11_readTown_72 rfl rfl (fun v9356 hv9356 => ?_)
                exact WP_zret dX11_readTown_73 rfl (nar_z (by omega)) ⟨⟨hI9343, rfl, fr9346⟩, _, rfl, by omega, by omega, (fun h => False.elim (by omega))⟩
              · have W65_9356 := cv9345 (by omega)
                rw [ew9353] at W65_9356
                refine WP_aload_n dX11_readTown_65 rfl ?_
                refine WP_callV0 (k := 11) dX11_readTown_66 ⟨⟨⟨by decide, by decide⟩, zX11_close⟩, lX11_213, by decide, rfl, vX11_close.1, vX11_close.2⟩ (ly_is hy 0 11 rfl) (sm_closex hy hr hI9343   (by rw [ew9349, ew9350, ew9351, ew9352]; omega)) (Nat.le_of_ble_eq_true rfl) ?_
                intro r I9358 J9359 Ra hq
                obtain ⟨⟨hI9358, ec, fiI9358, ⟨pI9358, sI9358_0_15, sI9358_0_16, sI9358_0_17, sI9358_0_18⟩⟩, v9360, rfl, av9360, bv9360, cv9360⟩ := hq
                show WP _ _ _ _ (.int _ :: _) _ _ _ _
                rw [ec]
                clear ec Ra
                have fr9361 : fz 49 g [0, 7, 14, 15, 16, 17, 18, 19, 27, 28, 29, 30, 31, 32, 33, 34] I I9358 := fz_tr fr9346 (fz_mono fiI9358 (by decide))
                have WI9358 := W65_9356
                rw [← fz_at fiI9358 30 (by decide) (by decide), ← fz_at fiI9358 31 (by decide) (by decide)] at WI9358
                have e9362 : I9358 (ad g 0) 15 = w9353 := by rw [sI9358_0_15]; exact ew9353
                have e9363 : I9358 (ad g 0) 17 = w9354 := by rw [sI9358_0_17]; exact ew9354
                have e9364 : I9358 (ad g 0) 1 = L := hI9358.1.2
                have b9365 := BT_get hI9358.1.1 0 1 2 (0) (0) (900) (by decide) 1 (by decide) (by decide)
                rw [e9364] at b9365
                obtain ⟨w9366, ew9366⟩ : ∃ w : Int32, I9358 (ad g 0) 2 = w := ⟨_, rfl⟩
                have bw9366 := BT_get hI9358.1.1 0 2 3 (0) (0) (900) (by decide) 2 (by decide) (by decide)
                rw [ew9366] at bw9366
                obtain ⟨w9367, ew9367⟩ : ∃ w : Int32, I9358 (ad g 0) 3 = w := ⟨_, rfl⟩
                have bw9367 := BT_get hI9358.1.1 0 3 4 (0) (0) (900) (by decide) 3 (by decide) (by decide)
                rw [ew9367] at bw9367
                obtain ⟨w9368, ew9368⟩ : ∃ w : Int32, I9358 (ad g 0) 4 = w := ⟨_, rfl⟩
                have bw9368 := BT_get hI9358.1.1 0 4 5 (0) (0) (900) (by decide) 4 (by decide) (by decide)
                rw [ew9368] at bw9368
                obtain ⟨w9369, ew9369⟩ : ∃ w : Int32, I9358 (ad g 0) 5 = w := ⟨_, rfl⟩
                have bw9369 := BT_get hI9358.1.1 0 5 6 (0) (0) (4) (by decide) 5 (by decide) (by decide)
                rw [ew9369] at bw9369
                rw [ew9366, ew9367, ew9368, ew9369, ew9350] at pI9358
                rw [ew9367] at cv9360
                rw [ew9350] at cv9360
                refine WQ_if_ne 74 dX11_readTown_69 rfl (fun c9369 => ?_) (fun c9369 => ?_)
                · refine WP_aload_n dX11_readTown_74 rfl ?_
                  refine WP_dup dX11_readTown_75 rfl ?_
                  refine WQ_getiu dX11_readTown_76 fX11_207 rfl (ly_is hy 0 11 rfl) (fun v9371 ev9371 => ?_)
                  refine WQ_iconst (1) (1) dX11_readTown_79 rfl rfl (fun v9372 hv9372 => ?_)
                  refine WQ_iaddu dX11_readTown_80 (fun v9373 => ?_)
                  refine WQ_puti dX11_readTown_81 fX11_207 rfl rfl (ly_is hy 0 11 rfl) (fun I9374 eI9374 => ?_)
                  have hI9374 : MP g n L I9374 := by rw [eI9374]; exact (mp_w hy hI9358 (c := 0) (mi_f0 hy hI9358.1 (c := 0) (by decide) (Or.inr (by decide)) (by decide)) (by decide) (by decide) (Or.inr (by decide)))
                  have e9375 : I9374 (ad g 0) 15 = w9353 := by rw [eI9374, pp_ne _ _ (Or.inr (by decide))]; exact e9362
                  have e9376 : I9374 (ad g 0) 17 = w9354 := by rw [eI9374, pp_ne _ _ (Or.inr (by decide))]; exact e9363
                  have e9377 : I9374 (ad g 0) 1 = L := by rw [eI9374, pp_ne _ _ (Or.inr (by decide))]; exact e9364
                  have e9378 : I9374 (ad g 0) 2 = w9366 := by rw [eI9374, pp_ne _ _ (Or.inr (by decide))]; exact ew9366
                  have e9379 : I9374 (ad g 0) 3 = w9367 := by rw [eI9374, pp_ne _ _ (Or.inr (by decide))]; exact ew9367
                  have e9380 : I9374 (ad g 0) 4 = w9368 := by rw [eI9374, pp_ne _ _ (Or.inr (by decide))]; exact ew9368
                  have e9381 : I9374 (ad g 0) 5 = w9369 := by rw [eI9374, pp_ne _ _ (Or.inr (by decide))]; exact ew9369
                  have e9382 : I9374 (ad g 0) 19 = v9373 := by rw [eI9374, pp_self]
                  have fr9383 : fz 49 g [0, 7, 14, 15, 16, 17, 18, 19, 27, 28, 29, 30, 31, 32, 33, 34] I I9374 := by rw [eI9374]; exact fzm_pp hy fr9361 (by decide) (by decide)
                  have WI9374 := WI9358
                  rw [← (show I9374 (ad g 30) = I9358 (ad g 30) by rw [eI9374, pp_off _ _ (ly_ne hy (by decide) (by decide) (by decide))]), ← (show I9374 (ad g 31) = I9358 (ad g 31) by rw [eI9374, pp_off _ _ (ly_ne hy (by decide) (by decide) (by decide))])] at WI9374
                  clear eI9374
                  refine WP_goto 51 dX11_readTown_84 rfl ?_
                  exact WP_sub (fc rfl (fc rfl fn)) (ihlp51_9337 I9374 J9359 hI9374 fr9383 w9366 e9378 w9367 e9379 w9368 e9380 w9369 e9381 w9353 e9375 w9354 e9376 (by omega) (by omega) (by omega) (by omega) WI9374 (by omega))
                · refine WQ_iconst (0) (0) dX11_readTown_72 rfl rfl (fun v9384 hv9384 => ?_)
                  exact WP_zret dX11_readTown_73 rfl (nar_z (by omega)) ⟨⟨hI9358, rfl, fr9361⟩, _, rfl, by omega, by omega, (fun h => False.elim (by omega))⟩
        exact WP_sub (fc rfl (fc rfl fn)) (lp51_9337 _ I9316 J9317 hI9316 fiI9316 w9318 ew9318 w9319 ew9319 w9320 ew9320 w9321 ew9321 w9322 ew9322 w9323 ew9323 (by omega) (by omega) (by omega) (by omega) (WRt_0 (by omega)) (Nat.lt_succ_self _))
      · refine WP_aload_n dX11_readTown_38 rfl ?_
        refine WP_getr dX11_readTown_39 fX11_84 rfl (ly_is hy 0 11 rfl) (rf hr 0 25 7 (by decide)) ?_
        refine WP_iload_n dX11_readTown_42 rfl ?_
        refine WQ_iconst (0) (0) dX11_readTown_43 rfl rfl (fun v9385 hv9385 => ?_)
        refine WQ_iast dX11_readTown_44 (ly_is hy 7 13 rfl) (ly_n hy 7 7 rfl) (by omega) (by omega) (fun I9386 eI9386 => ?_)
        have hI9386 : MP g n L I9386 := by rw [eI9386]; exact (mp_w hy hI9316 (c := 7) (mi_r hy hI9316.1 (c := 7) (0) (0) (900) (by decide) (Or.inl (by decide)) (by decide) (by omega) (by omega)) (by decide) (by decide) (Or.inl (by decide)))
        have e9387 : I9386 (ad g 0) 2 = w9318 := by rw [eI9386, pp_ne _ _ (Or.inl (ly_ne hy (by decide) (by decide) (by decide)))]; exact ew9318
        have e9388 : I9386 (ad g 0) 3 = w9319 := by rw [eI9386, pp_ne _ _ (Or.inl (ly_ne hy (by decide) (by decide) (by decide)))]; exact ew9319
        have e9389 : I9386 (ad g 0) 4 = w9320 := by rw [eI9386, pp_ne _ _ (Or.inl (ly_ne hy (by decide) (by decide) (by decide)))]; exact ew9320
        have e9390 : I9386 (ad g 0) 5 = w9321 := by rw [eI9386, pp_ne _ _ (Or.inl (ly_ne hy (by decide) (by decide) (by decide)))]; exact ew9321
        have e9391 : I9386 (ad g 0) 15 = w9322 := by rw [eI9386, pp_ne _ _ (Or.inl (ly_ne hy (by decide) (by decide) (by decide)))]; exact ew9322
        have e9392 : I9386 (ad g 0) 17 = w9323 := by rw [eI9386, pp_ne _ _ (Or.inl (ly_ne hy (by decide) (by decide) (by decide)))]; exact ew9323
        have e9393 : I9386 (ad g 0) 1 = L := by rw [eI9386, pp_ne _ _ (Or.inl (ly_ne hy (by decide) (by decide) (by decide)))]; exact e9325
        have fr9394 : fz 49 g [0, 7, 14, 15, 16, 17, 18, 19, 27, 28, 29, 30, 31, 32, 33, 34] I I9386 := by rw [eI9386]; exact fzm_pp hy fiI9316 (by decide) (by decide)
        clear eI9386
        refine WP_iinc (ls' := [(0, _), (1, _)]) dX11_readTown_45 rfl (by decide) rfl ?_
        have hv9395 : (i9315 + Int32.ofInt (1)).toInt = i9315.toInt + (1) := ia_n rfl (by omega) (by omega)
        generalize i9315 + Int32.ofInt (1) = v9395 at hv9395 ⊢
        refine WP_goto 32 dX11_readTown_48 rfl ?_
        exact WP_sub (fc rfl (fc rfl fn)) (ihlp32_9323 v9395 I9386 J9317 hI9386 fr9394 w9318 e9387 w9319 e9388 w9320 e9389 w9321 e9390 w9322 e9391 w9323 e9392 (by omega) (by omega) (by omega) (by omega) (by omega) (by omega) (by omega) (by omega))
  exact WP_sub (fc rfl (fc rfl fn)) (lp32_9323 _ v9314 I9301 J hI9301 fr9313 w9241 e9303 w9242 e9304 w9243 e9305 w9244 e9306 v9245 e9307 v9264 e9309 (by omega) (by omega) (by omega) (by omega) (by omega) (by omega) (by omega) (Nat.lt_succ_self _))
set_option maxHeartbeats 4000000 in
set_option maxRecDepth 100000 in
theorem sm_openx {g : GG} {n : Int} {L : Int32} (hy : Ly g)  {I : pI} {J : pJ} {R : pR} (hr : Rf g R) (hI : MP g n L I)   : SP g mX11_open [.ref (ad g 0)] I J R (fun r I' J' R' => ((∃ L2 : Int32, MP g n L2 I' ∧ L2.toInt = 0) ∧ R' = R ∧ ((I' (ad g 0) 4).toInt ≤ (I' (ad g 0) 2).toInt ∧ (I' (ad g 0) 3).toInt ≤ (I' (ad g 0) 4).toInt ∧ ((I' (ad g 0) 5).toInt = 0 ∨ (I' (ad g 0) 3).toInt < (I' (ad g 0) 4).toInt))) ∧ r = none) := by
  refine SP_of ⟨by decide, rfl⟩ (Nat.le_of_ble_eq_true rfl) ?_
  have e9396 : I (ad g 0) 1 = L := hI.1.2
  have b9397 := BT_get hI.1.1 0 1 2 (0) (0) (900) (by decide) 1 (by decide) (by decide)
  rw [e9396] at b9397
  refine WP_aload_n dX11_open_0 rfl ?_
  refine WP_aload_n dX11_open_1 rfl ?_
  refine WQ_getim dX11_open_2 fX11_75 rfl (ly_is hy 0 11 rfl) e9396 ?_
  refine WQ_puti dX11_open_5 fX11_13 rfl rfl (ly_is hy 0 11 rfl) (fun I9398 eI9398 => ?_)
  have hI9398 : MP g n L I9398 := by rw [eI9398]; exact (mp_w hy hI (c := 0) (mi_f hy hI.1 (c := 0) (0) (0) (900) (by decide) (Or.inr (by decide)) (by decide) (by omega) (by omega)) (by decide) (by decide) (Or.inr (by decide)))
  have e9399 : I9398 (ad g 0) 1 = L := by rw [eI9398, pp_ne _ _ (Or.inr (by decide))]; exact e9396
  have e9400 : I9398 (ad g 0) 2 = L := by rw [eI9398, pp_self]
  clear eI9398
  refine WP_aload_n dX11_open_8 rfl ?_
  refine WQ_iconst (0) (0) dX11_open_9 rfl rfl (fun v9401 hv9401 => ?_)
  refine WQ_puti dX11_open_10 fX11_75 rfl rfl (ly_is hy 0 11 rfl) (fun I9402 eI9402 => ?_)
  have hI9402 : MP g n v9401 I9402 := by rw [eI9402]; exact (mp_w hy hI9398 (c := 0) (mi_len hy hI9398.1 (by omega) (by omega)) (by decide) (by decide) (Or.inr (by decide)))
  have e9403 : I9402 (ad g 0) 2 = L := by rw [eI9402, pp_ne _ _ (Or.inr (by decide))]; exact e9400
  have e9404 : I9402 (ad g 0) 1 = v9401 := by rw [eI9402, pp_self]
  clear eI9402
  refine WP_aload_n dX11_open_13 rfl ?_
  refine WQ_iconst (0) (0) dX11_open_14 rfl rfl (fun v9405 hv9405 => ?_)
  refine WQ_puti dX11_open_15 fX11_20 rfl rfl (ly_is hy 0 11 rfl) (fun I9406 eI9406 => ?_)
  have hI9406 : MP g n v9401 I9406 := by rw [eI9406]; exact (mp_w hy hI9402 (c := 0) (mi_f hy hI9402.1 (c := 0) (0) (0) (900) (by decide) (Or.inr (by decide)) (by decide) (by omega) (by omega)) (by decide) (by decide) (Or.inr (by decide)))
  have e9407 : I9406 (ad g 0) 2 = L := by rw [eI9406, pp_ne _ _ (Or.inr (by decide))]; exact e9403
  have e9408 : I9406 (ad g 0) 1 = v9401 := by rw [eI9406, pp_ne _ _ (Or.inr (by decide))]; exact e9404
  have e9409 : I9406 (ad g 0) 4 = v9405 := by rw [eI9406, pp_self]
  clear eI9406
  refine WP_aload_n dX11_open_18 rfl ?_
  refine WQ_iconst (0) (0) dX11_open_19 rfl rfl (fun v9410 hv9410 => ?_)
  refine WQ_puti dX11_open_20 fX11_3 rfl rfl (ly_is hy 0 11 rfl) (fun I9411 eI9411 => ?_)
  have hI9411 : MP g n v9401 I9411 := by rw [eI9411]; exact (mp_w hy hI9406 (c := 0) (mi_f0 hy hI9406.1 (c := 0) (by decide) (Or.inr (by decide)) (by decide)) (by decide) (by decide) (Or.inr (by decide)))
  have e9412 : I9411 (ad g 0) 2 = L := by rw [eI9411, pp_ne _ _ (Or.inr (by decide))]; exact e9407
  have e9413 : I9411 (ad g 0) 1 = v9401 := by rw [eI9411, pp_ne _ _ (Or.inr (by decide))]; exact e9408
  have e9414 : I9411 (ad g 0) 4 = v9405 := by rw [eI9411, pp_ne _ _ (Or.inr (by decide))]; exact e9409
  have e9415 : I9411 (ad g 0) 8 = v9410 := by rw [eI9411, pp_self]
  clear eI9411
  refine WP_aload_n dX11_open_23 rfl ?_
  refine WQ_iconst (-1) (-1) dX11_open_24 rfl rfl (fun v9416 hv9416 => ?_)
  refine WQ_puti dX11_open_25 fX11_10 rfl rfl (ly_is hy 0 11 rfl) (fun I9417 eI9417 => ?_)
  have hI9417 : MP g n v9401 I9417 := by rw [eI9417]; exact (mp_w hy hI9411 (c := 0) (mi_f0 hy hI9411.1 (c := 0) (by decide) (Or.inr (by decide)) (by decide)) (by decide) (by decide) (Or.inr (by decide)))
  have e9418 : I9417 (ad g 0) 2 = L := by rw [eI9417, pp_ne _ _ (Or.inr (by decide))]; exact e9412
  have e9419 : I9417 (ad g 0) 1 = v9401 := by rw [eI9417, pp_ne _ _ (Or.inr (by decide))]; exact e9413
  have e9420 : I9417 (ad g 0) 4 = v9405 := by rw [eI9417, pp_ne _ _ (Or.inr (by decide))]; exact e9414
  have e9421 : I9417 (ad g 0) 8 = v9410 := by rw [eI9417, pp_ne _ _ (Or.inr (by decide))]; exact e9415
  have e9422 : I9417 (ad g 0) 9 = v9416 := by rw [eI9417, pp_self]
  clear eI9417
  refine WP_aload_n dX11_open_28 rfl ?_
  refine WP_callV0 (k := 11) dX11_open_29 ⟨⟨⟨by decide, by decide⟩, zX11_scan⟩, lX11_63, by decide, rfl, vX11_scan.1, vX11_scan.2⟩ (ly_is hy 0 11 rfl) (sm_scanx hy hr hI9417   (by rw [e9420, e9418]; omega)) (Nat.le_of_ble_eq_true rfl) ?_
  intro r I9423 J9424 Ra hq
  obtain ⟨⟨hI9423, ec, fiI9423, ⟨pI9423, sI9423_0_7, sI9423_0_15, sI9423_0_16, sI9423_0_17, sI9423_0_18⟩⟩, rfl⟩ := hq
  rw [ec]
  clear ec Ra
  have e9425 : I9423 (ad g 0) 1 = v9401 := hI9423.1.2
  have b9426 := BT_get hI9423.1.1 0 1 2 (0) (0) (900) (by decide) 1 (by decide) (by decide)
  rw [e9425] at b9426
  obtain ⟨w9427, ew9427⟩ : ∃ w : Int32, I9423 (ad g 0) 2 = w := ⟨_, rfl⟩
  have bw9427 := BT_get hI9423.1.1 0 2 3 (0) (0) (900) (by decide) 2 (by decide) (by decide)
  rw [ew9427] at bw9427
  obtain ⟨w9428, ew9428⟩ : ∃ w : Int32, I9423 (ad g 0) 3 = w := ⟨_, rfl⟩
  have bw9428 := BT_get hI9423.1.1 0 3 4 (0) (0) (900) (by decide) 3 (by decide) (by decide)
  rw [ew9428] at bw9428
  obtain ⟨w9429, ew9429⟩ : ∃ w : Int32, I9423 (ad g 0) 4 = w := ⟨_, rfl⟩
  have bw9429 := BT_get hI9423.1.1 0 4 5 (0) (0) (900) (by decide) 4 (by decide) (by decide)
  rw [ew9429] at bw9429
  obtain ⟨w9430, ew9430⟩ : ∃ w : Int32, I9423 (ad g 0) 5 = w := ⟨_, rfl⟩
  have bw9430 := BT_get hI9423.1.1 0 5 6 (0) (0) (4) (by decide) 5 (by decide) (by decide)
  rw [ew9430] at bw9430
  rw [ew9427, ew9428, ew9429, ew9430, e9420] at pI9423
  exact WP_vret dX11_open_32 rfl ⟨⟨⟨_, hI9423, by omega⟩, rfl, (by rw [ew9427, ew9428, ew9429, ew9430]; omega)⟩, rfl⟩
set_option maxHeartbeats 4000000 in
set_option maxRecDepth 100000 in
theorem sm_book {g : GG} {n : Int} {L : Int32} (hy : Ly g)  {I : pI} {J : pJ} {R : pR} (hr : Rf g R) (hI : MP g n L I)   : SP g mX11_book [.ref (ad g 0)] I J R (fun r I' J' R' => ((∃ L2 : Int32, MP g n L2 I' ∧ L2.toInt = 0) ∧ R' = R) ∧ ∃ v : Int32, r = some (.int v)) := by
  refine SP_of ⟨by decide, rfl⟩ (Nat.le_of_ble_eq_true rfl) ?_
  have e9431 : I (ad g 0) 1 = L := hI.1.2
  have b9432 := BT_get hI.1.1 0 1 2 (0) (0) (900) (by decide) 1 (by decide) (by decide)
  rw [e9431] at b9432
  refine WP_aload_n dX11_book_0 rfl ?_
  refine WP_callV0 (k := 11) dX11_book_1 ⟨⟨⟨by decide, by decide⟩, zX11_open⟩, lX11_323, by decide, rfl, vX11_open.1, vX11_open.2⟩ (ly_is hy 0 11 rfl) (sm_openx hy hr hI  ) (Nat.le_of_ble_eq_true rfl) ?_
  intro r I9433 J9434 Ra hq
  obtain ⟨⟨⟨L9435, hI9433, qL9435⟩, ec, pI9433⟩, rfl⟩ := hq
  rw [ec]
  clear ec Ra
  have e9436 : I9433 (ad g 0) 1 = L9435 := hI9433.1.2
  have b9437 := BT_get hI9433.1.1 0 1 2 (0) (0) (900) (by decide) 1 (by decide) (by decide)
  rw [e9436] at b9437
  obtain ⟨w9438, ew9438⟩ : ∃ w : Int32, I9433 (ad g 0) 2 = w := ⟨_, rfl⟩
  have bw9438 := BT_get hI9433.1.1 0 2 3 (0) (0) (900) (by decide) 2 (by decide) (by decide)
  rw [ew9438] at bw9438
  obtain ⟨w9439, ew9439⟩ : ∃ w : Int32, I9433 (ad g 0) 3 = w := ⟨_, rfl⟩
  have bw9439 := BT_get hI9433.1.1 0 3 4 (0) (0) (900) (by decide) 3 (by decide) (by decide)
  rw [ew9439] at bw9439
  obtain ⟨w9440, ew9440⟩ : ∃ w : Int32, I9433 (ad g 0) 4 = w := ⟨_, rfl⟩
  have bw9440 := BT_get hI9433.1.1 0 4 5 (0) (0) (900) (by decide) 4 (by decide) (by decide)
  rw [ew9440] at bw9440
  obtain ⟨w9441, ew9441⟩ : ∃ w : Int32, I9433 (ad g 0) 5 = w := ⟨_, rfl⟩
  have bw9441 := BT_get hI9433.1.1 0 5 6 (0) (0) (4) (by decide) 5 (by decide) (by decide)
  rw [ew9441] at bw9441
  rw [ew9438, ew9439, ew9440, ew9441] at pI9433
  refine WQ_bipush (-3) (-3) dX11_book_4 rfl rfl (fun v9442 hv9442 => ?_)
  refine WP_istore_n (ls' := [(0, _), (1, _)]) dX11_book_6 (by decide) rfl ?_
  refine WQ_iconst (0) (0) dX11_book_7 rfl rfl (fun v9443 hv9443 => ?_)
  refine WP_istore_n (ls' := [(0, _), (1, _), (2, _)]) dX11_book_8 (by decide) rfl ?_
  have lp9_9451 : ∀ (mz : Nat) (i9444 : Int32) (i9445 : Int32) (I9446 : pI) (J9447 : pJ), MP g n L9435 I9446 → ∀ (w9448 : Int32), I9446 (ad g 0) 2 = w9448 → ∀ (w9449 : Int32), I9446 (ad g 0) 3 = w9449 → ∀ (w9450 : Int32), I9446 (ad g 0) 4 = w9450 → ∀ (w9451 : Int32), I9446 (ad g 0) 5 = w9451 → w9450.toInt ≤ w9448.toInt → w9449.toInt ≤ w9450.toInt → (w9451.toInt = 0 ∨ w9449.toInt < w9450.toInt) → (901 - w9449.toInt).toNat < mz → WP g mX11_book 9 [(0, .ref (ad g 0)), (1, .int i9444), (2, .int i9445)] [] I9446 J9447 R (fun r I' J' R' => ((∃ L2 : Int32, MP g n L2 I' ∧ L2.toInt = 0) ∧ R' = R) ∧ ∃ v : Int32, r = some (.int v)) := by
    intro mz
    induction mz with
    | zero =>
      intro i9444 i9445 I9446 J9447 hI9446 w9448 ew9448 w9449 ew9449 w9450 ew9450 w9451 ew9451 j0_I9446 j1_I9446 j2_I9446 hmlp9_9451
      exact absurd hmlp9_9451 (Nat.not_lt_zero _)
    | succ mz ihlp9_9451 =>
      intro i9444 i9445 I9446 J9447 hI9446 w9448 ew9448 w9449 ew9449 w9450 ew9450 w9451 ew9451 j0_I9446 j1_I9446 j2_I9446 hmlp9_9451
      have bw9448 := BT_get hI9446.1.1 0 2 3 (0) (0) (900) (by decide) 2 (by decide) (by decide)
      rw [ew9448] at bw9448
      have bw9449 := BT_get hI9446.1.1 0 3 4 (0) (0) (900) (by decide) 3 (by decide) (by decide)
      rw [ew9449] at bw9449
      have bw9450 := BT_get hI9446.1.1 0 4 5 (0) (0) (900) (by decide) 4 (by decide) (by decide)
      rw [ew9450] at bw9450
      have bw9451 := BT_get hI9446.1.1 0 5 6 (0) (0) (4) (by decide) 5 (by decide) (by decide)
      rw [ew9451] at bw9451
      have e9453 : I9446 (ad g 0) 1 = L9435 := hI9446.1.2
      have b9454 := BT_get hI9446.1.1 0 1 2 (0) (0) (900) (by decide) 1 (by decide) (by decide)
      rw [e9453] at b9454
      refine WP_aload_n dX11_book_9 rfl ?_
      refine WQ_getim dX11_book_10 fX11_27 rfl (ly_is hy 0 11 rfl) ew9451 ?_
      refine WQ_if_eq 153 dX11_book_13 rfl (fun c9454 => ?_) (fun c9454 => ?_)
      · refine WP_iload_n dX11_book_153 rfl ?_
        exact WP_iret dX11_book_154 rfl ⟨⟨⟨_, hI9446, by omega⟩, rfl⟩, _, rfl⟩
      · refine WP_aload_n dX11_book_16 rfl ?_
        refine WP_aload_n dX11_book_17 rfl ?_
        refine WP_getr dX11_book_18 fX11_227 rfl (ly_is hy 0 11 rfl) (rf hr 0 20 2 (by decide)) ?_
        refine WP_aload_n dX11_book_21 rfl ?_
        refine WQ_geti dX11_book_22 fX11_329 rfl (ly_is hy 0 11 rfl) (BT_get hI9446.1.1 0 10 11 (0) (0) (4) (by decide) 10 (by decide) (by decide)) (fun v9456 ev9456 av9456 bv9456 => ?_)
        refine WP_callV2 (k := 11) dX11_book_25 ⟨⟨⟨by decide, by decide⟩, zX11_known⟩, lX11_147, by decide, rfl, vX11_known.1, vX11_known.2⟩ (ly_is hy 0 11 rfl) (sm_knownx_2 hy hr hI9446 v9456 (by omega) (by omega) (by rw [ew9448, ew9449, ew9450, ew9451]; omega)) (Nat.le_of_ble_eq_true rfl) ?_
        intro r I9457 J9458 Ra hq
        obtain ⟨⟨hI9457, ec, fiI9457, ⟨pI9457, sI9457_0_15, sI9457_0_16, sI9457_0_17, sI9457_0_18⟩⟩, v9459, rfl, av9459, bv9459, cv9459⟩ := hq
        show WP _ _ _ _ (.int _ :: _) _ _ _ _
        rw [ec]
        clear ec Ra
        have e9460 : I9457 (ad g 0) 1 = L9435 := hI9457.1.2
        have b9461 := BT_get hI9457.1.1 0 1 2 (0) (0) (900) (by decide) 1 (by decide) (by decide)
        rw [e9460] at b9461
        obtain ⟨w9462, ew9462⟩ : ∃ w : Int32, I9457 (ad g 0) 2 = w := ⟨_, rfl⟩
        have bw9462 := BT_get hI9457.1.1 0 2 3 (0) (0) (900) (by decide) 2 (by decide) (by decide)
        rw [ew9462] at bw9462
        obtain ⟨w9463, ew9463⟩ : ∃ w : Int32, I9457 (ad g 0) 3 = w := ⟨_, rfl⟩
        have bw9463 := BT_get hI9457.1.1 0 3 4 (0) (0) (900) (by decide) 3 (by decide) (by decide)
        rw [ew9463] at bw9463
        obtain ⟨w9464, ew9464⟩ : ∃ w : Int32, I9457 (ad g 0) 4 = w := ⟨_, rfl⟩
        have bw9464 := BT_get hI9457.1.1 0 4 5 (0) (0) (900) (by decide) 4 (by decide) (by decide)
        rw [ew9464] at bw9464
        obtain ⟨w9465, ew9465⟩ : ∃ w : Int32, I9457 (ad g 0) 5 = w := ⟨_, rfl⟩
        have bw9465 := BT_get hI9457.1.1 0 5 6 (0) (0) (4) (by decide) 5 (by decide) (by decide)
        rw [ew9465] at bw9465
        rw [ew9462, ew9463, ew9464, ew9465, ew9449] at pI9457
        obtain ⟨w9466, ew9466⟩ : ∃ w : Int32, I9457 (ad g 0) 7 = w := ⟨_, rfl⟩
        have bw9466 := BT_get hI9457.1.1 0 7 8 (-1) (0) (1000) (by decide) 7 (by decide) (by decide)
        rw [ew9466] at bw9466
        rw [ew9466] at cv9459
        refine WQ_if_ne 33 dX11_book_28 rfl (fun c9466 => ?_) (fun c9466 => ?_)
        · refine WP_aload_n dX11_book_33 rfl ?_
          refine WQ_getim dX11_book_34 fX11_56 rfl (ly_is hy 0 11 rfl) ew9466 ?_
          refine WP_istore_n (ls' := [(0, _), (1, _), (2, _), (3, _)]) dX11_book_37 (by decide) rfl ?_
          refine WP_aload_n dX11_book_38 rfl ?_
          refine WP_aload_n dX11_book_39 rfl ?_
          refine WP_getr dX11_book_40 fX11_230 rfl (ly_is hy 0 11 rfl) (rf hr 0 21 3 (by decide)) ?_
          refine WP_aload_n dX11_book_43 rfl ?_
          refine WQ_geti dX11_book_44 fX11_332 rfl (ly_is hy 0 11 rfl) (BT_get hI9457.1.1 0 11 12 (0) (0) (3) (by decide) 11 (by decide) (by decide)) (fun v9468 ev9468 av9468 bv9468 => ?_)
          refine WP_callV2 (k := 11) dX11_book_47 ⟨⟨⟨by decide, by decide⟩, zX11_known⟩, lX11_147, by decide, rfl, vX11_known.1, vX11_known.2⟩ (ly_is hy 0 11 rfl) (sm_knownx_3 hy hr hI9457 v9468 (by omega) (by omega) (by rw [ew9462, ew9463, ew9464, ew9465]; omega)) (Nat.le_of_ble_eq_true rfl) ?_
          intro r I9469 J9470 Ra hq
          obtain ⟨⟨hI9469, ec, fiI9469, ⟨pI9469, sI9469_0_15, sI9469_0_16, sI9469_0_17, sI9469_0_18⟩⟩, v9471, rfl, av9471, bv9471, cv9471⟩ := hq
          show WP _ _ _ _ (.int _ :: _) _ _ _ _
          rw [ec]
          clear ec Ra
          have e9472 : I9469 (ad g 0) 1 = L9435 := hI9469.1.2
          have b9473 := BT_get hI9469.1.1 0 1 2 (0) (0) (900) (by decide) 1 (by decide) (by decide)
          rw [e9472] at b9473
          obtain ⟨w9474, ew9474⟩ : ∃ w : Int32, I9469 (ad g 0) 2 = w := ⟨_, rfl⟩
          have bw9474 := BT_get hI9469.1.1 0 2 3 (0) (0) (900) (by decide) 2 (by decide) (by decide)
          rw [ew9474] at bw9474
          obtain ⟨w9475, ew9475⟩ : ∃ w : Int32, I9469 (ad g 0) 3 = w := ⟨_, rfl⟩
          have bw9475 := BT_get hI9469.1.1 0 3 4 (0) (0) (900) (by decide) 3 (by decide) (by decide)
          rw [ew9475] at bw9475
          obtain ⟨w9476, ew9476⟩ : ∃ w : Int32, I9469 (ad g 0) 4 = w := ⟨_, rfl⟩
          have bw9476 := BT_get hI9469.1.1 0 4 5 (0) (0) (900) (by decide) 4 (by decide) (by decide)
          rw [ew9476] at bw9476
          obtain ⟨w9477, ew9477⟩ : ∃ w : Int32, I9469 (ad g 0) 5 = w := ⟨_, rfl⟩
          have bw9477 := BT_get hI9469.1.1 0 5 6 (0) (0) (4) (by decide) 5 (by decide) (by decide)
          rw [ew9477] at bw9477
          rw [ew9474, ew9475, ew9476, ew9477, ew9463] at pI9469
          obtain ⟨w9478, ew9478⟩ : ∃ w : Int32, I9469 (ad g 0) 7 = w := ⟨_, rfl⟩
          have bw9478 := BT_get hI9469.1.1 0 7 8 (-1) (0) (1000) (by decide) 7 (by decide) (by decide)
          rw [ew9478] at bw9478
          rw [ew9478] at cv9471
          refine WQ_if_ne 55 dX11_book_50 rfl (fun c9478 => ?_) (fun c9478 => ?_)
          · refine WP_aload_n dX11_book_55 rfl ?_
            refine WQ_getim dX11_book_56 fX11_56 rfl (ly_is hy 0 11 rfl) ew9478 ?_
            refine WP_istore (ls' := [(0, _), (1, _), (2, _), (3, _), (4, _)]) dX11_book_59 (by decide) rfl ?_
            refine WP_aload_n dX11_book_61 rfl ?_
            refine WQ_iconst (0) (0) dX11_book_62 rfl rfl (fun v9480 hv9480 => ?_)
            refine WQ_bipush (6) (6) dX11_book_63 rfl rfl (fun v9481 hv9481 => ?_)
            refine WP_callV2 (k := 11) dX11_book_65 ⟨⟨⟨by decide, by decide⟩, zX11_number⟩, lX11_81, by decide, rfl, vX11_number.1, vX11_number.2⟩ (ly_is hy 0 11 rfl) (sm_numberx hy hr hI9469 v9480 v9481 (by omega) (by omega) (by omega) (by omega) (by rw [ew9474, ew9475, ew9476, ew9477]; omega)) (Nat.le_of_ble_eq_true rfl) ?_
            intro r I9482 J9483 Ra hq
            obtain ⟨⟨hI9482, ec, fiI9482, ⟨pI9482, sI9482_0_15, sI9482_0_16, sI9482_0_17, sI9482_0_18⟩⟩, v9484, rfl, av9484, bv9484, cv9484⟩ := hq
            show WP _ _ _ _ (.int _ :: _) _ _ _ _
            rw [ec]
            clear ec Ra
            have e9485 : I9482 (ad g 0) 1 = L9435 := hI9482.1.2
            have b9486 := BT_get hI9482.1.1 0 1 2 (0) (0) (900) (by decide) 1 (by decide) (by decide)
            rw [e9485] at b9486
            obtain ⟨w9487, ew9487⟩ : ∃ w : Int32, I9482 (ad g 0) 2 = w := ⟨_, rfl⟩
            have bw9487 := BT_get hI9482.1.1 0 2 3 (0) (0) (900) (by decide) 2 (by decide) (by decide)
            rw [ew9487] at bw9487
            obtain ⟨w9488, ew9488⟩ : ∃ w : Int32, I9482 (ad g 0) 3 = w := ⟨_, rfl⟩
            have bw9488 := BT_get hI9482.1.1 0 3 4 (0) (0) (900) (by decide) 3 (by decide) (by decide)
            rw [ew9488] at bw9488
            obtain ⟨w9489, ew9489⟩ : ∃ w : Int32, I9482 (ad g 0) 4 = w := ⟨_, rfl⟩
            have bw9489 := BT_get hI9482.1.1 0 4 5 (0) (0) (900) (by decide) 4 (by decide) (by decide)
            rw [ew9489] at bw9489
            obtain ⟨w9490, ew9490⟩ : ∃ w : Int32, I9482 (ad g 0) 5 = w := ⟨_, rfl⟩
            have bw9490 := BT_get hI9482.1.1 0 5 6 (0) (0) (4) (by decide) 5 (by decide) (by decide)
            rw [ew9490] at bw9490
            rw [ew9487, ew9488, ew9489, ew9490, ew9475] at pI9482
            obtain ⟨w9491, ew9491⟩ : ∃ w : Int32, I9482 (ad g 0) 7 = w := ⟨_, rfl⟩
            have bw9491 := BT_get hI9482.1.1 0 7 8 (-1) (0) (1000) (by decide) 7 (by decide) (by decide)
            rw [ew9491] at bw9491
            rw [ew9491] at cv9484
            refine WQ_if_ne 73 dX11_book_68 rfl (fun c9491 => ?_) (fun c9491 => ?_)
            · refine WP_aload_n dX11_book_73 rfl ?_
              refine WQ_getim dX11_book_74 fX11_56 rfl (ly_is hy 0 11 rfl) ew9491 ?_
              refine WP_istore (ls' := [(0, _), (1, _), (2, _), (3, _), (4, _), (5, _)]) dX11_book_77 (by decide) rfl ?_
              refine WP_aload_n dX11_book_79 rfl ?_
              refine WQ_iconst (1) (1) dX11_book_80 rfl rfl (fun v9493 hv9493 => ?_)
              refine WQ_iconst (3) (3) dX11_book_81 rfl rfl (fun v9494 hv9494 => ?_)
              refine WP_callV2 (k := 11) dX11_book_82 ⟨⟨⟨by decide, by decide⟩, zX11_number⟩, lX11_81, by decide, rfl, vX11_number.1, vX11_number.2⟩ (ly_is hy 0 11 rfl) (sm_numberx hy hr hI9482 v9493 v9494 (by omega) (by omega) (by omega) (by omega) (by rw [ew9487, ew9488, ew9489, ew9490]; omega)) (Nat.le_of_ble_eq_true rfl) ?_
              intro r I9495 J9496 Ra hq
              obtain ⟨⟨hI9495, ec, fiI9495, ⟨pI9495, sI9495_0_15, sI9495_0_16, sI9495_0_17, sI9495_0_18⟩⟩, v9497, rfl, av9497, bv9497, cv9497⟩ := hq
              show WP _ _ _ _ (.int _ :: _) _ _ _ _
              rw [ec]
              clear ec Ra
              have e9498 : I9495 (ad g 0) 1 = L9435 := hI9495.1.2
              have b9499 := BT_get hI9495.1.1 0 1 2 (0) (0) (900) (by decide) 1 (by decide) (by decide)
              rw [e9498] at b9499
              obtain ⟨w9500, ew9500⟩ : ∃ w : Int32, I9495 (ad g 0) 2 = w := ⟨_, rfl⟩
              have bw9500 := BT_get hI9495.1.1 0 2 3 (0) (0) (900) (by decide) 2 (by decide) (by decide)
              rw [ew9500] at bw9500
              obtain ⟨w9501, ew9501⟩ : ∃ w : Int32, I9495 (ad g 0) 3 = w := ⟨_, rfl⟩
              have bw9501 := BT_get hI9495.1.1 0 3 4 (0) (0) (900) (by decide) 3 (by decide) (by decide)
              rw [ew9501] at bw9501
              obtain ⟨w9502, ew9502⟩ : ∃ w : Int32, I9495 (ad g 0) 4 = w := ⟨_, rfl⟩
              have bw9502 := BT_get hI9495.1.1 0 4 5 (0) (0) (900) (by decide) 4 (by decide) (by decide)
              rw [ew9502] at bw9502
              obtain ⟨w9503, ew9503⟩ : ∃ w : Int32, I9495 (ad g 0) 5 = w := ⟨_, rfl⟩
              have bw9503 := BT_get hI9495.1.1 0 5 6 (0) (0) (4) (by decide) 5 (by decide) (by decide)
              rw [ew9503] at bw9503
              rw [ew9500, ew9501, ew9502, ew9503, ew9488] at pI9495
              obtain ⟨w9504, ew9504⟩ : ∃ w : Int32, I9495 (ad g 0) 7 = w := ⟨_, rfl⟩
              have bw9504 := BT_get hI9495.1.1 0 7 8 (-1) (0) (1000) (by decide) 7 (by decide) (by decide)
              rw [ew9504] at bw9504
              rw [ew9504] at cv9497
              refine WQ_if_ne 90 dX11_book_85 rfl (fun c9504 => ?_) (fun c9504 => ?_)
              · refine WP_aload_n dX11_book_90 rfl ?_
                refine WQ_getim dX11_book_91 fX11_56 rfl (ly_is hy 0 11 rfl) ew9504 ?_
                refine WP_istore (ls' := [(0, _), (1, _), (2, _), (3, _), (4, _), (5, _), (6, _)]) dX11_book_94 (by decide) rfl ?_
                refine WP_aload_n dX11_book_96 rfl ?_
                refine WQ_iconst (1) (1) dX11_book_97 rfl rfl (fun v9506 hv9506 => ?_)
                refine WQ_bipush (99) (99) dX11_book_98 rfl rfl (fun v9507 hv9507 => ?_)
                refine WP_callV2 (k := 11) dX11_book_100 ⟨⟨⟨by decide, by decide⟩, zX11_number⟩, lX11_81, by decide, rfl, vX11_number.1, vX11_number.2⟩ (ly_is hy 0 11 rfl) (sm_numberx hy hr hI9495 v9506 v9507 (by omega) (by omega) (by omega) (by omega) (by rw [ew9500, ew9501, ew9502, ew9503]; omega)) (Nat.le_of_ble_eq_true rfl) ?_
                intro r I9508 J9509 Ra hq
                obtain ⟨⟨hI9508, ec, fiI9508, ⟨pI9508, sI9508_0_15, sI9508_0_16, sI9508_0_17, sI9508_0_18⟩⟩, v9510, rfl, av9510, bv9510, cv9510⟩ := hq
                show WP _ _ _ _ (.int _ :: _) _ _ _ _
                rw [ec]
                clear ec Ra
                have e9511 : I9508 (ad g 0) 1 = L9435 := hI9508.1.2
                have b9512 := BT_get hI9508.1.1 0 1 2 (0) (0) (900) (by decide) 1 (by decide) (by decide)
                rw [e9511] at b9512
                obtain ⟨w9513, ew9513⟩ : ∃ w : Int32, I9508 (ad g 0) 2 = w := ⟨_, rfl⟩
                have bw9513 := BT_get hI9508.1.1 0 2 3 (0) (0) (900) (by decide) 2 (by decide) (by decide)
                rw [ew9513] at bw9513
                obtain ⟨w9514, ew9514⟩ : ∃ w : Int32, I9508 (ad g 0) 3 = w := ⟨_, rfl⟩
                have bw9514 := BT_get hI9508.1.1 0 3 4 (0) (0) (900) (by decide) 3 (by decide) (by decide)
                rw [ew9514] at bw9514
                obtain ⟨w9515, ew9515⟩ : ∃ w : Int32, I9508 (ad g 0) 4 = w := ⟨_, rfl⟩
                have bw9515 := BT_get hI9508.1.1 0 4 5 (0) (0) (900) (by decide) 4 (by decide) (by decide)
                rw [ew9515] at bw9515
                obtain ⟨w9516, ew9516⟩ : ∃ w : Int32, I9508 (ad g 0) 5 = w := ⟨_, rfl⟩
                have bw9516 := BT_get hI9508.1.1 0 5 6 (0) (0) (4) (by decide) 5 (by decide) (by decide)
                rw [ew9516] at bw9516
                rw [ew9513, ew9514, ew9515, ew9516, ew9501] at pI9508
                obtain ⟨w9517, ew9517⟩ : ∃ w : Int32, I9508 (ad g 0) 7 = w := ⟨_, rfl⟩
                have bw9517 := BT_get hI9508.1.1 0 7 8 (-1) (0) (1000) (by decide) 7 (by decide) (by decide)
                rw [ew9517] at bw9517
                rw [ew9517] at cv9510
                refine WQ_if_ne 108 dX11_book_103 rfl (fun c9517 => ?_) (fun c9517 => ?_)
                · refine WP_aload_n dX11_book_108 rfl ?_
                  refine WQ_getim dX11_book_109 fX11_56 rfl (ly_is hy 0 11 rfl) ew9517 ?_
                  refine WP_istore (ls' := [(0, _), (1, _), (2, _), (3, _), (4, _), (5, _), (6, _), (7, _)]) dX11_book_112 (by decide) rfl ?_
                  refine WP_aload_n dX11_book_114 rfl ?_
                  refine WP_callV0 (k := 11) dX11_book_115 ⟨⟨⟨by decide, by decide⟩, zX11_close⟩, lX11_213, by decide, rfl, vX11_close.1, vX11_close.2⟩ (ly_is hy 0 11 rfl) (sm_closex hy hr hI9508   (by rw [ew9513, ew9514, ew9515, ew9516]; omega)) (Nat.le_of_ble_eq_true rfl) ?_
                  intro r I9519 J9520 Ra hq
                  obtain ⟨⟨hI9519, ec, fiI9519, ⟨pI9519, sI9519_0_15, sI9519_0_16, sI9519_0_17, sI9519_0_18⟩⟩, v9521, rfl, av9521, bv9521, cv9521⟩ := hq
                  show WP _ _ _ _ (.int _ :: _) _ _ _ _
                  rw [ec]
                  clear ec Ra
                  have e9522 : I9519 (ad g 0) 1 = L9435 := hI9519.1.2
                  have b9523 := BT_get hI9519.1.1 0 1 2 (0) (0) (900) (by decide) 1 (by decide) (by decide)
                  rw [e9522] at b9523
                  obtain ⟨w9524, ew9524⟩ : ∃ w : Int32, I9519 (ad g 0) 2 = w := ⟨_, rfl⟩
                  have bw9524 := BT_get hI9519.1.1 0 2 3 (0) (0) (900) (by decide) 2 (by decide) (by decide)
                  rw [ew9524] at bw9524
                  obtain ⟨w9525, ew9525⟩ : ∃ w : Int32, I9519 (ad g 0) 3 = w := ⟨_, rfl⟩
                  have bw9525 := BT_get hI9519.1.1 0 3 4 (0) (0) (900) (by decide) 3 (by decide) (by decide)
                  rw [ew9525] at bw9525
                  obtain ⟨w9526, ew9526⟩ : ∃ w : Int32, I9519 (ad g 0) 4 = w := ⟨_, rfl⟩
                  have bw9526 := BT_get hI9519.1.1 0 4 5 (0) (0) (900) (by decide) 4 (by decide) (by decide)
                  rw [ew9526] at bw9526
                  obtain ⟨w9527, ew9527⟩ : ∃ w : Int32, I9519 (ad g 0) 5 = w := ⟨_, rfl⟩
                  have bw9527 := BT_get hI9519.1.1 0 5 6 (0) (0) (4) (by decide) 5 (by decide) (by decide)
                  rw [ew9527] at bw9527
                  rw [ew9524, ew9525, ew9526, ew9527, ew9514] at pI9519
                  rw [ew9525] at cv9521
                  rw [ew9514] at cv9521
                  refine WQ_if_ne 123 dX11_book_118 rfl (fun c9527 => ?_) (fun c9527 => ?_)
                  · refine WP_iload_n dX11_book_123 rfl ?_
                    refine WQ_bipush (-3) (-3) dX11_book_124 rfl rfl (fun v9529 hv9529 => ?_)
                    refine WQ_icmp_ne 147 dX11_book_126 rfl (fun c9529 => ?_) (fun c9529 => ?_)
                    · refine WP_iinc (ls' := [(0, _), (1, _), (2, _), (3, _), (4, _), (5, _), (6, _), (7, _)]) dX11_book_147 rfl (by decide) rfl ?_
                      generalize i9445 + Int32.ofInt (1) = v9531
                      refine WP_goto 9 dX11_book_150 rfl ?_
                      exact WP_sub (fc rfl (fc rfl (fc rfl fn))) (ihlp9_9451 i9444 v9531 I9519 J9520 hI9519 w9524 ew9524 w9525 ew9525 w9526 ew9526 w9527 ew9527 (by omega) (by omega) (by omega) (by omega))
                    · refine WP_aload_n dX11_book_129 rfl ?_
                      refine WP_iload_n dX11_book_130 rfl ?_
                      refine WP_iload dX11_book_131 rfl ?_
                      refine WP_iload dX11_book_133 rfl ?_
                      refine WP_iload dX11_book_135 rfl ?_
                      refine WP_iload dX11_book_137 rfl ?_
                      refine WP_callV5 (k := 11) dX11_book_139 ⟨⟨⟨by decide, by decide⟩, zX11_isLost⟩, lX11_549, by decide, rfl, vX11_isLost.1, vX11_isLost.2⟩ (ly_is hy 0 11 rfl) (sm_isLost hy hr hI9519 w9466 w9478 w9491 w9504 w9517 (by omega) (by omega) (by omega) (by omega) (by omega) (by omega) (by omega) (by omega) (by omega) (by omega)) (Nat.le_of_ble_eq_true rfl) ?_
                      intro r Ia Ja Ra hq
                      obtain ⟨⟨ea, eb, ec⟩, v9532, rfl, av9532, bv9532⟩ := hq
                      show WP _ _ _ _ (.int _ :: _) _ _ _ _
                      rw [ea, eb, ec]
                      clear ea eb ec Ia Ja Ra
                      refine WQ_if_eq 147 dX11_book_142 rfl (fun c9532 => ?_) (fun c9532 => ?_)
                      · refine WP_iinc (ls' := [(0, _), (1, _), (2, _), (3, _), (4, _), (5, _), (6, _), (7, _)]) dX11_book_147 rfl (by decide) rfl ?_
                        generalize i9445 + Int32.ofInt (1) = v9534
                        refine WP_goto 9 dX11_book_150 rfl ?_
                        exact WP_sub (fc rfl (fc rfl (fc rfl fn))) (ihlp9_9451 i9444 v9534 I9519 J9520 hI9519 w9524 ew9524 w9525 ew9525 w9526 ew9526 w9527 ew9527 (by omega) (by omega) (by omega) (by omega))
                      · refine WP_iload_n dX11_book_145 rfl ?_
                        refine WP_istore_n (ls' := [(0, _), (1, _), (2, _), (3, _), (4, _), (5, _), (6, _), (7, _)]) dX11_book_146 (by decide) rfl ?_
                        refine WP_iinc (ls' := [(0, _), (1, _), (2, _), (3, _), (4, _), (5, _), (6, _), (7, _)]) dX11_book_147 rfl (by decide) rfl ?_
                        generalize i9445 + Int32.ofInt (1) = v9535
                        refine WP_goto 9 dX11_book_150 rfl ?_
                        exact WP_sub (fc rfl (fc rfl (fc rfl fn))) (ihlp9_9451 i9445 v9535 I9519 J9520 hI9519 w9524 ew9524 w9525 ew9525 w9526 ew9526 w9527 ew9527 (by omega) (by omega) (by omega) (by omega))
                  · refine WQ_iconst (-1) (-1) dX11_book_121 rfl rfl (fun v9536 hv9536 => ?_)
                    exact WP_iret dX11_book_122 rfl ⟨⟨⟨_, hI9519, by omega⟩, rfl⟩, _, rfl⟩
                · refine WQ_iconst (-1) (-1) dX11_book_106 rfl rfl (fun v9537 hv9537 => ?_)
                  exact WP_iret dX11_book_107 rfl ⟨⟨⟨_, hI9508, by omega⟩, rfl⟩, _, rfl⟩
              · refine WQ_iconst (-1) (-1) dX11_book_88 rfl rfl (fun v9538 hv9538 => ?_)
                exact WP_iret dX11_book_89 rfl ⟨⟨⟨_, hI9495, by omega⟩, rfl⟩, _, rfl⟩
            · refine WQ_iconst (-1) (-1) dX11_book_71 rfl rfl (fun v9539 hv9539 => ?_)
              exact WP_iret dX11_book_72 rfl ⟨⟨⟨_, hI9482, by omega⟩, rfl⟩, _, rfl⟩
          · refine WQ_iconst (-1) (-1) dX11_book_53 rfl rfl (fun v9540 hv9540 => ?_)
            exact WP_iret dX11_book_54 rfl ⟨⟨⟨_, hI9469, by omega⟩, rfl⟩, _, rfl⟩
        · refine WQ_iconst (-1) (-1) dX11_book_31 rfl rfl (fun v9541 hv9541 => ?_)
          exact WP_iret dX11_book_32 rfl ⟨⟨⟨_, hI9457, by omega⟩, rfl⟩, _, rfl⟩
  exact WP_sub (fc rfl (fc rfl (fc rfl fn))) (lp9_9451 _ v9442 v9443 I9433 J9434 hI9433 w9438 ew9438 w9439 ew9439 w9440 ew9440 w9441 ew9441 (by omega) (by omega) (by omega) (Nat.lt_succ_self _))
