set_option maxHeartbeats 4000000 in
set_option maxRecDepth 100000 in
theorem sm_begin_38 {g : GG} {n : Int} {L : Int32} (hy : Ly g)  {I : pI} {J : pJ} {R : pR} (hr : Rf g R) (hI : MP g n L I)   (hn : 0 ≤ n) : SP g mX11_begin [.ref (ad g 0), .ref (ad g 38)] I J R (fun r I' J' R' => (MP g n L I' ∧ R' = R) ∧ r = none) := by
  refine SP_of ⟨by decide, rfl⟩ (Nat.le_of_ble_eq_true rfl) ?_
  have e2362 : I (ad g 0) 1 = L := hI.1.2
  have b2363 := BT_get hI.1.1 0 1 2 (0) (0) (900) (by decide) 1 (by decide) (by decide)
  rw [e2362] at b2363
  refine WQ_iconst (0) (0) dX11_begin_0 rfl rfl (fun v2364 hv2364 => ?_)
  refine WP_istore_n (ls' := [(0, _), (1, _), (2, _)]) dX11_begin_1 (by decide) rfl ?_
  have lp2_2367 : ∀ (mz : Nat) (i2365 : Int32) (I2366 : pI) (J2367 : pJ), MP g n L I2366 → 0 ≤ i2365.toInt → i2365.toInt ≤ 35 → (36 - i2365.toInt).toNat < mz → WP g mX11_begin 2 [(0, .ref (ad g 0)), (1, .ref (ad g 38)), (2, .int i2365)] [] I2366 J2367 R (fun r I' J' R' => (MP g n L I' ∧ R' = R) ∧ r = none) := by
    intro mz
    induction mz with
    | zero =>
      intro i2365 I2366 J2367 hI2366 ai2365 bi2365 hmlp2_2367
      exact absurd hmlp2_2367 (Nat.not_lt_zero _)
    | succ mz ihlp2_2367 =>
      intro i2365 I2366 J2367 hI2366 ai2365 bi2365 hmlp2_2367
      have e2369 : I2366 (ad g 0) 1 = L := hI2366.1.2
      have b2370 := BT_get hI2366.1.1 0 1 2 (0) (0) (900) (by decide) 1 (by decide) (by decide)
      rw [e2369] at b2370
      refine WP_iload_n dX11_begin_2 rfl ?_
      refine WQ_bipush (35) (35) dX11_begin_3 rfl rfl (fun v2371 hv2371 => ?_)
      refine WQ_icmp_ge 30 dX11_begin_5 rfl (fun c2371 => ?_) (fun c2371 => ?_)
      · refine WQ_iconst (0) (0) dX11_begin_30 rfl rfl (fun v2373 hv2373 => ?_)
        refine WP_istore_n (ls' := [(0, _), (1, _), (2, _)]) dX11_begin_31 (by decide) rfl ?_
        have lp32_2376 : ∀ (mz : Nat) (i2374 : Int32) (I2375 : pI) (J2376 : pJ), MP g n L I2375 → 0 ≤ i2374.toInt → i2374.toInt ≤ 4 → (5 - i2374.toInt).toNat < mz → WP g mX11_begin 32 [(0, .ref (ad g 0)), (1, .ref (ad g 38)), (2, .int i2374)] [] I2375 J2376 R (fun r I' J' R' => (MP g n L I' ∧ R' = R) ∧ r = none) := by
          intro mz
          induction mz with
          | zero =>
            intro i2374 I2375 J2376 hI2375 ai2374 bi2374 hmlp32_2376
            exact absurd hmlp32_2376 (Nat.not_lt_zero _)
          | succ mz ihlp32_2376 =>
            intro i2374 I2375 J2376 hI2375 ai2374 bi2374 hmlp32_2376
            have e2378 : I2375 (ad g 0) 1 = L := hI2375.1.2
            have b2379 := BT_get hI2375.1.1 0 1 2 (0) (0) (900) (by decide) 1 (by decide) (by decide)
            rw [e2378] at b2379
            refine WP_iload_n dX11_begin_32 rfl ?_
            refine WP_aload_n dX11_begin_33 rfl ?_
            refine WQ_geti dX11_begin_34 fX11_329 rfl (ly_is hy 0 11 rfl) (BT_get hI2375.1.1 0 10 11 (0) (0) (4) (by decide) 10 (by decide) (by decide)) (fun v2380 ev2380 av2380 bv2380 => ?_)
            refine WQ_icmp_ge 57 dX11_begin_37 rfl (fun c2380 => ?_) (fun c2380 => ?_)
            · exact WP_vret dX11_begin_57 rfl ⟨⟨hI2375, rfl⟩, rfl⟩
            · refine WP_aload_n dX11_begin_40 rfl ?_
              refine WQ_iconst (0) (0) dX11_begin_41 rfl rfl (fun v2382 hv2382 => ?_)
              refine WP_iload_n dX11_begin_42 rfl ?_
              refine WQ_iadd dX11_begin_43 (by omega) (by omega) (fun v2383 hv2383 => ?_)
              refine WP_aload_n dX11_begin_44 rfl ?_
              refine WP_getr dX11_begin_45 fX11_241 rfl (ly_is hy 0 11 rfl) (rf hr 0 28 10 (by decide)) ?_
              refine WP_iload_n dX11_begin_48 rfl ?_
              refine WQ_iald dX11_begin_49 (ly_is hy 10 13 rfl) (ly_n hy 10 4 rfl) (by omega) (by omega) (fun q hq => BT_get hI2375.1.1 10 0 4 (0) (0) (60) (by decide) q (Nat.zero_le _) hq) (fun v2384 av2384 bv2384 ev2384 => ?_)
              clear ev2384
              refine WQ_iast dX11_begin_50 (ly_is hy 38 13 rfl) (ly_n hy 38 35 rfl) (by omega) (by omega) (fun I2385 eI2385 => ?_)
              have hI2385 : MP g n L I2385 := by rw [eI2385]; exact (mp_w hy hI2375 (c := 38) (mi_rr hy hI2375.1 (c := 38) (0) (3) (0) (0) (60) (by decide) (Or.inl (by decide)) (by rw [cl (n := v2383.toInt.toNat) (by omega)]; omega) (by decide) (fun _ => ⟨by omega, by omega⟩)) (by decide) (by decide) (Or.inl (by decide)))
              have e2386 : I2385 (ad g 0) 1 = L := by rw [eI2385, pp_ne _ _ (Or.inl (ly_ne hy (by decide) (by decide) (by decide)))]; exact e2378
              have e2387 : I2385 (ad g 0) 10 = v2380 := by rw [eI2385, pp_ne _ _ (Or.inl (ly_ne hy (by decide) (by decide) (by decide)))]; exact ev2380
              clear eI2385
              refine WP_iinc (ls' := [(0, _), (1, _), (2, _)]) dX11_begin_51 rfl (by decide) rfl ?_
              have hv2388 : (i2374 + Int32.ofInt (1)).toInt = i2374.toInt + (1) := ia_n rfl (by omega) (by omega)
              generalize i2374 + Int32.ofInt (1) = v2388 at hv2388 ⊢
              refine WP_goto 32 dX11_begin_54 rfl ?_
              exact WP_sub (fc rfl (fc rfl (fc rfl fn))) (ihlp32_2376 v2388 I2385 J2376 hI2385 (by omega) (by omega) (by omega))
        exact WP_sub (fc rfl (fc rfl (fc rfl fn))) (lp32_2376 _ v2373 I2366 J2367 hI2366 (by omega) (by omega) (Nat.lt_succ_self _))
      · refine WP_iload_n dX11_begin_8 rfl ?_
        refine WQ_bipush (28) (28) dX11_begin_9 rfl rfl (fun v2389 hv2389 => ?_)
        refine WQ_icmp_lt 20 dX11_begin_11 rfl (fun c2389 => ?_) (fun c2389 => ?_)
        · rcases (show (0 ≤ i2365.toInt ∧ i2365.toInt ≤ 3) ∨ (4 ≤ i2365.toInt ∧ i2365.toInt ≤ 7) ∨ (8 ≤ i2365.toInt ∧ i2365.toInt ≤ 31) by omega) with ⟨k2391_0, k2391_1⟩ | ⟨k2391_2, k2391_3⟩ | ⟨k2391_4, k2391_5⟩
          · refine WP_aload_n dX11_begin_20 rfl ?_
            refine WP_iload_n dX11_begin_21 rfl ?_
            refine WQ_iconst (0) (0) dX11_begin_22 rfl rfl (fun v2392 hv2392 => ?_)
            refine WQ_iast dX11_begin_23 (ly_is hy 38 13 rfl) (ly_n hy 38 35 rfl) (by omega) (by omega) (fun I2393 eI2393 => ?_)
            have hI2393 : MP g n L I2393 := by rw [eI2393]; exact (mp_w hy hI2366 (c := 38) (mi_rr hy hI2366.1 (c := 38) (0) (3) (0) (0) (60) (by decide) (Or.inl (by decide)) (by rw [cl (n := i2365.toInt.toNat) (by omega)]; omega) (by decide) (fun _ => ⟨by omega, by omega⟩)) (by decide) (by decide) (Or.inl (by decide)))
            have e2394 : I2393 (ad g 0) 1 = L := by rw [eI2393, pp_ne _ _ (Or.inl (ly_ne hy (by decide) (by decide) (by decide)))]; exact e2369
            clear eI2393
            refine WP_iinc (ls' := [(0, _), (1, _), (2, _)]) dX11_begin_24 rfl (by decide) rfl ?_
            have hv2395 : (i2365 + Int32.ofInt (1)).toInt = i2365.toInt + (1) := ia_n rfl (by omega) (by omega)
            generalize i2365 + Int32.ofInt (1) = v2395 at hv2395 ⊢
            refine WP_goto 2 dX11_begin_27 rfl ?_
            exact WP_sub (fc rfl (fc rfl (fc rfl fn))) (ihlp2_2367 v2395 I2393 J2367 hI2393 (by omega) (by omega) (by omega))
          · refine WP_aload_n dX11_begin_20 rfl ?_
            refine WP_iload_n dX11_begin_21 rfl ?_
            refine WQ_iconst (0) (0) dX11_begin_22 rfl rfl (fun v2396 hv2396 => ?_)
            refine WQ_iast dX11_begin_23 (ly_is hy 38 13 rfl) (ly_n hy 38 35 rfl) (by omega) (by omega) (fun I2397 eI2397 => ?_)
            have hI2397 : MP g n L I2397 := by rw [eI2397]; exact (mp_w hy hI2366 (c := 38) (mi_rr hy hI2366.1 (c := 38) (4) (7) (0) (0) (5) (by decide) (Or.inl (by decide)) (by rw [cl (n := i2365.toInt.toNat) (by omega)]; omega) (by decide) (fun _ => ⟨by omega, by omega⟩)) (by decide) (by decide) (Or.inl (by decide)))
            have e2398 : I2397 (ad g 0) 1 = L := by rw [eI2397, pp_ne _ _ (Or.inl (ly_ne hy (by decide) (by decide) (by decide)))]; exact e2369
            clear eI2397
            refine WP_iinc (ls' := [(0, _), (1, _), (2, _)]) dX11_begin_24 rfl (by decide) rfl ?_
            have hv2399 : (i2365 + Int32.ofInt (1)).toInt = i2365.toInt + (1) := ia_n rfl (by omega) (by omega)
            generalize i2365 + Int32.ofInt (1) = v2399 at hv2399 ⊢
            refine WP_goto 2 dX11_begin_27 rfl ?_
            exact WP_sub (fc rfl (fc rfl (fc rfl fn))) (ihlp2_2367 v2399 I2397 J2367 hI2397 (by omega) (by omega) (by omega))
          · refine WP_aload_n dX11_begin_20 rfl ?_
            refine WP_iload_n dX11_begin_21 rfl ?_
            refine WQ_iconst (0) (0) dX11_begin_22 rfl rfl (fun v2400 hv2400 => ?_)
            refine WQ_iast dX11_begin_23 (ly_is hy 38 13 rfl) (ly_n hy 38 35 rfl) (by omega) (by omega) (fun I2401 eI2401 => ?_)
            have hI2401 : MP g n L I2401 := by rw [eI2401]; exact (mp_w hy hI2366 (c := 38) (mi_rr hy hI2366.1 (c := 38) (8) (27) (0) (0) (0) (by decide) (Or.inl (by decide)) (by rw [cl (n := i2365.toInt.toNat) (by omega)]; omega) (by decide) (fun h => absurd h (by decide))) (by decide) (by decide) (Or.inl (by decide)))
            have e2402 : I2401 (ad g 0) 1 = L := by rw [eI2401, pp_ne _ _ (Or.inl (ly_ne hy (by decide) (by decide) (by decide)))]; exact e2369
            clear eI2401
            refine WP_iinc (ls' := [(0, _), (1, _), (2, _)]) dX11_begin_24 rfl (by decide) rfl ?_
            have hv2403 : (i2365 + Int32.ofInt (1)).toInt = i2365.toInt + (1) := ia_n rfl (by omega) (by omega)
            generalize i2365 + Int32.ofInt (1) = v2403 at hv2403 ⊢
            refine WP_goto 2 dX11_begin_27 rfl ?_
            exact WP_sub (fc rfl (fc rfl (fc rfl fn))) (ihlp2_2367 v2403 I2401 J2367 hI2401 (by omega) (by omega) (by omega))
        · refine WP_iload_n dX11_begin_14 rfl ?_
          refine WQ_bipush (32) (32) dX11_begin_15 rfl rfl (fun v2404 hv2404 => ?_)
          refine WQ_icmp_lt 24 dX11_begin_17 rfl (fun c2404 => ?_) (fun c2404 => ?_)
          · refine WP_iinc (ls' := [(0, _), (1, _), (2, _)]) dX11_begin_24 rfl (by decide) rfl ?_
            have hv2406 : (i2365 + Int32.ofInt (1)).toInt = i2365.toInt + (1) := ia_n rfl (by omega) (by omega)
            generalize i2365 + Int32.ofInt (1) = v2406 at hv2406 ⊢
            refine WP_goto 2 dX11_begin_27 rfl ?_
            exact WP_sub (fc rfl (fc rfl (fc rfl fn))) (ihlp2_2367 v2406 I2366 J2367 hI2366 (by omega) (by omega) (by omega))
          · rcases (show (32 ≤ i2365.toInt ∧ i2365.toInt ≤ 32) ∨ (33 ≤ i2365.toInt ∧ i2365.toInt ≤ 33) ∨ (34 ≤ i2365.toInt ∧ i2365.toInt ≤ 34) by omega) with ⟨k2407_0, k2407_1⟩ | ⟨k2407_2, k2407_3⟩ | ⟨k2407_4, k2407_5⟩
            · refine WP_aload_n dX11_begin_20 rfl ?_
              refine WP_iload_n dX11_begin_21 rfl ?_
              refine WQ_iconst (0) (0) dX11_begin_22 rfl rfl (fun v2408 hv2408 => ?_)
              refine WQ_iast dX11_begin_23 (ly_is hy 38 13 rfl) (ly_n hy 38 35 rfl) (by omega) (by omega) (fun I2409 eI2409 => ?_)
              have hI2409 : MP g n L I2409 := by rw [eI2409]; exact (mp_w hy hI2366 (c := 38) (mi_rr hy hI2366.1 (c := 38) (32) (32) (0) (23760) (0) (by decide) (Or.inl (by decide)) (by rw [cl (n := i2365.toInt.toNat) (by omega)]; omega) (by decide) (fun _ => ⟨by omega, by omega⟩)) (by decide) (by decide) (Or.inl (by decide)))
              have e2410 : I2409 (ad g 0) 1 = L := by rw [eI2409, pp_ne _ _ (Or.inl (ly_ne hy (by decide) (by decide) (by decide)))]; exact e2369
              clear eI2409
              refine WP_iinc (ls' := [(0, _), (1, _), (2, _)]) dX11_begin_24 rfl (by decide) rfl ?_
              have hv2411 : (i2365 + Int32.ofInt (1)).toInt = i2365.toInt + (1) := ia_n rfl (by omega) (by omega)
              generalize i2365 + Int32.ofInt (1) = v2411 at hv2411 ⊢
              refine WP_goto 2 dX11_begin_27 rfl ?_
              exact WP_sub (fc rfl (fc rfl (fc rfl fn))) (ihlp2_2367 v2411 I2409 J2367 hI2409 (by omega) (by omega) (by omega))
            · refine WP_aload_n dX11_begin_20 rfl ?_
              refine WP_iload_n dX11_begin_21 rfl ?_
              refine WQ_iconst (0) (0) dX11_begin_22 rfl rfl (fun v2412 hv2412 => ?_)
              refine WQ_iast dX11_begin_23 (ly_is hy 38 13 rfl) (ly_n hy 38 35 rfl) (by omega) (by omega) (fun I2413 eI2413 => ?_)
              have hI2413 : MP g n L I2413 := by rw [eI2413]; exact (mp_w hy hI2366 (c := 38) (mi_rr hy hI2366.1 (c := 38) (33) (33) (0) (1) (0) (by decide) (Or.inl (by decide)) (by rw [cl (n := i2365.toInt.toNat) (by omega)]; omega) (by decide) (fun _ => ⟨by omega, by omega⟩)) (by decide) (by decide) (Or.inl (by decide)))
              have e2414 : I2413 (ad g 0) 1 = L := by rw [eI2413, pp_ne _ _ (Or.inl (ly_ne hy (by decide) (by decide) (by decide)))]; exact e2369
              clear eI2413
              refine WP_iinc (ls' := [(0, _), (1, _), (2, _)]) dX11_begin_24 rfl (by decide) rfl ?_
              have hv2415 : (i2365 + Int32.ofInt (1)).toInt = i2365.toInt + (1) := ia_n rfl (by omega) (by omega)
              generalize i2365 + Int32.ofInt (1) = v2415 at hv2415 ⊢
              refine WP_goto 2 dX11_begin_27 rfl ?_
              exact WP_sub (fc rfl (fc rfl (fc rfl fn))) (ihlp2_2367 v2415 I2413 J2367 hI2413 (by omega) (by omega) (by omega))
            · refine WP_aload_n dX11_begin_20 rfl ?_
              refine WP_iload_n dX11_begin_21 rfl ?_
              refine WQ_iconst (0) (0) dX11_begin_22 rfl rfl (fun v2416 hv2416 => ?_)
              refine WQ_iast dX11_begin_23 (ly_is hy 38 13 rfl) (ly_n hy 38 35 rfl) (by omega) (by omega) (fun I2417 eI2417 => ?_)
              have hI2417 : MP g n L I2417 := by rw [eI2417]; exact (mp_w hy hI2366 (c := 38) (mi_rr hy hI2366.1 (c := 38) (34) (34) (0) (0) (0) (by decide) (Or.inl (by decide)) (by rw [cl (n := i2365.toInt.toNat) (by omega)]; omega) (by decide) (fun h => absurd h (by decide))) (by decide) (by decide) (Or.inl (by decide)))
              have e2418 : I2417 (ad g 0) 1 = L := by rw [eI2417, pp_ne _ _ (Or.inl (ly_ne hy (by decide) (by decide) (by decide)))]; exact e2369
              clear eI2417
              refine WP_iinc (ls' := [(0, _), (1, _), (2, _)]) dX11_begin_24 rfl (by decide) rfl ?_
              have hv2419 : (i2365 + Int32.ofInt (1)).toInt = i2365.toInt + (1) := ia_n rfl (by omega) (by omega)
              generalize i2365 + Int32.ofInt (1) = v2419 at hv2419 ⊢
              refine WP_goto 2 dX11_begin_27 rfl ?_
              exact WP_sub (fc rfl (fc rfl (fc rfl fn))) (ihlp2_2367 v2419 I2417 J2367 hI2417 (by omega) (by omega) (by omega))
  exact WP_sub (fc rfl (fc rfl (fc rfl fn))) (lp2_2367 _ v2364 I J hI (by omega) (by omega) (Nat.lt_succ_self _))
set_option maxHeartbeats 4000000 in
set_option maxRecDepth 100000 in
theorem sm_begin_39 {g : GG} {n : Int} {L : Int32} (hy : Ly g)  {I : pI} {J : pJ} {R : pR} (hr : Rf g R) (hI : MP g n L I)   (hn : 0 ≤ n) : SP g mX11_begin [.ref (ad g 0), .ref (ad g 39)] I J R (fun r I' J' R' => (MP g n L I' ∧ R' = R) ∧ r = none) := by
  refine SP_of ⟨by decide, rfl⟩ (Nat.le_of_ble_eq_true rfl) ?_
  have e2420 : I (ad g 0) 1 = L := hI.1.2
  have b2421 := BT_get hI.1.1 0 1 2 (0) (0) (900) (by decide) 1 (by decide) (by decide)
  rw [e2420] at b2421
  refine WQ_iconst (0) (0) dX11_begin_0 rfl rfl (fun v2422 hv2422 => ?_)
  refine WP_istore_n (ls' := [(0, _), (1, _), (2, _)]) dX11_begin_1 (by decide) rfl ?_
  have lp2_2425 : ∀ (mz : Nat) (i2423 : Int32) (I2424 : pI) (J2425 : pJ), MP g n L I2424 → 0 ≤ i2423.toInt → i2423.toInt ≤ 35 → (36 - i2423.toInt).toNat < mz → WP g mX11_begin 2 [(0, .ref (ad g 0)), (1, .ref (ad g 39)), (2, .int i2423)] [] I2424 J2425 R (fun r I' J' R' => (MP g n L I' ∧ R' = R) ∧ r = none) := by
    intro mz
    induction mz with
    | zero =>
      intro i2423 I2424 J2425 hI2424 ai2423 bi2423 hmlp2_2425
      exact absurd hmlp2_2425 (Nat.not_lt_zero _)
    | succ mz ihlp2_2425 =>
      intro i2423 I2424 J2425 hI2424 ai2423 bi2423 hmlp2_2425
      have e2427 : I2424 (ad g 0) 1 = L := hI2424.1.2
      have b2428 := BT_get hI2424.1.1 0 1 2 (0) (0) (900) (by decide) 1 (by decide) (by decide)
      rw [e2427] at b2428
      refine WP_iload_n dX11_begin_2 rfl ?_
      refine WQ_bipush (35) (35) dX11_begin_3 rfl rfl (fun v2429 hv2429 => ?_)
      refine WQ_icmp_ge 30 dX11_begin_5 rfl (fun c2429 => ?_) (fun c2429 => ?_)
      · refine WQ_iconst (0) (0) dX11_begin_30 rfl rfl (fun v2431 hv2431 => ?_)
        refine WP_istore_n (ls' := [(0, _), (1, _), (2, _)]) dX11_begin_31 (by decide) rfl ?_
        have lp32_2434 : ∀ (mz : Nat) (i2432 : Int32) (I2433 : pI) (J2434 : pJ), MP g n L I2433 → 0 ≤ i2432.toInt → i2432.toInt ≤ 4 → (5 - i2432.toInt).toNat < mz → WP g mX11_begin 32 [(0, .ref (ad g 0)), (1, .ref (ad g 39)), (2, .int i2432)] [] I2433 J2434 R (fun r I' J' R' => (MP g n L I' ∧ R' = R) ∧ r = none) := by
          intro mz
          induction mz with
          | zero =>
            intro i2432 I2433 J2434 hI2433 ai2432 bi2432 hmlp32_2434
            exact absurd hmlp32_2434 (Nat.not_lt_zero _)
          | succ mz ihlp32_2434 =>
            intro i2432 I2433 J2434 hI2433 ai2432 bi2432 hmlp32_2434
            have e2436 : I2433 (ad g 0) 1 = L := hI2433.1.2
            have b2437 := BT_get hI2433.1.1 0 1 2 (0) (0) (900) (by decide) 1 (by decide) (by decide)
            rw [e2436] at b2437
            refine WP_iload_n dX11_begin_32 rfl ?_
            refine WP_aload_n dX11_begin_33 rfl ?_
            refine WQ_geti dX11_begin_34 fX11_329 rfl (ly_is hy 0 11 rfl) (BT_get hI2433.1.1 0 10 11 (0) (0) (4) (by decide) 10 (by decide) (by decide)) (fun v2438 ev2438 av2438 bv2438 => ?_)
            refine WQ_icmp_ge 57 dX11_begin_37 rfl (fun c2438 => ?_) (fun c2438 => ?_)
            · exact WP_vret dX11_begin_57 rfl ⟨⟨hI2433, rfl⟩, rfl⟩
            · refine WP_aload_n dX11_begin_40 rfl ?_
              refine WQ_iconst (0) (0) dX11_begin_41 rfl rfl (fun v2440 hv2440 => ?_)
              refine WP_iload_n dX11_begin_42 rfl ?_
              refine WQ_iadd dX11_begin_43 (by omega) (by omega) (fun v2441 hv2441 => ?_)
              refine WP_aload_n dX11_begin_44 rfl ?_
              refine WP_getr dX11_begin_45 fX11_241 rfl (ly_is hy 0 11 rfl) (rf hr 0 28 10 (by decide)) ?_
              refine WP_iload_n dX11_begin_48 rfl ?_
              refine WQ_iald dX11_begin_49 (ly_is hy 10 13 rfl) (ly_n hy 10 4 rfl) (by omega) (by omega) (fun q hq => BT_get hI2433.1.1 10 0 4 (0) (0) (60) (by decide) q (Nat.zero_le _) hq) (fun v2442 av2442 bv2442 ev2442 => ?_)
              clear ev2442
              refine WQ_iast dX11_begin_50 (ly_is hy 39 13 rfl) (ly_n hy 39 35 rfl) (by omega) (by omega) (fun I2443 eI2443 => ?_)
              have hI2443 : MP g n L I2443 := by rw [eI2443]; exact (mp_w hy hI2433 (c := 39) (mi_rr hy hI2433.1 (c := 39) (0) (3) (0) (0) (60) (by decide) (Or.inl (by decide)) (by rw [cl (n := v2441.toInt.toNat) (by omega)]; omega) (by decide) (fun _ => ⟨by omega, by omega⟩)) (by decide) (by decide) (Or.inl (by decide)))
              have e2444 : I2443 (ad g 0) 1 = L := by rw [eI2443, pp_ne _ _ (Or.inl (ly_ne hy (by decide) (by decide) (by decide)))]; exact e2436
              have e2445 : I2443 (ad g 0) 10 = v2438 := by rw [eI2443, pp_ne _ _ (Or.inl (ly_ne hy (by decide) (by decide) (by decide)))]; exact ev2438
              clear eI2443
              refine WP_iinc (ls' := [(0, _), (1, _), (2, _)]) dX11_begin_51 rfl (by decide) rfl ?_
              have hv2446 : (i2432 + Int32.ofInt (1)).toInt = i2432.toInt + (1) := ia_n rfl (by omega) (by omega)
              generalize i2432 + Int32.ofInt (1) = v2446 at hv2446 ⊢
              refine WP_goto 32 dX11_begin_54 rfl ?_
              exact WP_sub (fc rfl (fc rfl (fc rfl fn))) (ihlp32_2434 v2446 I2443 J2434 hI2443 (by omega) (by omega) (by omega))
        exact WP_sub (fc rfl (fc rfl (fc rfl fn))) (lp32_2434 _ v2431 I2424 J2425 hI2424 (by omega) (by omega) (Nat.lt_succ_self _))
      · refine WP_iload_n dX11_begin_8 rfl ?_
        refine WQ_bipush (28) (28) dX11_begin_9 rfl rfl (fun v2447 hv2447 => ?_)
        refine WQ_icmp_lt 20 dX11_begin_11 rfl (fun c2447 => ?_) (fun c2447 => ?_)
        · rcases (show (0 ≤ i2423.toInt ∧ i2423.toInt ≤ 3) ∨ (4 ≤ i2423.toInt ∧ i2423.toInt ≤ 7) ∨ (8 ≤ i2423.toInt ∧ i2423.toInt ≤ 31) by omega) with ⟨k2449_0, k2449_1⟩ | ⟨k2449_2, k2449_3⟩ | ⟨k2449_4, k2449_5⟩
          · refine WP_aload_n dX11_begin_20 rfl ?_
            refine WP_iload_n dX11_begin_21 rfl ?_
            refine WQ_iconst (0) (0) dX11_begin_22 rfl rfl (fun v2450 hv2450 => ?_)
            refine WQ_iast dX11_begin_23 (ly_is hy 39 13 rfl) (ly_n hy 39 35 rfl) (by omega) (by omega) (fun I2451 eI2451 => ?_)
            have hI2451 : MP g n L I2451 := by rw [eI2451]; exact (mp_w hy hI2424 (c := 39) (mi_rr hy hI2424.1 (c := 39) (0) (3) (0) (0) (60) (by decide) (Or.inl (by decide)) (by rw [cl (n := i2423.toInt.toNat) (by omega)]; omega) (by decide) (fun _ => ⟨by omega, by omega⟩)) (by decide) (by decide) (Or.inl (by decide)))
            have e2452 : I2451 (ad g 0) 1 = L := by rw [eI2451, pp_ne _ _ (Or.inl (ly_ne hy (by decide) (by decide) (by decide)))]; exact e2427
            clear eI2451
            refine WP_iinc (ls' := [(0, _), (1, _), (2, _)]) dX11_begin_24 rfl (by decide) rfl ?_
            have hv2453 : (i2423 + Int32.ofInt (1)).toInt = i2423.toInt + (1) := ia_n rfl (by omega) (by omega)
            generalize i2423 + Int32.ofInt (1) = v2453 at hv2453 ⊢
            refine WP_goto 2 dX11_begin_27 rfl ?_
            exact WP_sub (fc rfl (fc rfl (fc rfl fn))) (ihlp2_2425 v2453 I2451 J2425 hI2451 (by omega) (by omega) (by omega))
          · refine WP_aload_n dX11_begin_20 rfl ?_
            refine WP_iload_n dX11_begin_21 rfl ?_
            refine WQ_iconst (0) (0) dX11_begin_22 rfl rfl (fun v2454 hv2454 => ?_)
            refine WQ_iast dX11_begin_23 (ly_is hy 39 13 rfl) (ly_n hy 39 35 rfl) (by omega) (by omega) (fun I2455 eI2455 => ?_)
            have hI2455 : MP g n L I2455 := by rw [eI2455]; exact (mp_w hy hI2424 (c := 39) (mi_rr hy hI2424.1 (c := 39) (4) (7) (0) (0) (5) (by decide) (Or.inl (by decide)) (by rw [cl (n := i2423.toInt.toNat) (by omega)]; omega) (by decide) (fun _ => ⟨by omega, by omega⟩)) (by decide) (by decide) (Or.inl (by decide)))
            have e2456 : I2455 (ad g 0) 1 = L := by rw [eI2455, pp_ne _ _ (Or.inl (ly_ne hy (by decide) (by decide) (by decide)))]; exact e2427
            clear eI2455
            refine WP_iinc (ls' := [(0, _), (1, _), (2, _)]) dX11_begin_24 rfl (by decide) rfl ?_
            have hv2457 : (i2423 + Int32.ofInt (1)).toInt = i2423.toInt + (1) := ia_n rfl (by omega) (by omega)
            generalize i2423 + Int32.ofInt (1) = v2457 at hv2457 ⊢
            refine WP_goto 2 dX11_begin_27 rfl ?_
            exact WP_sub (fc rfl (fc rfl (fc rfl fn))) (ihlp2_2425 v2457 I2455 J2425 hI2455 (by omega) (by omega) (by omega))
          · refine WP_aload_n dX11_begin_20 rfl ?_
            refine WP_iload_n dX11_begin_21 rfl ?_
            refine WQ_iconst (0) (0) dX11_begin_22 rfl rfl (fun v2458 hv2458 => ?_)
            refine WQ_iast dX11_begin_23 (ly_is hy 39 13 rfl) (ly_n hy 39 35 rfl) (by omega) (by omega) (fun I2459 eI2459 => ?_)
            have hI2459 : MP g n L I2459 := by rw [eI2459]; exact (mp_w hy hI2424 (c := 39) (mi_rr hy hI2424.1 (c := 39) (8) (27) (0) (0) (0) (by decide) (Or.inl (by decide)) (by rw [cl (n := i2423.toInt.toNat) (by omega)]; omega) (by decide) (fun h => absurd h (by decide))) (by decide) (by decide) (Or.inl (by decide)))
            have e2460 : I2459 (ad g 0) 1 = L := by rw [eI2459, pp_ne _ _ (Or.inl (ly_ne hy (by decide) (by decide) (by decide)))]; exact e2427
            clear eI2459
            refine WP_iinc (ls' := [(0, _), (1, _), (2, _)]) dX11_begin_24 rfl (by decide) rfl ?_
            have hv2461 : (i2423 + Int32.ofInt (1)).toInt = i2423.toInt + (1) := ia_n rfl (by omega) (by omega)
            generalize i2423 + Int32.ofInt (1) = v2461 at hv2461 ⊢
            refine WP_goto 2 dX11_begin_27 rfl ?_
            exact WP_sub (fc rfl (fc rfl (fc rfl fn))) (ihlp2_2425 v2461 I2459 J2425 hI2459 (by omega) (by omega) (by omega))
        · refine WP_iload_n dX11_begin_14 rfl ?_
          refine WQ_bipush (32) (32) dX11_begin_15 rfl rfl (fun v2462 hv2462 => ?_)
          refine WQ_icmp_lt 24 dX11_begin_17 rfl (fun c2462 => ?_) (fun c2462 => ?_)
          · refine WP_iinc (ls' := [(0, _), (1, _), (2, _)]) dX11_begin_24 rfl (by decide) rfl ?_
            have hv2464 : (i2423 + Int32.ofInt (1)).toInt = i2423.toInt + (1) := ia_n rfl (by omega) (by omega)
            generalize i2423 + Int32.ofInt (1) = v2464 at hv2464 ⊢
            refine WP_goto 2 dX11_begin_27 rfl ?_
            exact WP_sub (fc rfl (fc rfl (fc rfl fn))) (ihlp2_2425 v2464 I2424 J2425 hI2424 (by omega) (by omega) (by omega))
          · rcases (show (32 ≤ i2423.toInt ∧ i2423.toInt ≤ 32) ∨ (33 ≤ i2423.toInt ∧ i2423.toInt ≤ 33) ∨ (34 ≤ i2423.toInt ∧ i2423.toInt ≤ 34) by omega) with ⟨k2465_0, k2465_1⟩ | ⟨k2465_2, k2465_3⟩ | ⟨k2465_4, k2465_5⟩
            · refine WP_aload_n dX11_begin_20 rfl ?_
              refine WP_iload_n dX11_begin_21 rfl ?_
              refine WQ_iconst (0) (0) dX11_begin_22 rfl rfl (fun v2466 hv2466 => ?_)
              refine WQ_iast dX11_begin_23 (ly_is hy 39 13 rfl) (ly_n hy 39 35 rfl) (by omega) (by omega) (fun I2467 eI2467 => ?_)
              have hI2467 : MP g n L I2467 := by rw [eI2467]; exact (mp_w hy hI2424 (c := 39) (mi_rr hy hI2424.1 (c := 39) (32) (32) (0) (23760) (700000) (by decide) (Or.inl (by decide)) (by rw [cl (n := i2423.toInt.toNat) (by omega)]; omega) (by decide) (fun _ => ⟨by omega, by omega⟩)) (by decide) (by decide) (Or.inl (by decide)))
              have e2468 : I2467 (ad g 0) 1 = L := by rw [eI2467, pp_ne _ _ (Or.inl (ly_ne hy (by decide) (by decide) (by decide)))]; exact e2427
              clear eI2467
              refine WP_iinc (ls' := [(0, _), (1, _), (2, _)]) dX11_begin_24 rfl (by decide) rfl ?_
              have hv2469 : (i2423 + Int32.ofInt (1)).toInt = i2423.toInt + (1) := ia_n rfl (by omega) (by omega)
              generalize i2423 + Int32.ofInt (1) = v2469 at hv2469 ⊢
              refine WP_goto 2 dX11_begin_27 rfl ?_
              exact WP_sub (fc rfl (fc rfl (fc rfl fn))) (ihlp2_2425 v2469 I2467 J2425 hI2467 (by omega) (by omega) (by omega))
            · refine WP_aload_n dX11_begin_20 rfl ?_
              refine WP_iload_n dX11_begin_21 rfl ?_
              refine WQ_iconst (0) (0) dX11_begin_22 rfl rfl (fun v2470 hv2470 => ?_)
              refine WQ_iast dX11_begin_23 (ly_is hy 39 13 rfl) (ly_n hy 39 35 rfl) (by omega) (by omega) (fun I2471 eI2471 => ?_)
              have hI2471 : MP g n L I2471 := by rw [eI2471]; exact (mp_w hy hI2424 (c := 39) (mi_rr hy hI2424.1 (c := 39) (33) (33) (0) (1) (30) (by decide) (Or.inl (by decide)) (by rw [cl (n := i2423.toInt.toNat) (by omega)]; omega) (by decide) (fun _ => ⟨by omega, by omega⟩)) (by decide) (by decide) (Or.inl (by decide)))
              have e2472 : I2471 (ad g 0) 1 = L := by rw [eI2471, pp_ne _ _ (Or.inl (ly_ne hy (by decide) (by decide) (by decide)))]; exact e2427
              clear eI2471
              refine WP_iinc (ls' := [(0, _), (1, _), (2, _)]) dX11_begin_24 rfl (by decide) rfl ?_
              have hv2473 : (i2423 + Int32.ofInt (1)).toInt = i2423.toInt + (1) := ia_n rfl (by omega) (by omega)
              generalize i2423 + Int32.ofInt (1) = v2473 at hv2473 ⊢
              refine WP_goto 2 dX11_begin_27 rfl ?_
              exact WP_sub (fc rfl (fc rfl (fc rfl fn))) (ihlp2_2425 v2473 I2471 J2425 hI2471 (by omega) (by omega) (by omega))
            · refine WP_aload_n dX11_begin_20 rfl ?_
              refine WP_iload_n dX11_begin_21 rfl ?_
              refine WQ_iconst (0) (0) dX11_begin_22 rfl rfl (fun v2474 hv2474 => ?_)
              refine WQ_iast dX11_begin_23 (ly_is hy 39 13 rfl) (ly_n hy 39 35 rfl) (by omega) (by omega) (fun I2475 eI2475 => ?_)
              have hI2475 : MP g n L I2475 := by rw [eI2475]; exact (mp_w hy hI2424 (c := 39) (mi_rr hy hI2424.1 (c := 39) (34) (34) (0) (0) (0) (by decide) (Or.inl (by decide)) (by rw [cl (n := i2423.toInt.toNat) (by omega)]; omega) (by decide) (fun h => absurd h (by decide))) (by decide) (by decide) (Or.inl (by decide)))
              have e2476 : I2475 (ad g 0) 1 = L := by rw [eI2475, pp_ne _ _ (Or.inl (ly_ne hy (by decide) (by decide) (by decide)))]; exact e2427
              clear eI2475
              refine WP_iinc (ls' := [(0, _), (1, _), (2, _)]) dX11_begin_24 rfl (by decide) rfl ?_
              have hv2477 : (i2423 + Int32.ofInt (1)).toInt = i2423.toInt + (1) := ia_n rfl (by omega) (by omega)
              generalize i2423 + Int32.ofInt (1) = v2477 at hv2477 ⊢
              refine WP_goto 2 dX11_begin_27 rfl ?_
              exact WP_sub (fc rfl (fc rfl (fc rfl fn))) (ihlp2_2425 v2477 I2475 J2425 hI2475 (by omega) (by omega) (by omega))
  exact WP_sub (fc rfl (fc rfl (fc rfl fn))) (lp2_2425 _ v2422 I J hI (by omega) (by omega) (Nat.lt_succ_self _))
set_option maxHeartbeats 4000000 in
set_option maxRecDepth 100000 in
theorem sm_anew {g : GG} {n : Int} {L : Int32} (hy : Ly g)  {I : pI} {J : pJ} {R : pR} (hr : Rf g R) (hI : MP g n L I)   (hn : 0 ≤ n) : SP g mX11_anew [.ref (ad g 0)] I J R (fun r I' J' R' => (MP g n L I' ∧ R' = R) ∧ ∃ v : Int32, r = some (.int v)) := by
  refine SP_of ⟨by decide, rfl⟩ (Nat.le_of_ble_eq_true rfl) ?_
  have e2478 : I (ad g 0) 1 = L := hI.1.2
  have b2479 := BT_get hI.1.1 0 1 2 (0) (0) (900) (by decide) 1 (by decide) (by decide)
  rw [e2478] at b2479
  refine WP_aload_n dX11_anew_0 rfl ?_
  refine WP_getr dX11_anew_1 fX11_283 rfl (ly_is hy 0 11 rfl) (rf hr 0 59 38 (by decide)) ?_
  refine WQ_bipush (33) (33) dX11_anew_4 rfl rfl (fun v2480 hv2480 => ?_)
  refine WQ_ialdr dX11_anew_6 (ly_is hy 38 13 rfl) (ly_n hy 38 35 rfl) (by omega) (by omega) (a := 33) (b := 34) (by omega) (by omega) (fun q hq1 hq2 => BT_get hI.1.1 38 33 34 (0) (1) (0) (by decide) q hq1 hq2) (fun v2481 av2481 bv2481 => ?_)
  refine WP_istore_n (ls' := [(0, _), (1, _)]) dX11_anew_7 (by decide) rfl ?_
  refine WP_aload_n dX11_anew_8 rfl ?_
  refine WP_aload_n dX11_anew_9 rfl ?_
  refine WP_getr dX11_anew_10 fX11_283 rfl (ly_is hy 0 11 rfl) (rf hr 0 59 38 (by decide)) ?_
  refine WP_callV1 (k := 11) dX11_anew_13 ⟨⟨⟨by decide, by decide⟩, zX11_begin⟩, lX11_342, by decide, rfl, vX11_begin.1, vX11_begin.2⟩ (ly_is hy 0 11 rfl) (sm_begin_38 hy hr hI   (by omega)) (Nat.le_of_ble_eq_true rfl) ?_
  intro r I2482 J2483 Ra hq
  obtain ⟨⟨hI2482, ec⟩, rfl⟩ := hq
  rw [ec]
  clear ec Ra
  have e2484 : I2482 (ad g 0) 1 = L := hI2482.1.2
  have b2485 := BT_get hI2482.1.1 0 1 2 (0) (0) (900) (by decide) 1 (by decide) (by decide)
  rw [e2484] at b2485
  refine WP_aload_n dX11_anew_16 rfl ?_
  refine WP_lconst (0) dX11_anew_17 rfl ?_
  obtain ⟨l2486, hl2486, el2486⟩ : ∃ v : Int64, v.toInt = 0 ∧ (0 : Int64) = v := ⟨_, rfl, rfl⟩
  rw [el2486]; clear el2486
  refine WQ_putl dX11_anew_18 fX11_346 rfl rfl (ly_is hy 0 11 rfl) (fun J2487 eJ2487 => ?_)
  clear eJ2487
  refine WP_iload_n dX11_anew_21 rfl ?_
  exact WP_iret dX11_anew_22 rfl ⟨⟨hI2482, rfl⟩, _, rfl⟩
set_option maxHeartbeats 4000000 in
set_option maxRecDepth 100000 in
theorem sm_keep {g : GG} {n : Int} {L : Int32} (hy : Ly g)  {I : pI} {J : pJ} {R : pR} (hr : Rf g R) (hI : MP g n L I) (a : Int32)  : SP g mX11_keep [.ref (ad g 0), .int a] I J R (fun r I' J' R' => (MP g n L I' ∧ R' = R) ∧ ∃ v : Int32, r = some (.int v)) := by
  refine SP_of ⟨by decide, rfl⟩ (Nat.le_of_ble_eq_true rfl) ?_
  have e2488 : I (ad g 0) 1 = L := hI.1.2
  have b2489 := BT_get hI.1.1 0 1 2 (0) (0) (900) (by decide) 1 (by decide) (by decide)
  rw [e2488] at b2489
  refine WP_iload_n dX11_keep_0 rfl ?_
  refine WP_callS1 dX11_keep_1 ⟨⟨⟨by decide, by decide⟩, zX11_isSlot⟩, lX11_494, tX11_isSlot⟩ (sm_isSlot hy hr hI a ) (Nat.le_of_ble_eq_true rfl) ?_
  intro r Ia Ja Ra hq
  obtain ⟨⟨ea, eb, ec⟩, v2490, rfl, av2490, bv2490, cv2490⟩ := hq
  show WP _ _ _ _ (.int _ :: _) _ _ _ _
  rw [ea, eb, ec]
  clear ea eb ec Ia Ja Ra
  refine WQ_if_ne 10 dX11_keep_4 rfl (fun c2490 => ?_) (fun c2490 => ?_)
  · rcases (show (0 ≤ a.toInt ∧ a.toInt ≤ 0) ∨ (1 ≤ a.toInt ∧ a.toInt ≤ 1) ∨ (2 ≤ a.toInt ∧ a.toInt ≤ 2) by omega) with ⟨k2492_0, k2492_1⟩ | ⟨k2492_2, k2492_3⟩ | ⟨k2492_4, k2492_5⟩
    · refine WQ_iconst (0) (0) dX11_keep_10 rfl rfl (fun v2493 hv2493 => ?_)
      refine WP_istore_n (ls' := [(0, _), (1, _), (2, _)]) dX11_keep_11 (by decide) rfl ?_
      have lp12_2496 : ∀ (mz : Nat) (i2494 : Int32) (I2495 : pI) (J2496 : pJ), MP g n L I2495 → 0 ≤ i2494.toInt → i2494.toInt ≤ 35 → (36 - i2494.toInt).toNat < mz → WP g mX11_keep 12 [(0, .ref (ad g 0)), (1, .int a), (2, .int i2494)] [] I2495 J2496 R (fun r I' J' R' => (MP g n L I' ∧ R' = R) ∧ ∃ v : Int32, r = some (.int v)) := by
        intro mz
        induction mz with
        | zero =>
          intro i2494 I2495 J2496 hI2495 ai2494 bi2494 hmlp12_2496
          exact absurd hmlp12_2496 (Nat.not_lt_zero _)
        | succ mz ihlp12_2496 =>
          intro i2494 I2495 J2496 hI2495 ai2494 bi2494 hmlp12_2496
          have e2498 : I2495 (ad g 0) 1 = L := hI2495.1.2
          have b2499 := BT_get hI2495.1.1 0 1 2 (0) (0) (900) (by decide) 1 (by decide) (by decide)
          rw [e2498] at b2499
          refine WP_iload_n dX11_keep_12 rfl ?_
          refine WQ_bipush (35) (35) dX11_keep_13 rfl rfl (fun v2500 hv2500 => ?_)
          refine WQ_icmp_ge 41 dX11_keep_15 rfl (fun c2500 => ?_) (fun c2500 => ?_)
          · refine WP_aload_n dX11_keep_41 rfl ?_
            refine WP_getr dX11_keep_42 fX11_298 rfl (ly_is hy 0 11 rfl) (rf hr 0 66 43 (by decide)) ?_
            refine WP_iload_n dX11_keep_45 rfl ?_
            refine WP_aload_n dX11_keep_46 rfl ?_
            refine WQ_getl dX11_keep_47 fX11_346 rfl (ly_is hy 0 11 rfl) (fun l2502 el2502 => ?_)
            refine WQ_last dX11_keep_50 (ly_is hy 43 14 rfl) (ly_n hy 43 3 rfl) (by omega) (by omega) (fun J2503 eJ2503 => ?_)
            clear eJ2503
            refine WP_aload_n dX11_keep_51 rfl ?_
            refine WP_getr dX11_keep_52 fX11_301 rfl (ly_is hy 0 11 rfl) (rf hr 0 67 44 (by decide)) ?_
            refine WP_iload_n dX11_keep_55 rfl ?_
            refine WQ_iconst (1) (1) dX11_keep_56 rfl rfl (fun v2504 hv2504 => ?_)
            refine WQ_zast dX11_keep_57 (ly_is hy 44 15 rfl) (ly_n hy 44 3 rfl) (by omega) (by omega) (fun I2505 v2506 eI2505 => ?_)
            have hI2505 : MP g n L I2505 := by rw [eI2505]; exact (mp_w hy hI2495 (c := 44) (mi_r0 hy hI2495.1 (c := 44) (by decide) (Or.inl (by decide)) (by decide)) (by decide) (by decide) (Or.inl (by decide)))
            have e2507 : I2505 (ad g 0) 1 = L := by rw [eI2505, pp_ne _ _ (Or.inl (ly_ne hy (by decide) (by decide) (by decide)))]; exact e2498
            clear eI2505
            refine WP_aload_n dX11_keep_58 rfl ?_
            refine WP_getr dX11_keep_59 fX11_283 rfl (ly_is hy 0 11 rfl) (rf hr 0 59 38 (by decide)) ?_
            refine WQ_bipush (33) (33) dX11_keep_62 rfl rfl (fun v2508 hv2508 => ?_)
            refine WQ_ialdr dX11_keep_64 (ly_is hy 38 13 rfl) (ly_n hy 38 35 rfl) (by omega) (by omega) (a := 33) (b := 34) (by omega) (by omega) (fun q hq1 hq2 => BT_get hI2505.1.1 38 33 34 (0) (1) (0) (by decide) q hq1 hq2) (fun v2509 av2509 bv2509 => ?_)
            exact WP_iret dX11_keep_65 rfl ⟨⟨hI2505, rfl⟩, _, rfl⟩
          · rcases (show (0 ≤ i2494.toInt ∧ i2494.toInt ≤ 3) ∨ (4 ≤ i2494.toInt ∧ i2494.toInt ≤ 7) ∨ (8 ≤ i2494.toInt ∧ i2494.toInt ≤ 31) ∨ (32 ≤ i2494.toInt ∧ i2494.toInt ≤ 32) ∨ (33 ≤ i2494.toInt ∧ i2494.toInt ≤ 33) ∨ (34 ≤ i2494.toInt ∧ i2494.toInt ≤ 34) by omega) with ⟨k2510_0, k2510_1⟩ | ⟨k2510_2, k2510_3⟩ | ⟨k2510_4, k2510_5⟩ | ⟨k2510_6, k2510_7⟩ | ⟨k2510_8, k2510_9⟩ | ⟨k2510_10, k2510_11⟩
            · refine WP_aload_n dX11_keep_18 rfl ?_
              refine WP_getr dX11_keep_19 fX11_295 rfl (ly_is hy 0 11 rfl) (rf hr 0 65 42 (by decide)) ?_
              refine WQ_bipush (35) (35) dX11_keep_22 rfl rfl (fun v2511 hv2511 => ?_)
              refine WP_iload_n dX11_keep_24 rfl ?_
              refine WQ_imulK (35) dX11_keep_25 hv2511 (by omega) (by omega) (fun v2512 hv2512 => ?_)
              refine WP_iload_n dX11_keep_26 rfl ?_
              refine WQ_iadd dX11_keep_27 (by omega) (by omega) (fun v2513 hv2513 => ?_)
              refine WP_aload_n dX11_keep_28 rfl ?_
              refine WP_getr dX11_keep_29 fX11_283 rfl (ly_is hy 0 11 rfl) (rf hr 0 59 38 (by decide)) ?_
              refine WP_iload_n dX11_keep_32 rfl ?_
              refine WQ_ialdr dX11_keep_33 (ly_is hy 38 13 rfl) (ly_n hy 38 35 rfl) (by omega) (by omega) (a := 0) (b := 4) (by omega) (by omega) (fun q hq1 hq2 => BT_get hI2495.1.1 38 0 4 (0) (0) (60) (by decide) q hq1 hq2) (fun v2514 av2514 bv2514 => ?_)
              refine WQ_iast dX11_keep_34 (ly_is hy 42 13 rfl) (ly_n hy 42 105 rfl) (by omega) (by omega) (fun I2515 eI2515 => ?_)
              have hI2515 : MP g n L I2515 := by rw [eI2515]; exact (mp_w hy hI2495 (c := 42) (mi_rr hy hI2495.1 (c := 42) (0) (3) (0) (0) (60) (by decide) (Or.inl (by decide)) (by rw [cl (n := v2513.toInt.toNat) (by omega)]; omega) (by decide) (fun _ => ⟨by omega, by omega⟩)) (by decide) (by decide) (Or.inl (by decide)))
              have e2516 : I2515 (ad g 0) 1 = L := by rw [eI2515, pp_ne _ _ (Or.inl (ly_ne hy (by decide) (by decide) (by decide)))]; exact e2498
              clear eI2515
              refine WP_iinc (ls' := [(0, _), (1, _), (2, _)]) dX11_keep_35 rfl (by decide) rfl ?_
              have hv2517 : (i2494 + Int32.ofInt (1)).toInt = i2494.toInt + (1) := ia_n rfl (by omega) (by omega)
              generalize i2494 + Int32.ofInt (1) = v2517 at hv2517 ⊢
              refine WP_goto 12 dX11_keep_38 rfl ?_
              exact WP_sub (fc rfl (fc rfl (fc rfl fn))) (ihlp12_2496 v2517 I2515 J2496 hI2515 (by omega) (by omega) (by omega))
            · refine WP_aload_n dX11_keep_18 rfl ?_
              refine WP_getr dX11_keep_19 fX11_295 rfl (ly_is hy 0 11 rfl) (rf hr 0 65 42 (by decide)) ?_
              refine WQ_bipush (35) (35) dX11_keep_22 rfl rfl (fun v2518 hv2518 => ?_)
              refine WP_iload_n dX11_keep_24 rfl ?_
              refine WQ_imulK (35) dX11_keep_25 hv2518 (by omega) (by omega) (fun v2519 hv2519 => ?_)
              refine WP_iload_n dX11_keep_26 rfl ?_
              refine WQ_iadd dX11_keep_27 (by omega) (by omega) (fun v2520 hv2520 => ?_)
              refine WP_aload_n dX11_keep_28 rfl ?_
              refine WP_getr dX11_keep_29 fX11_283 rfl (ly_is hy 0 11 rfl) (rf hr 0 59 38 (by decide)) ?_
              refine WP_iload_n dX11_keep_32 rfl ?_
              refine WQ_ialdr dX11_keep_33 (ly_is hy 38 13 rfl) (ly_n hy 38 35 rfl) (by omega) (by omega) (a := 4) (b := 8) (by omega) (by omega) (fun q hq1 hq2 => BT_get hI2495.1.1 38 4 8 (0) (0) (5) (by decide) q hq1 hq2) (fun v2521 av2521 bv2521 => ?_)
              refine WQ_iast dX11_keep_34 (ly_is hy 42 13 rfl) (ly_n hy 42 105 rfl) (by omega) (by omega) (fun I2522 eI2522 => ?_)
              have hI2522 : MP g n L I2522 := by rw [eI2522]; exact (mp_w hy hI2495 (c := 42) (mi_rr hy hI2495.1 (c := 42) (4) (7) (0) (0) (5) (by decide) (Or.inl (by decide)) (by rw [cl (n := v2520.toInt.toNat) (by omega)]; omega) (by decide) (fun _ => ⟨by omega, by omega⟩)) (by decide) (by decide) (Or.inl (by decide)))
              have e2523 : I2522 (ad g 0) 1 = L := by rw [eI2522, pp_ne _ _ (Or.inl (ly_ne hy (by decide) (by decide) (by decide)))]; exact e2498
              clear eI2522
              refine WP_iinc (ls' := [(0, _), (1, _), (2, _)]) dX11_keep_35 rfl (by decide) rfl ?_
              have hv2524 : (i2494 + Int32.ofInt (1)).toInt = i2494.toInt + (1) := ia_n rfl (by omega) (by omega)
              generalize i2494 + Int32.ofInt (1) = v2524 at hv2524 ⊢
              refine WP_goto 12 dX11_keep_38 rfl ?_
              exact WP_sub (fc rfl (fc rfl (fc rfl fn))) (ihlp12_2496 v2524 I2522 J2496 hI2522 (by omega) (by omega) (by omega))
            · refine WP_aload_n dX11_keep_18 rfl ?_
              refine WP_getr dX11_keep_19 fX11_295 rfl (ly_is hy 0 11 rfl) (rf hr 0 65 42 (by decide)) ?_
              refine WQ_bipush (35) (35) dX11_keep_22 rfl rfl (fun v2525 hv2525 => ?_)
              refine WP_iload_n dX11_keep_24 rfl ?_
              refine WQ_imulK (35) dX11_keep_25 hv2525 (by omega) (by omega) (fun v2526 hv2526 => ?_)
              refine WP_iload_n dX11_keep_26 rfl ?_
              refine WQ_iadd dX11_keep_27 (by omega) (by omega) (fun v2527 hv2527 => ?_)
              refine WP_aload_n dX11_keep_28 rfl ?_
              refine WP_getr dX11_keep_29 fX11_283 rfl (ly_is hy 0 11 rfl) (rf hr 0 59 38 (by decide)) ?_
              refine WP_iload_n dX11_keep_32 rfl ?_
              refine WQ_ialdu dX11_keep_33 (ly_is hy 38 13 rfl) (ly_n hy 38 35 rfl) (by omega) (by omega) (fun v2528 => ?_)
              refine WQ_iast dX11_keep_34 (ly_is hy 42 13 rfl) (ly_n hy 42 105 rfl) (by omega) (by omega) (fun I2529 eI2529 => ?_)
              have hI2529 : MP g n L I2529 := by rw [eI2529]; exact (mp_w hy hI2495 (c := 42) (mi_rr hy hI2495.1 (c := 42) (8) (31) (0) (0) (0) (by decide) (Or.inl (by decide)) (by rw [cl (n := v2527.toInt.toNat) (by omega)]; omega) (by decide) (fun h => absurd h (by decide))) (by decide) (by decide) (Or.inl (by decide)))
              have e2530 : I2529 (ad g 0) 1 = L := by rw [eI2529, pp_ne _ _ (Or.inl (ly_ne hy (by decide) (by decide) (by decide)))]; exact e2498
              clear eI2529
              refine WP_iinc (ls' := [(0, _), (1, _), (2, _)]) dX11_keep_35 rfl (by decide) rfl ?_
              have hv2531 : (i2494 + Int32.ofInt (1)).toInt = i2494.toInt + (1) := ia_n rfl (by omega) (by omega)
              generalize i2494 + Int32.ofInt (1) = v2531 at hv2531 ⊢
              refine WP_goto 12 dX11_keep_38 rfl ?_
              exact WP_sub (fc rfl (fc rfl (fc rfl fn))) (ihlp12_2496 v2531 I2529 J2496 hI2529 (by omega) (by omega) (by omega))
            · refine WP_aload_n dX11_keep_18 rfl ?_
              refine WP_getr dX11_keep_19 fX11_295 rfl (ly_is hy 0 11 rfl) (rf hr 0 65 42 (by decide)) ?_
              refine WQ_bipush (35) (35) dX11_keep_22 rfl rfl (fun v2532 hv2532 => ?_)
              refine WP_iload_n dX11_keep_24 rfl ?_
              refine WQ_imulK (35) dX11_keep_25 hv2532 (by omega) (by omega) (fun v2533 hv2533 => ?_)
              refine WP_iload_n dX11_keep_26 rfl ?_
              refine WQ_iadd dX11_keep_27 (by omega) (by omega) (fun v2534 hv2534 => ?_)
              refine WP_aload_n dX11_keep_28 rfl ?_
              refine WP_getr dX11_keep_29 fX11_283 rfl (ly_is hy 0 11 rfl) (rf hr 0 59 38 (by decide)) ?_
              refine WP_iload_n dX11_keep_32 rfl ?_
              refine WQ_ialdr dX11_keep_33 (ly_is hy 38 13 rfl) (ly_n hy 38 35 rfl) (by omega) (by omega) (a := 32) (b := 33) (by omega) (by omega) (fun q hq1 hq2 => BT_get hI2495.1.1 38 32 33 (0) (23760) (0) (by decide) q hq1 hq2) (fun v2535 av2535 bv2535 => ?_)
              refine WQ_iast dX11_keep_34 (ly_is hy 42 13 rfl) (ly_n hy 42 105 rfl) (by omega) (by omega) (fun I2536 eI2536 => ?_)
              have hI2536 : MP g n L I2536 := by rw [eI2536]; exact (mp_w hy hI2495 (c := 42) (mi_rr hy hI2495.1 (c := 42) (32) (32) (0) (23760) (0) (by decide) (Or.inl (by decide)) (by rw [cl (n := v2534.toInt.toNat) (by omega)]; omega) (by decide) (fun _ => ⟨by omega, by omega⟩)) (by decide) (by decide) (Or.inl (by decide)))
              have e2537 : I2536 (ad g 0) 1 = L := by rw [eI2536, pp_ne _ _ (Or.inl (ly_ne hy (by decide) (by decide) (by decide)))]; exact e2498
              clear eI2536
              refine WP_iinc (ls' := [(0, _), (1, _), (2, _)]) dX11_keep_35 rfl (by decide) rfl ?_
              have hv2538 : (i2494 + Int32.ofInt (1)).toInt = i2494.toInt + (1) := ia_n rfl (by omega) (by omega)
              generalize i2494 + Int32.ofInt (1) = v2538 at hv2538 ⊢
              refine WP_goto 12 dX11_keep_38 rfl ?_
              exact WP_sub (fc rfl (fc rfl (fc rfl fn))) (ihlp12_2496 v2538 I2536 J2496 hI2536 (by omega) (by omega) (by omega))
            · refine WP_aload_n dX11_keep_18 rfl ?_
              refine WP_getr dX11_keep_19 fX11_295 rfl (ly_is hy 0 11 rfl) (rf hr 0 65 42 (by decide)) ?_
              refine WQ_bipush (35) (35) dX11_keep_22 rfl rfl (fun v2539 hv2539 => ?_)
              refine WP_iload_n dX11_keep_24 rfl ?_
              refine WQ_imulK (35) dX11_keep_25 hv2539 (by omega) (by omega) (fun v2540 hv2540 => ?_)
              refine WP_iload_n dX11_keep_26 rfl ?_
              refine WQ_iadd dX11_keep_27 (by omega) (by omega) (fun v2541 hv2541 => ?_)
              refine WP_aload_n dX11_keep_28 rfl ?_
              refine WP_getr dX11_keep_29 fX11_283 rfl (ly_is hy 0 11 rfl) (rf hr 0 59 38 (by decide)) ?_
              refine WP_iload_n dX11_keep_32 rfl ?_
              refine WQ_ialdr dX11_keep_33 (ly_is hy 38 13 rfl) (ly_n hy 38 35 rfl) (by omega) (by omega) (a := 33) (b := 34) (by omega) (by omega) (fun q hq1 hq2 => BT_get hI2495.1.1 38 33 34 (0) (1) (0) (by decide) q hq1 hq2) (fun v2542 av2542 bv2542 => ?_)
              refine WQ_iast dX11_keep_34 (ly_is hy 42 13 rfl) (ly_n hy 42 105 rfl) (by omega) (by omega) (fun I2543 eI2543 => ?_)
              have hI2543 : MP g n L I2543 := by rw [eI2543]; exact (mp_w hy hI2495 (c := 42) (mi_rr hy hI2495.1 (c := 42) (33) (33) (0) (1) (0) (by decide) (Or.inl (by decide)) (by rw [cl (n := v2541.toInt.toNat) (by omega)]; omega) (by decide) (fun _ => ⟨by omega, by omega⟩)) (by decide) (by decide) (Or.inl (by decide)))
              have e2544 : I2543 (ad g 0) 1 = L := by rw [eI2543, pp_ne _ _ (Or.inl (ly_ne hy (by decide) (by decide) (by decide)))]; exact e2498
              clear eI2543
              refine WP_iinc (ls' := [(0, _), (1, _), (2, _)]) dX11_keep_35 rfl (by decide) rfl ?_
              have hv2545 : (i2494 + Int32.ofInt (1)).toInt = i2494.toInt + (1) := ia_n rfl (by omega) (by omega)
              generalize i2494 + Int32.ofInt (1) = v2545 at hv2545 ⊢
              refine WP_goto 12 dX11_keep_38 rfl ?_
              exact WP_sub (fc rfl (fc rfl (fc rfl fn))) (ihlp12_2496 v2545 I2543 J2496 hI2543 (by omega) (by omega) (by omega))
            · refine WP_aload_n dX11_keep_18 rfl ?_
              refine WP_getr dX11_keep_19 fX11_295 rfl (ly_is hy 0 11 rfl) (rf hr 0 65 42 (by decide)) ?_
              refine WQ_bipush (35) (35) dX11_keep_22 rfl rfl (fun v2546 hv2546 => ?_)
              refine WP_iload_n dX11_keep_24 rfl ?_
              refine WQ_imulK (35) dX11_keep_25 hv2546 (by omega) (by omega) (fun v2547 hv2547 => ?_)
              refine WP_iload_n dX11_keep_26 rfl ?_
              refine WQ_iadd dX11_keep_27 (by omega) (by omega) (fun v2548 hv2548 => ?_)
              refine WP_aload_n dX11_keep_28 rfl ?_
              refine WP_getr dX11_keep_29 fX11_283 rfl (ly_is hy 0 11 rfl) (rf hr 0 59 38 (by decide)) ?_
              refine WP_iload_n dX11_keep_32 rfl ?_
              refine WQ_ialdu dX11_keep_33 (ly_is hy 38 13 rfl) (ly_n hy 38 35 rfl) (by omega) (by omega) (fun v2549 => ?_)
              refine WQ_iast dX11_keep_34 (ly_is hy 42 13 rfl) (ly_n hy 42 105 rfl) (by omega) (by omega) (fun I2550 eI2550 => ?_)
              have hI2550 : MP g n L I2550 := by rw [eI2550]; exact (mp_w hy hI2495 (c := 42) (mi_rr hy hI2495.1 (c := 42) (34) (34) (0) (0) (0) (by decide) (Or.inl (by decide)) (by rw [cl (n := v2548.toInt.toNat) (by omega)]; omega) (by decide) (fun h => absurd h (by decide))) (by decide) (by decide) (Or.inl (by decide)))
              have e2551 : I2550 (ad g 0) 1 = L := by rw [eI2550, pp_ne _ _ (Or.inl (ly_ne hy (by decide) (by decide) (by decide)))]; exact e2498
              clear eI2550
              refine WP_iinc (ls' := [(0, _), (1, _), (2, _)]) dX11_keep_35 rfl (by decide) rfl ?_
              have hv2552 : (i2494 + Int32.ofInt (1)).toInt = i2494.toInt + (1) := ia_n rfl (by omega) (by omega)
              generalize i2494 + Int32.ofInt (1) = v2552 at hv2552 ⊢
              refine WP_goto 12 dX11_keep_38 rfl ?_
              exact WP_sub (fc rfl (fc rfl (fc rfl fn))) (ihlp12_2496 v2552 I2550 J2496 hI2550 (by omega) (by omega) (by omega))
      exact WP_sub (fc rfl (fc rfl (fc rfl fn))) (lp12_2496 _ v2493 I J hI (by omega) (by omega) (Nat.lt_succ_self _))
    · refine WQ_iconst (0) (0) dX11_keep_10 rfl rfl (fun v2553 hv2553 => ?_)
      refine WP_istore_n (ls' := [(0, _), (1, _), (2, _)]) dX11_keep_11 (by decide) rfl ?_
      have lp12_2556 : ∀ (mz : Nat) (i2554 : Int32) (I2555 : pI) (J2556 : pJ), MP g n L I2555 → 0 ≤ i2554.toInt → i2554.toInt ≤ 35 → (36 - i2554.toInt).toNat < mz → WP g mX11_keep 12 [(0, .ref (ad g 0)), (1, .int a), (2, .int i2554)] [] I2555 J2556 R (fun r I' J' R' => (MP g n L I' ∧ R' = R) ∧ ∃ v : Int32, r = some (.int v)) := by
        intro mz
        induction mz with
        | zero =>
          intro i2554 I2555 J2556 hI2555 ai2554 bi2554 hmlp12_2556
          exact absurd hmlp12_2556 (Nat.not_lt_zero _)
        | succ mz ihlp12_2556 =>
          intro i2554 I2555 J2556 hI2555 ai2554 bi2554 hmlp12_2556
          have e2558 : I2555 (ad g 0) 1 = L := hI2555.1.2
          have b2559 := BT_get hI2555.1.1 0 1 2 (0) (0) (900) (by decide) 1 (by decide) (by decide)
          rw [e2558] at b2559
          refine WP_iload_n dX11_keep_12 rfl ?_
          refine WQ_bipush (35) (35) dX11_keep_13 rfl rfl (fun v2560 hv2560 => ?_)
          refine WQ_icmp_ge 41 dX11_keep_15 rfl (fun c2560 => ?_) (fun c2560 => ?_)
          · refine WP_aload_n dX11_keep_41 rfl ?_
            refine WP_getr dX11_keep_42 fX11_298 rfl (ly_is hy 0 11 rfl) (rf hr 0 66 43 (by decide)) ?_
            refine WP_iload_n dX11_keep_45 rfl ?_
            refine WP_aload_n dX11_keep_46 rfl ?_
            refine WQ_getl dX11_keep_47 fX11_346 rfl (ly_is hy 0 11 rfl) (fun l2562 el2562 => ?_)
            refine WQ_last dX11_keep_50 (ly_is hy 43 14 rfl) (ly_n hy 43 3 rfl) (by omega) (by omega) (fun J2563 eJ2563 => ?_)
            clear eJ2563
            refine WP_aload_n dX11_keep_51 rfl ?_
            refine WP_getr dX11_keep_52 fX11_301 rfl (ly_is hy 0 11 rfl) (rf hr 0 67 44 (by decide)) ?_
            refine WP_iload_n dX11_keep_55 rfl ?_
            refine WQ_iconst (1) (1) dX11_keep_56 rfl rfl (fun v2564 hv2564 => ?_)
            refine WQ_zast dX11_keep_57 (ly_is hy 44 15 rfl) (ly_n hy 44 3 rfl) (by omega) (by omega) (fun I2565 v2566 eI2565 => ?_)
            have hI2565 : MP g n L I2565 := by rw [eI2565]; exact (mp_w hy hI2555 (c := 44) (mi_r0 hy hI2555.1 (c := 44) (by decide) (Or.inl (by decide)) (by decide)) (by decide) (by decide) (Or.inl (by decide)))
            have e2567 : I2565 (ad g 0) 1 = L := by rw [eI2565, pp_ne _ _ (Or.inl (ly_ne hy (by decide) (by decide) (by decide)))]; exact e2558
            clear eI2565
            refine WP_aload_n dX11_keep_58 rfl ?_
            refine WP_getr dX11_keep_59 fX11_283 rfl (ly_is hy 0 11 rfl) (rf hr 0 59 38 (by decide)) ?_
            refine WQ_bipush (33) (33) dX11_keep_62 rfl rfl (fun v2568 hv2568 => ?_)
            refine WQ_ialdr dX11_keep_64 (ly_is hy 38 13 rfl) (ly_n hy 38 35 rfl) (by omega) (by omega) (a := 33) (b := 34) (by omega) (by omega) (fun q hq1 hq2 => BT_get hI2565.1.1 38 33 34 (0) (1) (0) (by decide) q hq1 hq2) (fun v2569 av2569 bv2569 => ?_)
            exact WP_iret dX11_keep_65 rfl ⟨⟨hI2565, rfl⟩, _, rfl⟩
          · rcases (show (0 ≤ i2554.toInt ∧ i2554.toInt ≤ 3) ∨ (4 ≤ i2554.toInt ∧ i2554.toInt ≤ 7) ∨ (8 ≤ i2554.toInt ∧ i2554.toInt ≤ 31) ∨ (32 ≤ i2554.toInt ∧ i2554.toInt ≤ 32) ∨ (33 ≤ i2554.toInt ∧ i2554.toInt ≤ 33) ∨ (34 ≤ i2554.toInt ∧ i2554.toInt ≤ 34) by omega) with ⟨k2570_0, k2570_1⟩ | ⟨k2570_2, k2570_3⟩ | ⟨k2570_4, k2570_5⟩ | ⟨k2570_6, k2570_7⟩ | ⟨k2570_8, k2570_9⟩ | ⟨k2570_10, k2570_11⟩
            · refine WP_aload_n dX11_keep_18 rfl ?_
              refine WP_getr dX11_keep_19 fX11_295 rfl (ly_is hy 0 11 rfl) (rf hr 0 65 42 (by decide)) ?_
              refine WQ_bipush (35) (35) dX11_keep_22 rfl rfl (fun v2571 hv2571 => ?_)
              refine WP_iload_n dX11_keep_24 rfl ?_
              refine WQ_imulK (35) dX11_keep_25 hv2571 (by omega) (by omega) (fun v2572 hv2572 => ?_)
              refine WP_iload_n dX11_keep_26 rfl ?_
              refine WQ_iadd dX11_keep_27 (by omega) (by omega) (fun v2573 hv2573 => ?_)
              refine WP_aload_n dX11_keep_28 rfl ?_
              refine WP_getr dX11_keep_29 fX11_283 rfl (ly_is hy 0 11 rfl) (rf hr 0 59 38 (by decide)) ?_
              refine WP_iload_n dX11_keep_32 rfl ?_
              refine WQ_ialdr dX11_keep_33 (ly_is hy 38 13 rfl) (ly_n hy 38 35 rfl) (by omega) (by omega) (a := 0) (b := 4) (by omega) (by omega) (fun q hq1 hq2 => BT_get hI2555.1.1 38 0 4 (0) (0) (60) (by decide) q hq1 hq2) (fun v2574 av2574 bv2574 => ?_)
              refine WQ_iast dX11_keep_34 (ly_is hy 42 13 rfl) (ly_n hy 42 105 rfl) (by omega) (by omega) (fun I2575 eI2575 => ?_)
              have hI2575 : MP g n L I2575 := by rw [eI2575]; exact (mp_w hy hI2555 (c := 42) (mi_rr hy hI2555.1 (c := 42) (35) (38) (0) (0) (60) (by decide) (Or.inl (by decide)) (by rw [cl (n := v2573.toInt.toNat) (by omega)]; omega) (by decide) (fun _ => ⟨by omega, by omega⟩)) (by decide) (by decide) (Or.inl (by decide)))
              have e2576 : I2575 (ad g 0) 1 = L := by rw [eI2575, pp_ne _ _ (Or.inl (ly_ne hy (by decide) (by decide) (by decide)))]; exact e2558
              clear eI2575
              refine WP_iinc (ls' := [(0, _), (1, _), (2, _)]) dX11_keep_35 rfl (by decide) rfl ?_
              have hv2577 : (i2554 + Int32.ofInt (1)).toInt = i2554.toInt + (1) := ia_n rfl (by omega) (by omega)
              generalize i2554 + Int32.ofInt (1) = v2577 at hv2577 ⊢
              refine WP_goto 12 dX11_keep_38 rfl ?_
              exact WP_sub (fc rfl (fc rfl (fc rfl fn))) (ihlp12_2556 v2577 I2575 J2556 hI2575 (by omega) (by omega) (by omega))
            · refine WP_aload_n dX11_keep_18 rfl ?_
              refine WP_getr dX11_keep_19 fX11_295 rfl (ly_is hy 0 11 rfl) (rf hr 0 65 42 (by decide)) ?_
              refine WQ_bipush (35) (35) dX11_keep_22 rfl rfl (fun v2578 hv2578 => ?_)
              refine WP_iload_n dX11_keep_24 rfl ?_
              refine WQ_imulK (35) dX11_keep_25 hv2578 (by omega) (by omega) (fun v2579 hv2579 => ?_)
              refine WP_iload_n dX11_keep_26 rfl ?_
              refine WQ_iadd dX11_keep_27 (by omega) (by omega) (fun v2580 hv2580 => ?_)
              refine WP_aload_n dX11_keep_28 rfl ?_
              refine WP_getr dX11_keep_29 fX11_283 rfl (ly_is hy 0 11 rfl) (rf hr 0 59 38 (by decide)) ?_
              refine WP_iload_n dX11_keep_32 rfl ?_
              refine WQ_ialdr dX11_keep_33 (ly_is hy 38 13 rfl) (ly_n hy 38 35 rfl) (by omega) (by omega) (a := 4) (b := 8) (by omega) (by omega) (fun q hq1 hq2 => BT_get hI2555.1.1 38 4 8 (0) (0) (5) (by decide) q hq1 hq2) (fun v2581 av2581 bv2581 => ?_)
              refine WQ_iast dX11_keep_34 (ly_is hy 42 13 rfl) (ly_n hy 42 105 rfl) (by omega) (by omega) (fun I2582 eI2582 => ?_)
              have hI2582 : MP g n L I2582 := by rw [eI2582]; exact (mp_w hy hI2555 (c := 42) (mi_rr hy hI2555.1 (c := 42) (39) (42) (0) (0) (5) (by decide) (Or.inl (by decide)) (by rw [cl (n := v2580.toInt.toNat) (by omega)]; omega) (by decide) (fun _ => ⟨by omega, by omega⟩)) (by decide) (by decide) (Or.inl (by decide)))
              have e2583 : I2582 (ad g 0) 1 = L := by rw [eI2582, pp_ne _ _ (Or.inl (ly_ne hy (by decide) (by decide) (by decide)))]; exact e2558
              clear eI2582
              refine WP_iinc (ls' := [(0, _), (1, _), (2, _)]) dX11_keep_35 rfl (by decide) rfl ?_
              have hv2584 : (i2554 + Int32.ofInt (1)).toInt = i2554.toInt + (1) := ia_n rfl (by omega) (by omega)
              generalize i2554 + Int32.ofInt (1) = v2584 at hv2584 ⊢
              refine WP_goto 12 dX11_keep_38 rfl ?_
              exact WP_sub (fc rfl (fc rfl (fc rfl fn))) (ihlp12_2556 v2584 I2582 J2556 hI2582 (by omega) (by omega) (by omega))
            · refine WP_aload_n dX11_keep_18 rfl ?_
              refine WP_getr dX11_keep_19 fX11_295 rfl (ly_is hy 0 11 rfl) (rf hr 0 65 42 (by decide)) ?_
              refine WQ_bipush (35) (35) dX11_keep_22 rfl rfl (fun v2585 hv2585 => ?_)
              refine WP_iload_n dX11_keep_24 rfl ?_
              refine WQ_imulK (35) dX11_keep_25 hv2585 (by omega) (by omega) (fun v2586 hv2586 => ?_)
              refine WP_iload_n dX11_keep_26 rfl ?_
              refine WQ_iadd dX11_keep_27 (by omega) (by omega) (fun v2587 hv2587 => ?_)
              refine WP_aload_n dX11_keep_28 rfl ?_
              refine WP_getr dX11_keep_29 fX11_283 rfl (ly_is hy 0 11 rfl) (rf hr 0 59 38 (by decide)) ?_
              refine WP_iload_n dX11_keep_32 rfl ?_
              refine WQ_ialdu dX11_keep_33 (ly_is hy 38 13 rfl) (ly_n hy 38 35 rfl) (by omega) (by omega) (fun v2588 => ?_)
              refine WQ_iast dX11_keep_34 (ly_is hy 42 13 rfl) (ly_n hy 42 105 rfl) (by omega) (by omega) (fun I2589 eI2589 => ?_)
              have hI2589 : MP g n L I2589 := by rw [eI2589]; exact (mp_w hy hI2555 (c := 42) (mi_rr hy hI2555.1 (c := 42) (43) (66) (0) (0) (0) (by decide) (Or.inl (by decide)) (by rw [cl (n := v2587.toInt.toNat) (by omega)]; omega) (by decide) (fun h => absurd h (by decide))) (by decide) (by decide) (Or.inl (by decide)))
              have e2590 : I2589 (ad g 0) 1 = L := by rw [eI2589, pp_ne _ _ (Or.inl (ly_ne hy (by decide) (by decide) (by decide)))]; exact e2558
              clear eI2589
              refine WP_iinc (ls' := [(0, _), (1, _), (2, _)]) dX11_keep_35 rfl (by decide) rfl ?_
              have hv2591 : (i2554 + Int32.ofInt (1)).toInt = i2554.toInt + (1) := ia_n rfl (by omega) (by omega)
              generalize i2554 + Int32.ofInt (1) = v2591 at hv2591 ⊢
              refine WP_goto 12 dX11_keep_38 rfl ?_
              exact WP_sub (fc rfl (fc rfl (fc rfl fn))) (ihlp12_2556 v2591 I2589 J2556 hI2589 (by omega) (by omega) (by omega))
            · refine WP_aload_n dX11_keep_18 rfl ?_
              refine WP_getr dX11_keep_19 fX11_295 rfl (ly_is hy 0 11 rfl) (rf hr 0 65 42 (by decide)) ?_
              refine WQ_bipush (35) (35) dX11_keep_22 rfl rfl (fun v2592 hv2592 => ?_)
              refine WP_iload_n dX11_keep_24 rfl ?_
              refine WQ_imulK (35) dX11_keep_25 hv2592 (by omega) (by omega) (fun v2593 hv2593 => ?_)
              refine WP_iload_n dX11_keep_26 rfl ?_
              refine WQ_iadd dX11_keep_27 (by omega) (by omega) (fun v2594 hv2594 => ?_)
              refine WP_aload_n dX11_keep_28 rfl ?_
              refine WP_getr dX11_keep_29 fX11_283 rfl (ly_is hy 0 11 rfl) (rf hr 0 59 38 (by decide)) ?_
              refine WP_iload_n dX11_keep_32 rfl ?_
              refine WQ_ialdr dX11_keep_33 (ly_is hy 38 13 rfl) (ly_n hy 38 35 rfl) (by omega) (by omega) (a := 32) (b := 33) (by omega) (by omega) (fun q hq1 hq2 => BT_get hI2555.1.1 38 32 33 (0) (23760) (0) (by decide) q hq1 hq2) (fun v2595 av2595 bv2595 => ?_)
              refine WQ_iast dX11_keep_34 (ly_is hy 42 13 rfl) (ly_n hy 42 105 rfl) (by omega) (by omega) (fun I2596 eI2596 => ?_)
              have hI2596 : MP g n L I2596 := by rw [eI2596]; exact (mp_w hy hI2555 (c := 42) (mi_rr hy hI2555.1 (c := 42) (67) (67) (0) (23760) (0) (by decide) (Or.inl (by decide)) (by rw [cl (n := v2594.toInt.toNat) (by omega)]; omega) (by decide) (fun _ => ⟨by omega, by omega⟩)) (by decide) (by decide) (Or.inl (by decide)))
              have e2597 : I2596 (ad g 0) 1 = L := by rw [eI2596, pp_ne _ _ (Or.inl (ly_ne hy (by decide) (by decide) (by decide)))]; exact e2558
              clear eI2596
              refine WP_iinc (ls' := [(0, _), (1, _), (2, _)]) dX11_keep_35 rfl (by decide) rfl ?_
              have hv2598 : (i2554 + Int32.ofInt (1)).toInt = i2554.toInt + (1) := ia_n rfl (by omega) (by omega)
              generalize i2554 + Int32.ofInt (1) = v2598 at hv2598 ⊢
              refine WP_goto 12 dX11_keep_38 rfl ?_
              exact WP_sub (fc rfl (fc rfl (fc rfl fn))) (ihlp12_2556 v2598 I2596 J2556 hI2596 (by omega) (by omega) (by omega))
            · refine WP_aload_n dX11_keep_18 rfl ?_
              refine WP_getr dX11_keep_19 fX11_295 rfl (ly_is hy 0 11 rfl) (rf hr 0 65 42 (by decide)) ?_
              refine WQ_bipush (35) (35) dX11_keep_22 rfl rfl (fun v2599 hv2599 => ?_)
              refine WP_iload_n dX11_keep_24 rfl ?_
              refine WQ_imulK (35) dX11_keep_25 hv2599 (by omega) (by omega) (fun v2600 hv2600 => ?_)
              refine WP_iload_n dX11_keep_26 rfl ?_
              refine WQ_iadd dX11_keep_27 (by omega) (by omega) (fun v2601 hv2601 => ?_)
              refine WP_aload_n dX11_keep_28 rfl ?_
              refine WP_getr dX11_keep_29 fX11_283 rfl (ly_is hy 0 11 rfl) (rf hr 0 59 38 (by decide)) ?_
              refine WP_iload_n dX11_keep_32 rfl ?_
              refine WQ_ialdr dX11_keep_33 (ly_is hy 38 13 rfl) (ly_n hy 38 35 rfl) (by omega) (by omega) (a := 33) (b := 34) (by omega) (by omega) (fun q hq1 hq2 => BT_get hI2555.1.1 38 33 34 (0) (1) (0) (by decide) q hq1 hq2) (fun v2602 av2602 bv2602 => ?_)
              refine WQ_iast dX11_keep_34 (ly_is hy 42 13 rfl) (ly_n hy 42 105 rfl) (by omega) (by omega) (fun I2603 eI2603 => ?_)
              have hI2603 : MP g n L I2603 := by rw [eI2603]; exact (mp_w hy hI2555 (c := 42) (mi_rr hy hI2555.1 (c := 42) (68) (68) (0) (1) (0) (by decide) (Or.inl (by decide)) (by rw [cl (n := v2601.toInt.toNat) (by omega)]; omega) (by decide) (fun _ => ⟨by omega, by omega⟩)) (by decide) (by decide) (Or.inl (by decide)))
              have e2604 : I2603 (ad g 0) 1 = L := by rw [eI2603, pp_ne _ _ (Or.inl (ly_ne hy (by decide) (by decide) (by decide)))]; exact e2558
              clear eI2603
              refine WP_iinc (ls' := [(0, _), (1, _), (2, _)]) dX11_keep_35 rfl (by decide) rfl ?_
              have hv2605 : (i2554 + Int32.ofInt (1)).toInt = i2554.toInt + (1) := ia_n rfl (by omega) (by omega)
              generalize i2554 + Int32.ofInt (1) = v2605 at hv2605 ⊢
              refine WP_goto 12 dX11_keep_38 rfl ?_
              exact WP_sub (fc rfl (fc rfl (fc rfl fn))) (ihlp12_2556 v2605 I2603 J2556 hI2603 (by omega) (by omega) (by omega))
            · refine WP_aload_n dX11_keep_18 rfl ?_
              refine WP_getr dX11_keep_19 fX11_295 rfl (ly_is hy 0 11 rfl) (rf hr 0 65 42 (by decide)) ?_
              refine WQ_bipush (35) (35) dX11_keep_22 rfl rfl (fun v2606 hv2606 => ?_)
              refine WP_iload_n dX11_keep_24 rfl ?_
              refine WQ_imulK (35) dX11_keep_25 hv2606 (by omega) (by omega) (fun v2607 hv2607 => ?_)
              refine WP_iload_n dX11_keep_26 rfl ?_
              refine WQ_iadd dX11_keep_27 (by omega) (by omega) (fun v2608 hv2608 => ?_)
              refine WP_aload_n dX11_keep_28 rfl ?_
              refine WP_getr dX11_keep_29 fX11_283 rfl (ly_is hy 0 11 rfl) (rf hr 0 59 38 (by decide)) ?_
              refine WP_iload_n dX11_keep_32 rfl ?_
              refine WQ_ialdu dX11_keep_33 (ly_is hy 38 13 rfl) (ly_n hy 38 35 rfl) (by omega) (by omega) (fun v2609 => ?_)
              refine WQ_iast dX11_keep_34 (ly_is hy 42 13 rfl) (ly_n hy 42 105 rfl) (by omega) (by omega) (fun I2610 eI2610 => ?_)
              have hI2610 : MP g n L I2610 := by rw [eI2610]; exact (mp_w hy hI2555 (c := 42) (mi_rr hy hI2555.1 (c := 42) (69) (69) (0) (0) (0) (by decide) (Or.inl (by decide)) (by rw [cl (n := v2608.toInt.toNat) (by omega)]; omega) (by decide) (fun h => absurd h (by decide))) (by decide) (by decide) (Or.inl (by decide)))
              have e2611 : I2610 (ad g 0) 1 = L := by rw [eI2610, pp_ne _ _ (Or.inl (ly_ne hy (by decide) (by decide) (by decide)))]; exact e2558
              clear eI2610
              refine WP_iinc (ls' := [(0, _), (1, _), (2, _)]) dX11_keep_35 rfl (by decide) rfl ?_
              have hv2612 : (i2554 + Int32.ofInt (1)).toInt = i2554.toInt + (1) := ia_n rfl (by omega) (by omega)
              generalize i2554 + Int32.ofInt (1) = v2612 at hv2612 ⊢
              refine WP_goto 12 dX11_keep_38 rfl ?_
              exact WP_sub (fc rfl (fc rfl (fc rfl fn))) (ihlp12_2556 v2612 I2610 J2556 hI2610 (by omega) (by omega) (by omega))
      exact WP_sub (fc rfl (fc rfl (fc rfl fn))) (lp12_2556 _ v2553 I J hI (by omega) (by omega) (Nat.lt_succ_self _))
    · refine WQ_iconst (0) (0) dX11_keep_10 rfl rfl (fun v2613 hv2613 => ?_)
      refine WP_istore_n (ls' := [(0, _), (1, _), (2, _)]) dX11_keep_11 (by decide) rfl ?_
      have lp12_2616 : ∀ (mz : Nat) (i2614 : Int32) (I2615 : pI) (J2616 : pJ), MP g n L I2615 → 0 ≤ i2614.toInt → i2614.toInt ≤ 35 → (36 - i2614.toInt).toNat < mz → WP g mX11_keep 12 [(0, .ref (ad g 0)), (1, .int a), (2, .int i2614)] [] I2615 J2616 R (fun r I' J' R' => (MP g n L I' ∧ R' = R) ∧ ∃ v : Int32, r = some (.int v)) := by
        intro mz
        induction mz with
        | zero =>
          intro i2614 I2615 J2616 hI2615 ai2614 bi2614 hmlp12_2616
          exact absurd hmlp12_2616 (Nat.not_lt_zero _)
        | succ mz ihlp12_2616 =>
          intro i2614 I2615 J2616 hI2615 ai2614 bi2614 hmlp12_2616
          have e2618 : I2615 (ad g 0) 1 = L := hI2615.1.2
          have b2619 := BT_get hI2615.1.1 0 1 2 (0) (0) (900) (by decide) 1 (by decide) (by decide)
          rw [e2618] at b2619
          refine WP_iload_n dX11_keep_12 rfl ?_
          refine WQ_bipush (35) (35) dX11_keep_13 rfl rfl (fun v2620 hv2620 => ?_)
          refine WQ_icmp_ge 41 dX11_keep_15 rfl (fun c2620 => ?_) (fun c2620 => ?_)
          · refine WP_aload_n dX11_keep_41 rfl ?_
            refine WP_getr dX11_keep_42 fX11_298 rfl (ly_is hy 0 11 rfl) (rf hr 0 66 43 (by decide)) ?_
            refine WP_iload_n dX11_keep_45 rfl ?_
            refine WP_aload_n dX11_keep_46 rfl ?_
            refine WQ_getl dX11_keep_47 fX11_346 rfl (ly_is hy 0 11 rfl) (fun l2622 el2622 => ?_)
            refine WQ_last dX11_keep_50 (ly_is hy 43 14 rfl) (ly_n hy 43 3 rfl) (by omega) (by omega) (fun J2623 eJ2623 => ?_)
            clear eJ2623
            refine WP_aload_n dX11_keep_51 rfl ?_
            refine WP_getr dX11_keep_52 fX11_301 rfl (ly_is hy 0 11 rfl) (rf hr 0 67 44 (by decide)) ?_
            refine WP_iload_n dX11_keep_55 rfl ?_
            refine WQ_iconst (1) (1) dX11_keep_56 rfl rfl (fun v2624 hv2624 => ?_)
            refine WQ_zast dX11_keep_57 (ly_is hy 44 15 rfl) (ly_n hy 44 3 rfl) (by omega) (by omega) (fun I2625 v2626 eI2625 => ?_)
            have hI2625 : MP g n L I2625 := by rw [eI2625]; exact (mp_w hy hI2615 (c := 44) (mi_r0 hy hI2615.1 (c := 44) (by decide) (Or.inl (by decide)) (by decide)) (by decide) (by decide) (Or.inl (by decide)))
            have e2627 : I2625 (ad g 0) 1 = L := by rw [eI2625, pp_ne _ _ (Or.inl (ly_ne hy (by decide) (by decide) (by decide)))]; exact e2618
            clear eI2625
            refine WP_aload_n dX11_keep_58 rfl ?_
            refine WP_getr dX11_keep_59 fX11_283 rfl (ly_is hy 0 11 rfl) (rf hr 0 59 38 (by decide)) ?_
            refine WQ_bipush (33) (33) dX11_keep_62 rfl rfl (fun v2628 hv2628 => ?_)
            refine WQ_ialdr dX11_keep_64 (ly_is hy 38 13 rfl) (ly_n hy 38 35 rfl) (by omega) (by omega) (a := 33) (b := 34) (by omega) (by omega) (fun q hq1 hq2 => BT_get hI2625.1.1 38 33 34 (0) (1) (0) (by decide) q hq1 hq2) (fun v2629 av2629 bv2629 => ?_)
            exact WP_iret dX11_keep_65 rfl ⟨⟨hI2625, rfl⟩, _, rfl⟩
          · rcases (show (0 ≤ i2614.toInt ∧ i2614.toInt ≤ 3) ∨ (4 ≤ i2614.toInt ∧ i2614.toInt ≤ 7) ∨ (8 ≤ i2614.toInt ∧ i2614.toInt ≤ 31) ∨ (32 ≤ i2614.toInt ∧ i2614.toInt ≤ 32) ∨ (33 ≤ i2614.toInt ∧ i2614.toInt ≤ 33) ∨ (34 ≤ i2614.toInt ∧ i2614.toInt ≤ 34) by omega) with ⟨k2630_0, k2630_1⟩ | ⟨k2630_2, k2630_3⟩ | ⟨k2630_4, k2630_5⟩ | ⟨k2630_6, k2630_7⟩ | ⟨k2630_8, k2630_9⟩ | ⟨k2630_10, k2630_11⟩
            · refine WP_aload_n dX11_keep_18 rfl ?_
              refine WP_getr dX11_keep_19 fX11_295 rfl (ly_is hy 0 11 rfl) (rf hr 0 65 42 (by decide)) ?_
              refine WQ_bipush (35) (35) dX11_keep_22 rfl rfl (fun v2631 hv2631 => ?_)
              refine WP_iload_n dX11_keep_24 rfl ?_
              refine WQ_imulK (35) dX11_keep_25 hv2631 (by omega) (by omega) (fun v2632 hv2632 => ?_)
              refine WP_iload_n dX11_keep_26 rfl ?_
              refine WQ_iadd dX11_keep_27 (by omega) (by omega) (fun v2633 hv2633 => ?_)
              refine WP_aload_n dX11_keep_28 rfl ?_
              refine WP_getr dX11_keep_29 fX11_283 rfl (ly_is hy 0 11 rfl) (rf hr 0 59 38 (by decide)) ?_
              refine WP_iload_n dX11_keep_32 rfl ?_
              refine WQ_ialdr dX11_keep_33 (ly_is hy 38 13 rfl) (ly_n hy 38 35 rfl) (by omega) (by omega) (a := 0) (b := 4) (by omega) (by omega) (fun q hq1 hq2 => BT_get hI2615.1.1 38 0 4 (0) (0) (60) (by decide) q hq1 hq2) (fun v2634 av2634 bv2634 => ?_)
              refine WQ_iast dX11_keep_34 (ly_is hy 42 13 rfl) (ly_n hy 42 105 rfl) (by omega) (by omega) (fun I2635 eI2635 => ?_)
              have hI2635 : MP g n L I2635 := by rw [eI2635]; exact (mp_w hy hI2615 (c := 42) (mi_rr hy hI2615.1 (c := 42) (70) (73) (0) (0) (60) (by decide) (Or.inl (by decide)) (by rw [cl (n := v2633.toInt.toNat) (by omega)]; omega) (by decide) (fun _ => ⟨by omega, by omega⟩)) (by decide) (by decide) (Or.inl (by decide)))
              have e2636 : I2635 (ad g 0) 1 = L := by rw [eI2635, pp_ne _ _ (Or.inl (ly_ne hy (by decide) (by decide) (by decide)))]; exact e2618
              clear eI2635
              refine WP_iinc (ls' := [(0, _), (1, _), (2, _)]) dX11_keep_35 rfl (by decide) rfl ?_
              have hv2637 : (i2614 + Int32.ofInt (1)).toInt = i2614.toInt + (1) := ia_n rfl (by omega) (by omega)
              generalize i2614 + Int32.ofInt (1) = v2637 at hv2637 ⊢
              refine WP_goto 12 dX11_keep_38 rfl ?_
              exact WP_sub (fc rfl (fc rfl (fc rfl fn))) (ihlp12_2616 v2637 I2635 J2616 hI2635 (by omega) (by omega) (by omega))
            · refine WP_aload_n dX11_keep_18 rfl ?_
              refine WP_getr dX11_keep_19 fX11_295 rfl (ly_is hy 0 11 rfl) (rf hr 0 65 42 (by decide)) ?_
              refine WQ_bipush (35) (35) dX11_keep_22 rfl rfl (fun v2638 hv2638 => ?_)
              refine WP_iload_n dX11_keep_24 rfl ?_
              refine WQ_imulK (35) dX11_keep_25 hv2638 (by omega) (by omega) (fun v2639 hv2639 => ?_)
              refine WP_iload_n dX11_keep_26 rfl ?_
              refine WQ_iadd dX11_keep_27 (by omega) (by omega) (fun v2640 hv2640 => ?_)
              refine WP_aload_n dX11_keep_28 rfl ?_
              refine WP_getr dX11_keep_29 fX11_283 rfl (ly_is hy 0 11 rfl) (rf hr 0 59 38 (by decide)) ?_
              refine WP_iload_n dX11_keep_32 rfl ?_
              refine WQ_ialdr dX11_keep_33 (ly_is hy 38 13 rfl) (ly_n hy 38 35 rfl) (by omega) (by omega) (a := 4) (b := 8) (by omega) (by omega) (fun q hq1 hq2 => BT_get hI2615.1.1 38 4 8 (0) (0) (5) (by decide) q hq1 hq2) (fun v2641 av2641 bv2641 => ?_)
              refine WQ_iast dX11_keep_34 (ly_is hy 42 13 rfl) (ly_n hy 42 105 rfl) (by omega) (by omega) (fun I2642 eI2642 => ?_)
              have hI2642 : MP g n L I2642 := by rw [eI2642]; exact (mp_w hy hI2615 (c := 42) (mi_rr hy hI2615.1 (c := 42) (74) (77) (0) (0) (5) (by decide) (Or.inl (by decide)) (by rw [cl (n := v2640.toInt.toNat) (by omega)]; omega) (by decide) (fun _ => ⟨by omega, by omega⟩)) (by decide) (by decide) (Or.inl (by decide)))
              have e2643 : I2642 (ad g 0) 1 = L := by rw [eI2642, pp_ne _ _ (Or.inl (ly_ne hy (by decide) (by decide) (by decide)))]; exact e2618
              clear eI2642
              refine WP_iinc (ls' := [(0, _), (1, _), (2, _)]) dX11_keep_35 rfl (by decide) rfl ?_
              have hv2644 : (i2614 + Int32.ofInt (1)).toInt = i2614.toInt + (1) := ia_n rfl (by omega) (by omega)
              generalize i2614 + Int32.ofInt (1) = v2644 at hv2644 ⊢
              refine WP_goto 12 dX11_keep_38 rfl ?_
              exact WP_sub (fc rfl (fc rfl (fc rfl fn))) (ihlp12_2616 v2644 I2642 J2616 hI2642 (by omega) (by omega) (by omega))
            · refine WP_aload_n dX11_keep_18 rfl ?_
              refine WP_getr dX11_keep_19 fX11_295 rfl (ly_is hy 0 11 rfl) (rf hr 0 65 42 (by decide)) ?_
              refine WQ_bipush (35) (35) dX11_keep_22 rfl rfl (fun v2645 hv2645 => ?_)
              refine WP_iload_n dX11_keep_24 rfl ?_
              refine WQ_imulK (35) dX11_keep_25 hv2645 (by omega) (by omega) (fun v2646 hv2646 => ?_)
              refine WP_iload_n dX11_keep_26 rfl ?_
              refine WQ_iadd dX11_keep_27 (by omega) (by omega) (fun v2647 hv2647 => ?_)
              refine WP_aload_n dX11_keep_28 rfl ?_
              refine WP_getr dX11_keep_29 fX11_283 rfl (ly_is hy 0 11 rfl) (rf hr 0 59 38 (by decide)) ?_
              refine WP_iload_n dX11_keep_32 rfl ?_
              refine WQ_ialdu dX11_keep_33 (ly_is hy 38 13 rfl) (ly_n hy 38 35 rfl) (by omega) (by omega) (fun v2648 => ?_)
              refine WQ_iast dX11_keep_34 (ly_is hy 42 13 rfl) (ly_n hy 42 105 rfl) (by omega) (by omega) (fun I2649 eI2649 => ?_)
              have hI2649 : MP g n L I2649 := by rw [eI2649]; exact (mp_w hy hI2615 (c := 42) (mi_rr hy hI2615.1 (c := 42) (78) (101) (0) (0) (0) (by decide) (Or.inl (by decide)) (by rw [cl (n := v2647.toInt.toNat) (by omega)]; omega) (by decide) (fun h => absurd h (by decide))) (by decide) (by decide) (Or.inl (by decide)))
              have e2650 : I2649 (ad g 0) 1 = L := by rw [eI2649, pp_ne _ _ (Or.inl (ly_ne hy (by decide) (by decide) (by decide)))]; exact e2618
              clear eI2649
              refine WP_iinc (ls' := [(0, _), (1, _), (2, _)]) dX11_keep_35 rfl (by decide) rfl ?_
              have hv2651 : (i2614 + Int32.ofInt (1)).toInt = i2614.toInt + (1) := ia_n rfl (by omega) (by omega)
              generalize i2614 + Int32.ofInt (1) = v2651 at hv2651 ⊢
              refine WP_goto 12 dX11_keep_38 rfl ?_
              exact WP_sub (fc rfl (fc rfl (fc rfl fn))) (ihlp12_2616 v2651 I2649 J2616 hI2649 (by omega) (by omega) (by omega))
            · refine WP_aload_n dX11_keep_18 rfl ?_
              refine WP_getr dX11_keep_19 fX11_295 rfl (ly_is hy 0 11 rfl) (rf hr 0 65 42 (by decide)) ?_
              refine WQ_bipush (35) (35) dX11_keep_22 rfl rfl (fun v2652 hv2652 => ?_)
              refine WP_iload_n dX11_keep_24 rfl ?_
              refine WQ_imulK (35) dX11_keep_25 hv2652 (by omega) (by omega) (fun v2653 hv2653 => ?_)
              refine WP_iload_n dX11_keep_26 rfl ?_
              refine WQ_iadd dX11_keep_27 (by omega) (by omega) (fun v2654 hv2654 => ?_)
              refine WP_aload_n dX11_keep_28 rfl ?_
              refine WP_getr dX11_keep_29 fX11_283 rfl (ly_is hy 0 11 rfl) (rf hr 0 59 38 (by decide)) ?_
              refine WP_iload_n dX11_keep_32 rfl ?_
              refine WQ_ialdr dX11_keep_33 (ly_is hy 38 13 rfl) (ly_n hy 38 35 rfl) (by omega) (by omega) (a := 32) (b := 33) (by omega) (by omega) (fun q hq1 hq2 => BT_get hI2615.1.1 38 32 33 (0) (23760) (0) (by decide) q hq1 hq2) (fun v2655 av2655 bv2655 => ?_)
              refine WQ_iast dX11_keep_34 (ly_is hy 42 13 rfl) (ly_n hy 42 105 rfl) (by omega) (by omega) (fun I2656 eI2656 => ?_)
              have hI2656 : MP g n L I2656 := by rw [eI2656]; exact (mp_w hy hI2615 (c := 42) (mi_rr hy hI2615.1 (c := 42) (102) (102) (0) (23760) (0) (by decide) (Or.inl (by decide)) (by rw [cl (n := v2654.toInt.toNat) (by omega)]; omega) (by decide) (fun _ => ⟨by omega, by omega⟩)) (by decide) (by decide) (Or.inl (by decide)))
              have e2657 : I2656 (ad g 0) 1 = L := by rw [eI2656, pp_ne _ _ (Or.inl (ly_ne hy (by decide) (by decide) (by decide)))]; exact e2618
              clear eI2656
              refine WP_iinc (ls' := [(0, _), (1, _), (2, _)]) dX11_keep_35 rfl (by decide) rfl ?_
              have hv2658 : (i2614 + Int32.ofInt (1)).toInt = i2614.toInt + (1) := ia_n rfl (by omega) (by omega)
              generalize i2614 + Int32.ofInt (1) = v2658 at hv2658 ⊢
              refine WP_goto 12 dX11_keep_38 rfl ?_
              exact WP_sub (fc rfl (fc rfl (fc rfl fn))) (ihlp12_2616 v2658 I2656 J2616 hI2656 (by omega) (by omega) (by omega))
            · refine WP_aload_n dX11_keep_18 rfl ?_
              refine WP_getr dX11_keep_19 fX11_295 rfl (ly_is hy 0 11 rfl) (rf hr 0 65 42 (by decide)) ?_
              refine WQ_bipush (35) (35) dX11_keep_22 rfl rfl (fun v2659 hv2659 => ?_)
              refine WP_iload_n dX11_keep_24 rfl ?_
              refine WQ_imulK (35) dX11_keep_25 hv2659 (by omega) (by omega) (fun v2660 hv2660 => ?_)
              refine WP_iload_n dX11_keep_26 rfl ?_
              refine WQ_iadd dX11_keep_27 (by omega) (by omega) (fun v2661 hv2661 => ?_)
              refine WP_aload_n dX11_keep_28 rfl ?_
              refine WP_getr dX11_keep_29 fX11_283 rfl (ly_is hy 0 11 rfl) (rf hr 0 59 38 (by decide)) ?_
              refine WP_iload_n dX11_keep_32 rfl ?_
              refine WQ_ialdr dX11_keep_33 (ly_is hy 38 13 rfl) (ly_n hy 38 35 rfl) (by omega) (by omega) (a := 33) (b := 34) (by omega) (by omega) (fun q hq1 hq2 => BT_get hI2615.1.1 38 33 34 (0) (1) (0) (by decide) q hq1 hq2) (fun v2662 av2662 bv2662 => ?_)
              refine WQ_iast dX11_keep_34 (ly_is hy 42 13 rfl) (ly_n hy 42 105 rfl) (by omega) (by omega) (fun I2663 eI2663 => ?_)
              have hI2663 : MP g n L I2663 := by rw [eI2663]; exact (mp_w hy hI2615 (c := 42) (mi_rr hy hI2615.1 (c := 42) (103) (103) (0) (1) (0) (by decide) (Or.inl (by decide)) (by rw [cl (n := v2661.toInt.toNat) (by omega)]; omega) (by decide) (fun _ => ⟨by omega, by omega⟩)) (by decide) (by decide) (Or.inl (by decide)))
              have e2664 : I2663 (ad g 0) 1 = L := by rw [eI2663, pp_ne _ _ (Or.inl (ly_ne hy (by decide) (by decide) (by decide)))]; exact e2618
              clear eI2663
              refine WP_iinc (ls' := [(0, _), (1, _), (2, _)]) dX11_keep_35 rfl (by decide) rfl ?_
              have hv2665 : (i2614 + Int32.ofInt (1)).toInt = i2614.toInt + (1) := ia_n rfl (by omega) (by omega)
              generalize i2614 + Int32.ofInt (1) = v2665 at hv2665 ⊢
              refine WP_goto 12 dX11_keep_38 rfl ?_
              exact WP_sub (fc rfl (fc rfl (fc rfl fn))) (ihlp12_2616 v2665 I2663 J2616 hI2663 (by omega) (by omega) (by omega))
            · refine WP_aload_n dX11_keep_18 rfl ?_
              refine WP_getr dX11_keep_19 fX11_295 rfl (ly_is hy 0 11 rfl) (rf hr 0 65 42 (by decide)) ?_
              refine WQ_bipush (35) (35) dX11_keep_22 rfl rfl (fun v2666 hv2666 => ?_)
              refine WP_iload_n dX11_keep_24 rfl ?_
              refine WQ_imulK (35) dX11_keep_25 hv2666 (by omega) (by omega) (fun v2667 hv2667 => ?_)
              refine WP_iload_n dX11_keep_26 rfl ?_
              refine WQ_iadd dX11_keep_27 (by omega) (by omega) (fun v2668 hv2668 => ?_)
              refine WP_aload_n dX11_keep_28 rfl ?_
              refine WP_getr dX11_keep_29 fX11_283 rfl (ly_is hy 0 11 rfl) (rf hr 0 59 38 (by decide)) ?_
              refine WP_iload_n dX11_keep_32 rfl ?_
              refine WQ_ialdu dX11_keep_33 (ly_is hy 38 13 rfl) (ly_n hy 38 35 rfl) (by omega) (by omega) (fun v2669 => ?_)
              refine WQ_iast dX11_keep_34 (ly_is hy 42 13 rfl) (ly_n hy 42 105 rfl) (by omega) (by omega) (fun I2670 eI2670 => ?_)
              have hI2670 : MP g n L I2670 := by rw [eI2670]; exact (mp_w hy hI2615 (c := 42) (mi_rr hy hI2615.1 (c := 42) (104) (104) (0) (0) (0) (by decide) (Or.inl (by decide)) (by rw [cl (n := v2668.toInt.toNat) (by omega)]; omega) (by decide) (fun h => absurd h (by decide))) (by decide) (by decide) (Or.inl (by decide)))
              have e2671 : I2670 (ad g 0) 1 = L := by rw [eI2670, pp_ne _ _ (Or.inl (ly_ne hy (by decide) (by decide) (by decide)))]; exact e2618
              clear eI2670
              refine WP_iinc (ls' := [(0, _), (1, _), (2, _)]) dX11_keep_35 rfl (by decide) rfl ?_
              have hv2672 : (i2614 + Int32.ofInt (1)).toInt = i2614.toInt + (1) := ia_n rfl (by omega) (by omega)
              generalize i2614 + Int32.ofInt (1) = v2672 at hv2672 ⊢
              refine WP_goto 12 dX11_keep_38 rfl ?_
              exact WP_sub (fc rfl (fc rfl (fc rfl fn))) (ihlp12_2616 v2672 I2670 J2616 hI2670 (by omega) (by omega) (by omega))
      exact WP_sub (fc rfl (fc rfl (fc rfl fn))) (lp12_2616 _ v2613 I J hI (by omega) (by omega) (Nat.lt_succ_self _))
  · refine WQ_bipush (-2) (-2) dX11_keep_7 rfl rfl (fun v2673 hv2673 => ?_)
    exact WP_iret dX11_keep_9 rfl ⟨⟨hI, rfl⟩, _, rfl⟩
set_option maxHeartbeats 4000000 in
set_option maxRecDepth 100000 in
theorem sm_take {g : GG} {n : Int} {L : Int32} (hy : Ly g)  {I : pI} {J : pJ} {R : pR} (hr : Rf g R) (hI : MP g n L I) (a : Int32)  : SP g mX11_take [.ref (ad g 0), .int a] I J R (fun r I' J' R' => (MP g n L I' ∧ R' = R) ∧ ∃ v : Int32, r = some (.int v)) := by
  refine SP_of ⟨by decide, rfl⟩ (Nat.le_of_ble_eq_true rfl) ?_
  have e2674 : I (ad g 0) 1 = L := hI.1.2
  have b2675 := BT_get hI.1.1 0 1 2 (0) (0) (900) (by decide) 1 (by decide) (by decide)
  rw [e2674] at b2675
  refine WP_iload_n dX11_take_0 rfl ?_
  refine WP_callS1 dX11_take_1 ⟨⟨⟨by decide, by decide⟩, zX11_isSlot⟩, lX11_494, tX11_isSlot⟩ (sm_isSlot hy hr hI a ) (Nat.le_of_ble_eq_true rfl) ?_
  intro r Ia Ja Ra hq
  obtain ⟨⟨ea, eb, ec⟩, v2676, rfl, av2676, bv2676, cv2676⟩ := hq
  show WP _ _ _ _ (.int _ :: _) _ _ _ _
  rw [ea, eb, ec]
  clear ea eb ec Ia Ja Ra
  refine WQ_if_ne 10 dX11_take_4 rfl (fun c2676 => ?_) (fun c2676 => ?_)
  · refine WP_aload_n dX11_take_10 rfl ?_
    refine WP_getr dX11_take_11 fX11_301 rfl (ly_is hy 0 11 rfl) (rf hr 0 67 44 (by decide)) ?_
    refine WP_iload_n dX11_take_14 rfl ?_
    refine WQ_zaldu dX11_take_15 (ly_is hy 44 15 rfl) (ly_n hy 44 3 rfl) (by omega) (by omega) (fun v2678 => ?_)
    refine WQ_if_ne 22 dX11_take_16 rfl (fun c2678 => ?_) (fun c2678 => ?_)
    · rcases (show (0 ≤ a.toInt ∧ a.toInt ≤ 0) ∨ (1 ≤ a.toInt ∧ a.toInt ≤ 1) ∨ (2 ≤ a.toInt ∧ a.toInt ≤ 2) by omega) with ⟨k2680_0, k2680_1⟩ | ⟨k2680_2, k2680_3⟩ | ⟨k2680_4, k2680_5⟩
      · refine WQ_iconst (0) (0) dX11_take_22 rfl rfl (fun v2681 hv2681 => ?_)
        refine WP_istore_n (ls' := [(0, _), (1, _), (2, _)]) dX11_take_23 (by decide) rfl ?_
        have lp24_2684 : ∀ (mz : Nat) (i2682 : Int32) (I2683 : pI) (J2684 : pJ), MP g n L I2683 → 0 ≤ i2682.toInt → i2682.toInt ≤ 35 → (36 - i2682.toInt).toNat < mz → WP g mX11_take 24 [(0, .ref (ad g 0)), (1, .int a), (2, .int i2682)] [] I2683 J2684 R (fun r I' J' R' => (MP g n L I' ∧ R' = R) ∧ ∃ v : Int32, r = some (.int v)) := by
          intro mz
          induction mz with
          | zero =>
            intro i2682 I2683 J2684 hI2683 ai2682 bi2682 hmlp24_2684
            exact absurd hmlp24_2684 (Nat.not_lt_zero _)
          | succ mz ihlp24_2684 =>
            intro i2682 I2683 J2684 hI2683 ai2682 bi2682 hmlp24_2684
            have e2686 : I2683 (ad g 0) 1 = L := hI2683.1.2
            have b2687 := BT_get hI2683.1.1 0 1 2 (0) (0) (900) (by decide) 1 (by decide) (by decide)
            rw [e2686] at b2687
            refine WP_iload_n dX11_take_24 rfl ?_
            refine WQ_bipush (35) (35) dX11_take_25 rfl rfl (fun v2688 hv2688 => ?_)
            refine WQ_icmp_ge 53 dX11_take_27 rfl (fun c2688 => ?_) (fun c2688 => ?_)
            · refine WP_aload_n dX11_take_53 rfl ?_
              refine WP_aload_n dX11_take_54 rfl ?_
              refine WP_getr dX11_take_55 fX11_298 rfl (ly_is hy 0 11 rfl) (rf hr 0 66 43 (by decide)) ?_
              refine WP_iload_n dX11_take_58 rfl ?_
              refine WQ_laldu dX11_take_59 (ly_is hy 43 14 rfl) (ly_n hy 43 3 rfl) (by omega) (by omega) (fun l2690 => ?_)
              refine WQ_putl dX11_take_60 fX11_346 rfl rfl (ly_is hy 0 11 rfl) (fun J2691 eJ2691 => ?_)
              clear eJ2691
              refine WP_aload_n dX11_take_63 rfl ?_
              refine WP_getr dX11_take_64 fX11_283 rfl (ly_is hy 0 11 rfl) (rf hr 0 59 38 (by decide)) ?_
              refine WQ_bipush (33) (33) dX11_take_67 rfl rfl (fun v2692 hv2692 => ?_)
              refine WQ_ialdr dX11_take_69 (ly_is hy 38 13 rfl) (ly_n hy 38 35 rfl) (by omega) (by omega) (a := 33) (b := 34) (by omega) (by omega) (fun q hq1 hq2 => BT_get hI2683.1.1 38 33 34 (0) (1) (0) (by decide) q hq1 hq2) (fun v2693 av2693 bv2693 => ?_)
              exact WP_iret dX11_take_70 rfl ⟨⟨hI2683, rfl⟩, _, rfl⟩
            · rcases (show (0 ≤ i2682.toInt ∧ i2682.toInt ≤ 3) ∨ (4 ≤ i2682.toInt ∧ i2682.toInt ≤ 7) ∨ (8 ≤ i2682.toInt ∧ i2682.toInt ≤ 31) ∨ (32 ≤ i2682.toInt ∧ i2682.toInt ≤ 32) ∨ (33 ≤ i2682.toInt ∧ i2682.toInt ≤ 33) ∨ (34 ≤ i2682.toInt ∧ i2682.toInt ≤ 34) by omega) with ⟨k2694_0, k2694_1⟩ | ⟨k2694_2, k2694_3⟩ | ⟨k2694_4, k2694_5⟩ | ⟨k2694_6, k2694_7⟩ | ⟨k2694_8, k2694_9⟩ | ⟨k2694_10, k2694_11⟩
              · refine WP_aload_n dX11_take_30 rfl ?_
                refine WP_getr dX11_take_31 fX11_283 rfl (ly_is hy 0 11 rfl) (rf hr 0 59 38 (by decide)) ?_
                refine WP_iload_n dX11_take_34 rfl ?_
                refine WP_aload_n dX11_take_35 rfl ?_
                refine WP_getr dX11_take_36 fX11_295 rfl (ly_is hy 0 11 rfl) (rf hr 0 65 42 (by decide)) ?_
                refine WQ_bipush (35) (35) dX11_take_39 rfl rfl (fun v2695 hv2695 => ?_)
                refine WP_iload_n dX11_take_41 rfl ?_
                refine WQ_imulK (35) dX11_take_42 hv2695 (by omega) (by omega) (fun v2696 hv2696 => ?_)
                refine WP_iload_n dX11_take_43 rfl ?_
                refine WQ_iadd dX11_take_44 (by omega) (by omega) (fun v2697 hv2697 => ?_)
                refine WQ_ialdr dX11_take_45 (ly_is hy 42 13 rfl) (ly_n hy 42 105 rfl) (by omega) (by omega) (a := 0) (b := 4) (by omega) (by omega) (fun q hq1 hq2 => BT_get hI2683.1.1 42 0 4 (0) (0) (60) (by decide) q hq1 hq2) (fun v2698 av2698 bv2698 => ?_)
                refine WQ_iast dX11_take_46 (ly_is hy 38 13 rfl) (ly_n hy 38 35 rfl) (by omega) (by omega) (fun I2699 eI2699 => ?_)
                have hI2699 : MP g n L I2699 := by rw [eI2699]; exact (mp_w hy hI2683 (c := 38) (mi_rr hy hI2683.1 (c := 38) (0) (3) (0) (0) (60) (by decide) (Or.inl (by decide)) (by rw [cl (n := i2682.toInt.toNat) (by omega)]; omega) (by decide) (fun _ => ⟨by omega, by omega⟩)) (by decide) (by decide) (Or.inl (by decide)))
                have e2700 : I2699 (ad g 0) 1 = L := by rw [eI2699, pp_ne _ _ (Or.inl (ly_ne hy (by decide) (by decide) (by decide)))]; exact e2686
                clear eI2699
                refine WP_iinc (ls' := [(0, _), (1, _), (2, _)]) dX11_take_47 rfl (by decide) rfl ?_
                have hv2701 : (i2682 + Int32.ofInt (1)).toInt = i2682.toInt + (1) := ia_n rfl (by omega) (by omega)
                generalize i2682 + Int32.ofInt (1) = v2701 at hv2701 ⊢
                refine WP_goto 24 dX11_take_50 rfl ?_
                exact WP_sub (fc rfl (fc rfl (fc rfl fn))) (ihlp24_2684 v2701 I2699 J2684 hI2699 (by omega) (by omega) (by omega))
              · refine WP_aload_n dX11_take_30 rfl ?_
                refine WP_getr dX11_take_31 fX11_283 rfl (ly_is hy 0 11 rfl) (rf hr 0 59 38 (by decide)) ?_
                refine WP_iload_n dX11_take_34 rfl ?_
                refine WP_aload_n dX11_take_35 rfl ?_
                refine WP_getr dX11_take_36 fX11_295 rfl (ly_is hy 0 11 rfl) (rf hr 0 65 42 (by decide)) ?_
                refine WQ_bipush (35) (35) dX11_take_39 rfl rfl (fun v2702 hv2702 => ?_)
                refine WP_iload_n dX11_take_41 rfl ?_
                refine WQ_imulK (35) dX11_take_42 hv2702 (by omega) (by omega) (fun v2703 hv2703 => ?_)
                refine WP_iload_n dX11_take_43 rfl ?_
                refine WQ_iadd dX11_take_44 (by omega) (by omega) (fun v2704 hv2704 => ?_)
                refine WQ_ialdr dX11_take_45 (ly_is hy 42 13 rfl) (ly_n hy 42 105 rfl) (by omega) (by omega) (a := 4) (b := 8) (by omega) (by omega) (fun q hq1 hq2 => BT_get hI2683.1.1 42 4 8 (0) (0) (5) (by decide) q hq1 hq2) (fun v2705 av2705 bv2705 => ?_)
                refine WQ_iast dX11_take_46 (ly_is hy 38 13 rfl) (ly_n hy 38 35 rfl) (by omega) (by omega) (fun I2706 eI2706 => ?_)
                have hI2706 : MP g n L I2706 := by rw [eI2706]; exact (mp_w hy hI2683 (c := 38) (mi_rr hy hI2683.1 (c := 38) (4) (7) (0) (0) (5) (by decide) (Or.inl (by decide)) (by rw [cl (n := i2682.toInt.toNat) (by omega)]; omega) (by decide) (fun _ => ⟨by omega, by omega⟩)) (by decide) (by decide) (Or.inl (by decide)))
                have e2707 : I2706 (ad g 0) 1 = L := by rw [eI2706, pp_ne _ _ (Or.inl (ly_ne hy (by decide) (by decide) (by decide)))]; exact e2686
                clear eI2706
                refine WP_iinc (ls' := [(0, _), (1, _), (2, _)]) dX11_take_47 rfl (by decide) rfl ?_
                have hv2708 : (i2682 + Int32.ofInt (1)).toInt = i2682.toInt + (1) := ia_n rfl (by omega) (by omega)
                generalize i2682 + Int32.ofInt (1) = v2708 at hv2708 ⊢
                refine WP_goto 24 dX11_take_50 rfl ?_
                exact WP_sub (fc rfl (fc rfl (fc rfl fn))) (ihlp24_2684 v2708 I2706 J2684 hI2706 (by omega) (by omega) (by omega))
              · refine WP_aload_n dX11_take_30 rfl ?_
                refine WP_getr dX11_take_31 fX11_283 rfl (ly_is hy 0 11 rfl) (rf hr 0 59 38 (by decide)) ?_
                refine WP_iload_n dX11_take_34 rfl ?_
                refine WP_aload_n dX11_take_35 rfl ?_
                refine WP_getr dX11_take_36 fX11_295 rfl (ly_is hy 0 11 rfl) (rf hr 0 65 42 (by decide)) ?_
                refine WQ_bipush (35) (35) dX11_take_39 rfl rfl (fun v2709 hv2709 => ?_)
                refine WP_iload_n dX11_take_41 rfl ?_
                refine WQ_imulK (35) dX11_take_42 hv2709 (by omega) (by omega) (fun v2710 hv2710 => ?_)
                refine WP_iload_n dX11_take_43 rfl ?_
                refine WQ_iadd dX11_take_44 (by omega) (by omega) (fun v2711 hv2711 => ?_)
                refine WQ_ialdu dX11_take_45 (ly_is hy 42 13 rfl) (ly_n hy 42 105 rfl) (by omega) (by omega) (fun v2712 => ?_)
                refine WQ_iast dX11_take_46 (ly_is hy 38 13 rfl) (ly_n hy 38 35 rfl) (by omega) (by omega) (fun I2713 eI2713 => ?_)
                have hI2713 : MP g n L I2713 := by rw [eI2713]; exact (mp_w hy hI2683 (c := 38) (mi_rr hy hI2683.1 (c := 38) (8) (31) (0) (0) (0) (by decide) (Or.inl (by decide)) (by rw [cl (n := i2682.toInt.toNat) (by omega)]; omega) (by decide) (fun h => absurd h (by decide))) (by decide) (by decide) (Or.inl (by decide)))
                have e2714 : I2713 (ad g 0) 1 = L := by rw [eI2713, pp_ne _ _ (Or.inl (ly_ne hy (by decide) (by decide) (by decide)))]; exact e2686
                clear eI2713
                refine WP_iinc (ls' := [(0, _), (1, _), (2, _)]) dX11_take_47 rfl (by decide) rfl ?_
                have hv2715 : (i2682 + Int32.ofInt (1)).toInt = i2682.toInt + (1) := ia_n rfl (by omega) (by omega)
                generalize i2682 + Int32.ofInt (1) = v2715 at hv2715 ⊢
                refine WP_goto 24 dX11_take_50 rfl ?_
                exact WP_sub (fc rfl (fc rfl (fc rfl fn))) (ihlp24_2684 v2715 I2713 J2684 hI2713 (by omega) (by omega) (by omega))
              · refine WP_aload_n dX11_take_30 rfl ?_
                refine WP_getr dX11_take_31 fX11_283 rfl (ly_is hy 0 11 rfl) (rf hr 0 59 38 (by decide)) ?_
                refine WP_iload_n dX11_take_34 rfl ?_
                refine WP_aload_n dX11_take_35 rfl ?_
                refine WP_getr dX11_take_36 fX11_295 rfl (ly_is hy 0 11 rfl) (rf hr 0 65 42 (by decide)) ?_
                refine WQ_bipush (35) (35) dX11_take_39 rfl rfl (fun v2716 hv2716 => ?_)
                refine WP_iload_n dX11_take_41 rfl ?_
                refine WQ_imulK (35) dX11_take_42 hv2716 (by omega) (by omega) (fun v2717 hv2717 => ?_)
                refine WP_iload_n dX11_take_43 rfl ?_
                refine WQ_iadd dX11_take_44 (by omega) (by omega) (fun v2718 hv2718 => ?_)
                refine WQ_ialdr dX11_take_45 (ly_is hy 42 13 rfl) (ly_n hy 42 105 rfl) (by omega) (by omega) (a := 32) (b := 33) (by omega) (by omega) (fun q hq1 hq2 => BT_get hI2683.1.1 42 32 33 (0) (23760) (0) (by decide) q hq1 hq2) (fun v2719 av2719 bv2719 => ?_)
                refine WQ_iast dX11_take_46 (ly_is hy 38 13 rfl) (ly_n hy 38 35 rfl) (by omega) (by omega) (fun I2720 eI2720 => ?_)
                have hI2720 : MP g n L I2720 := by rw [eI2720]; exact (mp_w hy hI2683 (c := 38) (mi_rr hy hI2683.1 (c := 38) (32) (32) (0) (23760) (0) (by decide) (Or.inl (by decide)) (by rw [cl (n := i2682.toInt.toNat) (by omega)]; omega) (by decide) (fun _ => ⟨by omega, by omega⟩)) (by decide) (by decide) (Or.inl (by decide)))
                have e2721 : I2720 (ad g 0) 1 = L := by rw [eI2720, pp_ne _ _ (Or.inl (ly_ne hy (by decide) (by decide) (by decide)))]; exact e2686
                clear eI2720
                refine WP_iinc (ls' := [(0, _), (1, _), (2, _)]) dX11_take_47 rfl (by decide) rfl ?_
                have hv2722 : (i2682 + Int32.ofInt (1)).toInt = i2682.toInt + (1) := ia_n rfl (by omega) (by omega)
                generalize i2682 + Int32.ofInt (1) = v2722 at hv2722 ⊢
                refine WP_goto 24 dX11_take_50 rfl ?_
                exact WP_sub (fc rfl (fc rfl (fc rfl fn))) (ihlp24_2684 v2722 I2720 J2684 hI2720 (by omega) (by omega) (by omega))
              · refine WP_aload_n dX11_take_30 rfl ?_
                refine WP_getr dX11_take_31 fX11_283 rfl (ly_is hy 0 11 rfl) (rf hr 0 59 38 (by decide)) ?_
                refine WP_iload_n dX11_take_34 rfl ?_
                refine WP_aload_n dX11_take_35 rfl ?_
                refine WP_getr dX11_take_36 fX11_295 rfl (ly_is hy 0 11 rfl) (rf hr 0 65 42 (by decide)) ?_
                refine WQ_bipush (35) (35) dX11_take_39 rfl rfl (fun v2723 hv2723 => ?_)
                refine WP_iload_n dX11_take_41 rfl ?_
                refine WQ_imulK (35) dX11_take_42 hv2723 (by omega) (by omega) (fun v2724 hv2724 => ?_)
                refine WP_iload_n dX11_take_43 rfl ?_
                refine WQ_iadd dX11_take_44 (by omega) (by omega) (fun v2725 hv2725 => ?_)
                refine WQ_ialdr dX11_take_45 (ly_is hy 42 13 rfl) (ly_n hy 42 105 rfl) (by omega) (by omega) (a := 33) (b := 34) (by omega) (by omega) (fun q hq1 hq2 => BT_get hI2683.1.1 42 33 34 (0) (1) (0) (by decide) q hq1 hq2) (fun v2726 av2726 bv2726 => ?_)
                refine WQ_iast dX11_take_46 (ly_is hy 38 13 rfl) (ly_n hy 38 35 rfl) (by omega) (by omega) (fun I2727 eI2727 => ?_)
                have hI2727 : MP g n L I2727 := by rw [eI2727]; exact (mp_w hy hI2683 (c := 38) (mi_rr hy hI2683.1 (c := 38) (33) (33) (0) (1) (0) (by decide) (Or.inl (by decide)) (by rw [cl (n := i2682.toInt.toNat) (by omega)]; omega) (by decide) (fun _ => ⟨by omega, by omega⟩)) (by decide) (by decide) (Or.inl (by decide)))
                have e2728 : I2727 (ad g 0) 1 = L := by rw [eI2727, pp_ne _ _ (Or.inl (ly_ne hy (by decide) (by decide) (by decide)))]; exact e2686
                clear eI2727
                refine WP_iinc (ls' := [(0, _), (1, _), (2, _)]) dX11_take_47 rfl (by decide) rfl ?_
                have hv2729 : (i2682 + Int32.ofInt (1)).toInt = i2682.toInt + (1) := ia_n rfl (by omega) (by omega)
                generalize i2682 + Int32.ofInt (1) = v2729 at hv2729 ⊢
                refine WP_goto 24 dX11_take_50 rfl ?_
                exact WP_sub (fc rfl (fc rfl (fc rfl fn))) (ihlp24_2684 v2729 I2727 J2684 hI2727 (by omega) (by omega) (by omega))
              · refine WP_aload_n dX11_take_30 rfl ?_
                refine WP_getr dX11_take_31 fX11_283 rfl (ly_is hy 0 11 rfl) (rf hr 0 59 38 (by decide)) ?_
                refine WP_iload_n dX11_take_34 rfl ?_
                refine WP_aload_n dX11_take_35 rfl ?_
                refine WP_getr dX11_take_36 fX11_295 rfl (ly_is hy 0 11 rfl) (rf hr 0 65 42 (by decide)) ?_
                refine WQ_bipush (35) (35) dX11_take_39 rfl rfl (fun v2730 hv2730 => ?_)
                refine WP_iload_n dX11_take_41 rfl ?_
                refine WQ_imulK (35) dX11_take_42 hv2730 (by omega) (by omega) (fun v2731 hv2731 => ?_)
                refine WP_iload_n dX11_take_43 rfl ?_
                refine WQ_iadd dX11_take_44 (by omega) (by omega) (fun v2732 hv2732 => ?_)
                refine WQ_ialdu dX11_take_45 (ly_is hy 42 13 rfl) (ly_n hy 42 105 rfl) (by omega) (by omega) (fun v2733 => ?_)
                refine WQ_iast dX11_take_46 (ly_is hy 38 13 rfl) (ly_n hy 38 35 rfl) (by omega) (by omega) (fun I2734 eI2734 => ?_)
                have hI2734 : MP g n L I2734 := by rw [eI2734]; exact (mp_w hy hI2683 (c := 38) (mi_rr hy hI2683.1 (c := 38) (34) (34) (0) (0) (0) (by decide) (Or.inl (by decide)) (by rw [cl (n := i2682.toInt.toNat) (by omega)]; omega) (by decide) (fun h => absurd h (by decide))) (by decide) (by decide) (Or.inl (by decide)))
                have e2735 : I2734 (ad g 0) 1 = L := by rw [eI2734, pp_ne _ _ (Or.inl (ly_ne hy (by decide) (by decide) (by decide)))]; exact e2686
                clear eI2734
                refine WP_iinc (ls' := [(0, _), (1, _), (2, _)]) dX11_take_47 rfl (by decide) rfl ?_
                have hv2736 : (i2682 + Int32.ofInt (1)).toInt = i2682.toInt + (1) := ia_n rfl (by omega) (by omega)
                generalize i2682 + Int32.ofInt (1) = v2736 at hv2736 ⊢
                refine WP_goto 24 dX11_take_50 rfl ?_
                exact WP_sub (fc rfl (fc rfl (fc rfl fn))) (ihlp24_2684 v2736 I2734 J2684 hI2734 (by omega) (by omega) (by omega))
        exact WP_sub (fc rfl (fc rfl (fc rfl fn))) (lp24_2684 _ v2681 I J hI (by omega) (by omega) (Nat.lt_succ_self _))
      · refine WQ_iconst (0) (0) dX11_take_22 rfl rfl (fun v2737 hv2737 => ?_)
        refine WP_istore_n (ls' := [(0, _), (1, _), (2, _)]) dX11_take_23 (by decide) rfl ?_
        have lp24_2740 : ∀ (mz : Nat) (i2738 : Int32) (I2739 : pI) (J2740 : pJ), MP g n L I2739 → 0 ≤ i2738.toInt → i2738.toInt ≤ 35 → (36 - i2738.toInt).toNat < mz → WP g mX11_take 24 [(0, .ref (ad g 0)), (1, .int a), (2, .int i2738)] [] I2739 J2740 R (fun r I' J' R' => (MP g n L I' ∧ R' = R) ∧ ∃ v : Int32, r = some (.int v)) := by
          intro mz
          induction mz with
          | zero =>
            intro i2738 I2739 J2740 hI2739 ai2738 bi2738 hmlp24_2740
            exact absurd hmlp24_2740 (Nat.not_lt_zero _)
          | succ mz ihlp24_2740 =>
            intro i2738 I2739 J2740 hI2739 ai2738 bi2738 hmlp24_2740
            have e2742 : I2739 (ad g 0) 1 = L := hI2739.1.2
            have b2743 := BT_get hI2739.1.1 0 1 2 (0) (0) (900) (by decide) 1 (by decide) (by decide)
            rw [e2742] at b2743
            refine WP_iload_n dX11_take_24 rfl ?_
            refine WQ_bipush (35) (35) dX11_take_25 rfl rfl (fun v2744 hv2744 => ?_)
            refine WQ_icmp_ge 53 dX11_take_27 rfl (fun c2744 => ?_) (fun c2744 => ?_)
            · refine WP_aload_n dX11_take_53 rfl ?_
              refine WP_aload_n dX11_take_54 rfl ?_
              refine WP_getr dX11_take_55 fX11_298 rfl (ly_is hy 0 11 rfl) (rf hr 0 66 43 (by decide)) ?_
              refine WP_iload_n dX11_take_58 rfl ?_
              refine WQ_laldu dX11_take_59 (ly_is hy 43 14 rfl) (ly_n hy 43 3 rfl) (by omega) (by omega) (fun l2746 => ?_)
              refine WQ_putl dX11_take_60 fX11_346 rfl rfl (ly_is hy 0 11 rfl) (fun J2747 eJ2747 => ?_)
              clear eJ2747
              refine WP_aload_n dX11_take_63 rfl ?_
              refine WP_getr dX11_take_64 fX11_283 rfl (ly_is hy 0 11 rfl) (rf hr 0 59 38 (by decide)) ?_
              refine WQ_bipush (33) (33) dX11_take_67 rfl rfl (fun v2748 hv2748 => ?_)
              refine WQ_ialdr dX11_take_69 (ly_is hy 38 13 rfl) (ly_n hy 38 35 rfl) (by omega) (by omega) (a := 33) (b := 34) (by omega) (by omega) (fun q hq1 hq2 => BT_get hI2739.1.1 38 33 34 (0) (1) (0) (by decide) q hq1 hq2) (fun v2749 av2749 bv2749 => ?_)
              exact WP_iret dX11_take_70 rfl ⟨⟨hI2739, rfl⟩, _, rfl⟩
            · rcases (show (0 ≤ i2738.toInt ∧ i2738.toInt ≤ 3) ∨ (4 ≤ i2738.toInt ∧ i2738.toInt ≤ 7) ∨ (8 ≤ i2738.toInt ∧ i2738.toInt ≤ 31) ∨ (32 ≤ i2738.toInt ∧ i2738.toInt ≤ 32) ∨ (33 ≤ i2738.toInt ∧ i2738.toInt ≤ 33) ∨ (34 ≤ i2738.toInt ∧ i2738.toInt ≤ 34) by omega) with ⟨k2750_0, k2750_1⟩ | ⟨k2750_2, k2750_3⟩ | ⟨k2750_4, k2750_5⟩ | ⟨k2750_6, k2750_7⟩ | ⟨k2750_8, k2750_9⟩ | ⟨k2750_10, k2750_11⟩
              · refine WP_aload_n dX11_take_30 rfl ?_
                refine WP_getr dX11_take_31 fX11_283 rfl (ly_is hy 0 11 rfl) (rf hr 0 59 38 (by decide)) ?_
                refine WP_iload_n dX11_take_34 rfl ?_
                refine WP_aload_n dX11_take_35 rfl ?_
                refine WP_getr dX11_take_36 fX11_295 rfl (ly_is hy 0 11 rfl) (rf hr 0 65 42 (by decide)) ?_
                refine WQ_bipush (35) (35) dX11_take_39 rfl rfl (fun v2751 hv2751 => ?_)
                refine WP_iload_n dX11_take_41 rfl ?_
                refine WQ_imulK (35) dX11_take_42 hv2751 (by omega) (by omega) (fun v2752 hv2752 => ?_)
                refine WP_iload_n dX11_take_43 rfl ?_
                refine WQ_iadd dX11_take_44 (by omega) (by omega) (fun v2753 hv2753 => ?_)
                refine WQ_ialdr dX11_take_45 (ly_is hy 42 13 rfl) (ly_n hy 42 105 rfl) (by omega) (by omega) (a := 35) (b := 39) (by omega) (by omega) (fun q hq1 hq2 => BT_get hI2739.1.1 42 35 39 (0) (0) (60) (by decide) q hq1 hq2) (fun v2754 av2754 bv2754 => ?_)
                refine WQ_iast dX11_take_46 (ly_is hy 38 13 rfl) (ly_n hy 38 35 rfl) (by omega) (by omega) (fun I2755 eI2755 => ?_)
                have hI2755 : MP g n L I2755 := by rw [eI2755]; exact (mp_w hy hI2739 (c := 38) (mi_rr hy hI2739.1 (c := 38) (0) (3) (0) (0) (60) (by decide) (Or.inl (by decide)) (by rw [cl (n := i2738.toInt.toNat) (by omega)]; omega) (by decide) (fun _ => ⟨by omega, by omega⟩)) (by decide) (by decide) (Or.inl (by decide)))
                have e2756 : I2755 (ad g 0) 1 = L := by rw [eI2755, pp_ne _ _ (Or.inl (ly_ne hy (by decide) (by decide) (by decide)))]; exact e2742
                clear eI2755
                refine WP_iinc (ls' := [(0, _), (1, _), (2, _)]) dX11_take_47 rfl (by decide) rfl ?_
                have hv2757 : (i2738 + Int32.ofInt (1)).toInt = i2738.toInt + (1) := ia_n rfl (by omega) (by omega)
                generalize i2738 + Int32.ofInt (1) = v2757 at hv2757 ⊢
                refine WP_goto 24 dX11_take_50 rfl ?_
                exact WP_sub (fc rfl (fc rfl (fc rfl fn))) (ihlp24_2740 v2757 I2755 J2740 hI2755 (by omega) (by omega) (by omega))
              · refine WP_aload_n dX11_take_30 rfl ?_
                refine WP_getr dX11_take_31 fX11_283 rfl (ly_is hy 0 11 rfl) (rf hr 0 59 38 (by decide)) ?_
                refine WP_iload_n dX11_take_34 rfl ?_
                refine WP_aload_n dX11_take_35 rfl ?_
                refine WP_getr dX11_take_36 fX11_295 rfl (ly_is hy 0 11 rfl) (rf hr 0 65 42 (by decide)) ?_
                refine WQ_bipush (35) (35) dX11_take_39 rfl rfl (fun v2758 hv2758 => ?_)
                refine WP_iload_n dX11_take_41 rfl ?_
                refine WQ_imulK (35) dX11_take_42 hv2758 (by omega) (by omega) (fun v2759 hv2759 => ?_)
                refine WP_iload_n dX11_take_43 rfl ?_
                refine WQ_iadd dX11_take_44 (by omega) (by omega) (fun v2760 hv2760 => ?_)
                refine WQ_ialdr dX11_take_45 (ly_is hy 42 13 rfl) (ly_n hy 42 105 rfl) (by omega) (by omega) (a := 39) (b := 43) (by omega) (by omega) (fun q hq1 hq2 => BT_get hI2739.1.1 42 39 43 (0) (0) (5) (by decide) q hq1 hq2) (fun v2761 av2761 bv2761 => ?_)
                refine WQ_iast dX11_take_46 (ly_is hy 38 13 rfl) (ly_n hy 38 35 rfl) (by omega) (by omega) (fun I2762 eI2762 => ?_)
                have hI2762 : MP g n L I2762 := by rw [eI2762]; exact (mp_w hy hI2739 (c := 38) (mi_rr hy hI2739.1 (c := 38) (4) (7) (0) (0) (5) (by decide) (Or.inl (by decide)) (by rw [cl (n := i2738.toInt.toNat) (by omega)]; omega) (by decide) (fun _ => ⟨by omega, by omega⟩)) (by decide) (by decide) (Or.inl (by decide)))
                have e2763 : I2762 (ad g 0) 1 = L := by rw [eI2762, pp_ne _ _ (Or.inl (ly_ne hy (by decide) (by decide) (by decide)))]; exact e2742
                clear eI2762
                refine WP_iinc (ls' := [(0, _), (1, _), (2, _)]) dX11_take_47 rfl (by decide) rfl ?_
                have hv2764 : (i2738 + Int32.ofInt (1)).toInt = i2738.toInt + (1) := ia_n rfl (by omega) (by omega)
                generalize i2738 + Int32.ofInt (1) = v2764 at hv2764 ⊢
                refine WP_goto 24 dX11_take_50 rfl ?_
                exact WP_sub (fc rfl (fc rfl (fc rfl fn))) (ihlp24_2740 v2764 I2762 J2740 hI2762 (by omega) (by omega) (by omega))
              · refine WP_aload_n dX11_take_30 rfl ?_
                refine WP_getr dX11_take_31 fX11_283 rfl (ly_is hy 0 11 rfl) (rf hr 0 59 38 (by decide)) ?_
                refine WP_iload_n dX11_take_34 rfl ?_
                refine WP_aload_n dX11_take_35 rfl ?_
                refine WP_getr dX11_take_36 fX11_295 rfl (ly_is hy 0 11 rfl) (rf hr 0 65 42 (by decide)) ?_
                refine WQ_bipush (35) (35) dX11_take_39 rfl rfl (fun v2765 hv2765 => ?_)
                refine WP_iload_n dX11_take_41 rfl ?_
                refine WQ_imulK (35) dX11_take_42 hv2765 (by omega) (by omega) (fun v2766 hv2766 => ?_)
                refine WP_iload_n dX11_take_43 rfl ?_
                refine WQ_iadd dX11_take_44 (by omega) (by omega) (fun v2767 hv2767 => ?_)
                refine WQ_ialdu dX11_take_45 (ly_is hy 42 13 rfl) (ly_n hy 42 105 rfl) (by omega) (by omega) (fun v2768 => ?_)
                refine WQ_iast dX11_take_46 (ly_is hy 38 13 rfl) (ly_n hy 38 35 rfl) (by omega) (by omega) (fun I2769 eI2769 => ?_)
                have hI2769 : MP g n L I2769 := by rw [eI2769]; exact (mp_w hy hI2739 (c := 38) (mi_rr hy hI2739.1 (c := 38) (8) (31) (0) (0) (0) (by decide) (Or.inl (by decide)) (by rw [cl (n := i2738.toInt.toNat) (by omega)]; omega) (by decide) (fun h => absurd h (by decide))) (by decide) (by decide) (Or.inl (by decide)))
                have e2770 : I2769 (ad g 0) 1 = L := by rw [eI2769, pp_ne _ _ (Or.inl (ly_ne hy (by decide) (by decide) (by decide)))]; exact e2742
                clear eI2769
                refine WP_iinc (ls' := [(0, _), (1, _), (2, _)]) dX11_take_47 rfl (by decide) rfl ?_
                have hv2771 : (i2738 + Int32.ofInt (1)).toInt = i2738.toInt + (1) := ia_n rfl (by omega) (by omega)
                generalize i2738 + Int32.ofInt (1) = v2771 at hv2771 ⊢
                refine WP_goto 24 dX11_take_50 rfl ?_
                exact WP_sub (fc rfl (fc rfl (fc rfl fn))) (ihlp24_2740 v2771 I2769 J2740 hI2769 (by omega) (by omega) (by omega))
              · refine WP_aload_n dX11_take_30 rfl ?_
                refine WP_getr dX11_take_31 fX11_283 rfl (ly_is hy 0 11 rfl) (rf hr 0 59 38 (by decide)) ?_
                refine WP_iload_n dX11_take_34 rfl ?_
                refine WP_aload_n dX11_take_35 rfl ?_
                refine WP_getr dX11_take_36 fX11_295 rfl (ly_is hy 0 11 rfl) (rf hr 0 65 42 (by decide)) ?_
                refine WQ_bipush (35) (35) dX11_take_39 rfl rfl (fun v2772 hv2772 => ?_)
                refine WP_iload_n dX11_take_41 rfl ?_
                refine WQ_imulK (35) dX11_take_42 hv2772 (by omega) (by omega) (fun v2773 hv2773 => ?_)
                refine WP_iload_n dX11_take_43 rfl ?_
                refine WQ_iadd dX11_take_44 (by omega) (by omega) (fun v2774 hv2774 => ?_)
                refine WQ_ialdr dX11_take_45 (ly_is hy 42 13 rfl) (ly_n hy 42 105 rfl) (by omega) (by omega) (a := 67) (b := 68) (by omega) (by omega) (fun q hq1 hq2 => BT_get hI2739.1.1 42 67 68 (0) (23760) (0) (by decide) q hq1 hq2) (fun v2775 av2775 bv2775 => ?_)
                refine WQ_iast dX11_take_46 (ly_is hy 38 13 rfl) (ly_n hy 38 35 rfl) (by omega) (by omega) (fun I2776 eI2776 => ?_)
                have hI2776 : MP g n L I2776 := by rw [eI2776]; exact (mp_w hy hI2739 (c := 38) (mi_rr hy hI2739.1 (c := 38) (32) (32) (0) (23760) (0) (by decide) (Or.inl (by decide)) (by rw [cl (n := i2738.toInt.toNat) (by omega)]; omega) (by decide) (fun _ => ⟨by omega, by omega⟩)) (by decide) (by decide) (Or.inl (by decide)))
                have e2777 : I2776 (ad g 0) 1 = L := by rw [eI2776, pp_ne _ _ (Or.inl (ly_ne hy (by decide) (by decide) (by decide)))]; exact e2742
                clear eI2776
                refine WP_iinc (ls' := [(0, _), (1, _), (2, _)]) dX11_take_47 rfl (by decide) rfl ?_
                have hv2778 : (i2738 + Int32.ofInt (1)).toInt = i2738.toInt + (1) := ia_n rfl (by omega) (by omega)
                generalize i2738 + Int32.ofInt (1) = v2778 at hv2778 ⊢
                refine WP_goto 24 dX11_take_50 rfl ?_
                exact WP_sub (fc rfl (fc rfl (fc rfl fn))) (ihlp24_2740 v2778 I2776 J2740 hI2776 (by omega) (by omega) (by omega))
              · refine WP_aload_n dX11_take_30 rfl ?_
                refine WP_getr dX11_take_31 fX11_283 rfl (ly_is hy 0 11 rfl) (rf hr 0 59 38 (by decide)) ?_
                refine WP_iload_n dX11_take_34 rfl ?_
                refine WP_aload_n dX11_take_35 rfl ?_
                refine WP_getr dX11_take_36 fX11_295 rfl (ly_is hy 0 11 rfl) (rf hr 0 65 42 (by decide)) ?_
                refine WQ_bipush (35) (35) dX11_take_39 rfl rfl (fun v2779 hv2779 => ?_)
                refine WP_iload_n dX11_take_41 rfl ?_
                refine WQ_imulK (35) dX11_take_42 hv2779 (by omega) (by omega) (fun v2780 hv2780 => ?_)
                refine WP_iload_n dX11_take_43 rfl ?_
                refine WQ_iadd dX11_take_44 (by omega) (by omega) (fun v2781 hv2781 => ?_)
                refine WQ_ialdr dX11_take_45 (ly_is hy 42 13 rfl) (ly_n hy 42 105 rfl) (by omega) (by omega) (a := 68) (b := 69) (by omega) (by omega) (fun q hq1 hq2 => BT_get hI2739.1.1 42 68 69 (0) (1) (0) (by decide) q hq1 hq2) (fun v2782 av2782 bv2782 => ?_)
                refine WQ_iast dX11_take_46 (ly_is hy 38 13 rfl) (ly_n hy 38 35 rfl) (by omega) (by omega) (fun I2783 eI2783 => ?_)
                have hI2783 : MP g n L I2783 := by rw [eI2783]; exact (mp_w hy hI2739 (c := 38) (mi_rr hy hI2739.1 (c := 38) (33) (33) (0) (1) (0) (by decide) (Or.inl (by decide)) (by rw [cl (n := i2738.toInt.toNat) (by omega)]; omega) (by decide) (fun _ => ⟨by omega, by omega⟩)) (by decide) (by decide) (Or.inl (by decide)))
                have e2784 : I2783 (ad g 0) 1 = L := by rw [eI2783, pp_ne _ _ (Or.inl (ly_ne hy (by decide) (by decide) (by decide)))]; exact e2742
                clear eI2783
                refine WP_iinc (ls' := [(0, _), (1, _), (2, _)]) dX11_take_47 rfl (by decide) rfl ?_
                have hv2785 : (i2738 + Int32.ofInt (1)).toInt = i2738.toInt + (1) := ia_n rfl (by omega) (by omega)
                generalize i2738 + Int32.ofInt (1) = v2785 at hv2785 ⊢
                refine WP_goto 24 dX11_take_50 rfl ?_
                exact WP_sub (fc rfl (fc rfl (fc rfl fn))) (ihlp24_2740 v2785 I2783 J2740 hI2783 (by omega) (by omega) (by omega))
              · refine WP_aload_n dX11_take_30 rfl ?_
                refine WP_getr dX11_take_31 fX11_283 rfl (ly_is hy 0 11 rfl) (rf hr 0 59 38 (by decide)) ?_
                refine WP_iload_n dX11_take_34 rfl ?_
                refine WP_aload_n dX11_take_35 rfl ?_
                refine WP_getr dX11_take_36 fX11_295 rfl (ly_is hy 0 11 rfl) (rf hr 0 65 42 (by decide)) ?_
                refine WQ_bipush (35) (35) dX11_take_39 rfl rfl (fun v2786 hv2786 => ?_)
                refine WP_iload_n dX11_take_41 rfl ?_
                refine WQ_imulK (35) dX11_take_42 hv2786 (by omega) (by omega) (fun v2787 hv2787 => ?_)
                refine WP_iload_n dX11_take_43 rfl ?_
                refine WQ_iadd dX11_take_44 (by omega) (by omega) (fun v2788 hv2788 => ?_)
                refine WQ_ialdu dX11_take_45 (ly_is hy 42 13 rfl) (ly_n hy 42 105 rfl) (by omega) (by omega) (fun v2789 => ?_)
                refine WQ_iast dX11_take_46 (ly_is hy 38 13 rfl) (ly_n hy 38 35 rfl) (by omega) (by omega) (fun I2790 eI2790 => ?_)
                have hI2790 : MP g n L I2790 := by rw [eI2790]; exact (mp_w hy hI2739 (c := 38) (mi_rr hy hI2739.1 (c := 38) (34) (34) (0) (0) (0) (by decide) (Or.inl (by decide)) (by rw [cl (n := i2738.toInt.toNat) (by omega)]; omega) (by decide) (fun h => absurd h (by decide))) (by decide) (by decide) (Or.inl (by decide)))
                have e2791 : I2790 (ad g 0) 1 = L := by rw [eI2790, pp_ne _ _ (Or.inl (ly_ne hy (by decide) (by decide) (by decide)))]; exact e2742
                clear eI2790
                refine WP_iinc (ls' := [(0, _), (1, _), (2, _)]) dX11_take_47 rfl (by decide) rfl ?_
                have hv2792 : (i2738 + Int32.ofInt (1)).toInt = i2738.toInt + (1) := ia_n rfl (by omega) (by omega)
                generalize i2738 + Int32.ofInt (1) = v2792 at hv2792 ⊢
                refine WP_goto 24 dX11_take_50 rfl ?_
                exact WP_sub (fc rfl (fc rfl (fc rfl fn))) (ihlp24_2740 v2792 I2790 J2740 hI2790 (by omega) (by omega) (by omega))
        exact WP_sub (fc rfl (fc rfl (fc rfl fn))) (lp24_2740 _ v2737 I J hI (by omega) (by omega) (Nat.lt_succ_self _))
      · refine WQ_iconst (0) (0) dX11_take_22 rfl rfl (fun v2793 hv2793 => ?_)
        refine WP_istore_n (ls' := [(0, _), (1, _), (2, _)]) dX11_take_23 (by decide) rfl ?_
        have lp24_2796 : ∀ (mz : Nat) (i2794 : Int32) (I2795 : pI) (J2796 : pJ), MP g n L I2795 → 0 ≤ i2794.toInt → i2794.toInt ≤ 35 → (36 - i2794.toInt).toNat < mz → WP g mX11_take 24 [(0, .ref (ad g 0)), (1, .int a), (2, .int i2794)] [] I2795 J2796 R (fun r I' J' R' => (MP g n L I' ∧ R' = R) ∧ ∃ v : Int32, r = some (.int v)) := by
          intro mz
          induction mz with
          | zero =>
            intro i2794 I2795 J2796 hI2795 ai2794 bi2794 hmlp24_2796
            exact absurd hmlp24_2796 (Nat.not_lt_zero _)
          | succ mz ihlp24_2796 =>
            intro i2794 I2795 J2796 hI2795 ai2794 bi2794 hmlp24_2796
            have e2798 : I2795 (ad g 0) 1 = L := hI2795.1.2
            have b2799 := BT_get hI2795.1.1 0 1 2 (0) (0) (900) (by decide) 1 (by decide) (by decide)
            rw [e2798] at b2799
            refine WP_iload_n dX11_take_24 rfl ?_
            refine WQ_bipush (35) (35) dX11_take_25 rfl rfl (fun v2800 hv2800 => ?_)
            refine WQ_icmp_ge 53 dX11_take_27 rfl (fun c2800 => ?_) (fun c2800 => ?_)
            · refine WP_aload_n dX11_take_53 rfl ?_
              refine WP_aload_n dX11_take_54 rfl ?_
              refine WP_getr dX11_take_55 fX11_298 rfl (ly_is hy 0 11 rfl) (rf hr 0 66 43 (by decide)) ?_
              refine WP_iload_n dX11_take_58 rfl ?_
              refine WQ_laldu dX11_take_59 (ly_is hy 43 14 rfl) (ly_n hy 43 3 rfl) (by omega) (by omega) (fun l2802 => ?_)
              refine WQ_putl dX11_take_60 fX11_346 rfl rfl (ly_is hy 0 11 rfl) (fun J2803 eJ2803 => ?_)
              clear eJ2803
              refine WP_aload_n dX11_take_63 rfl ?_
              refine WP_getr dX11_take_64 fX11_283 rfl (ly_is hy 0 11 rfl) (rf hr 0 59 38 (by decide)) ?_
              refine WQ_bipush (33) (33) dX11_take_67 rfl rfl (fun v2804 hv2804 => ?_)
              refine WQ_ialdr dX11_take_69 (ly_is hy 38 13 rfl) (ly_n hy 38 35 rfl) (by omega) (by omega) (a := 33) (b := 34) (by omega) (by omega) (fun q hq1 hq2 => BT_get hI2795.1.1 38 33 34 (0) (1) (0) (by decide) q hq1 hq2) (fun v2805 av2805 bv2805 => ?_)
              exact WP_iret dX11_take_70 rfl ⟨⟨hI2795, rfl⟩, _, rfl⟩
            · rcases (show (0 ≤ i2794.toInt ∧ i2794.toInt ≤ 3) ∨ (4 ≤ i2794.toInt ∧ i2794.toInt ≤ 7) ∨ (8 ≤ i2794.toInt ∧ i2794.toInt ≤ 31) ∨ (32 ≤ i2794.toInt ∧ i2794.toInt ≤ 32) ∨ (33 ≤ i2794.toInt ∧ i2794.toInt ≤ 33) ∨ (34 ≤ i2794.toInt ∧ i2794.toInt ≤ 34) by omega) with ⟨k2806_0, k2806_1⟩ | ⟨k2806_2, k2806_3⟩ | ⟨k2806_4, k2806_5⟩ | ⟨k2806_6, k2806_7⟩ | ⟨k2806_8, k2806_9⟩ | ⟨k2806_10, k2806_11⟩
              · refine WP_aload_n dX11_take_30 rfl ?_
                refine WP_getr dX11_take_31 fX11_283 rfl (ly_is hy 0 11 rfl) (rf hr 0 59 38 (by decide)) ?_
                refine WP_iload_n dX11_take_34 rfl ?_
                refine WP_aload_n dX11_take_35 rfl ?_
                refine WP_getr dX11_take_36 fX11_295 rfl (ly_is hy 0 11 rfl) (rf hr 0 65 42 (by decide)) ?_
                refine WQ_bipush (35) (35) dX11_take_39 rfl rfl (fun v2807 hv2807 => ?_)
                refine WP_iload_n dX11_take_41 rfl ?_
                refine WQ_imulK (35) dX11_take_42 hv2807 (by omega) (by omega) (fun v2808 hv2808 => ?_)
                refine WP_iload_n dX11_take_43 rfl ?_
                refine WQ_iadd dX11_take_44 (by omega) (by omega) (fun v2809 hv2809 => ?_)
                refine WQ_ialdr dX11_take_45 (ly_is hy 42 13 rfl) (ly_n hy 42 105 rfl) (by omega) (by omega) (a := 70) (b := 74) (by omega) (by omega) (fun q hq1 hq2 => BT_get hI2795.1.1 42 70 74 (0) (0) (60) (by decide) q hq1 hq2) (fun v2810 av2810 bv2810 => ?_)
                refine WQ_iast dX11_take_46 (ly_is hy 38 13 rfl) (ly_n hy 38 35 rfl) (by omega) (by omega) (fun I2811 eI2811 => ?_)
                have hI2811 : MP g n L I2811 := by rw [eI2811]; exact (mp_w hy hI2795 (c := 38) (mi_rr hy hI2795.1 (c := 38) (0) (3) (0) (0) (60) (by decide) (Or.inl (by decide)) (by rw [cl (n := i2794.toInt.toNat) (by omega)]; omega) (by decide) (fun _ => ⟨by omega, by omega⟩)) (by decide) (by decide) (Or.inl (by decide)))
                have e2812 : I2811 (ad g 0) 1 = L := by rw [eI2811, pp_ne _ _ (Or.inl (ly_ne hy (by decide) (by decide) (by decide)))]; exact e2798
                clear eI2811
                refine WP_iinc (ls' := [(0, _), (1, _), (2, _)]) dX11_take_47 rfl (by decide) rfl ?_
                have hv2813 : (i2794 + Int32.ofInt (1)).toInt = i2794.toInt + (1) := ia_n rfl (by omega) (by omega)
                generalize i2794 + Int32.ofInt (1) = v2813 at hv2813 ⊢
                refine WP_goto 24 dX11_take_50 rfl ?_
                exact WP_sub (fc rfl (fc rfl (fc rfl fn))) (ihlp24_2796 v2813 I2811 J2796 hI2811 (by omega) (by omega) (by omega))
              · refine WP_aload_n dX11_take_30 rfl ?_
                refine WP_getr dX11_take_31 fX11_283 rfl (ly_is hy 0 11 rfl) (rf hr 0 59 38 (by decide)) ?_
                refine WP_iload_n dX11_take_34 rfl ?_
                refine WP_aload_n dX11_take_35 rfl ?_
                refine WP_getr dX11_take_36 fX11_295 rfl (ly_is hy 0 11 rfl) (rf hr 0 65 42 (by decide)) ?_
                refine WQ_bipush (35) (35) dX11_take_39 rfl rfl (fun v2814 hv2814 => ?_)
                refine WP_iload_n dX11_take_41 rfl ?_
                refine WQ_imulK (35) dX11_take_42 hv2814 (by omega) (by omega) (fun v2815 hv2815 => ?_)
                refine WP_iload_n dX11_take_43 rfl ?_
                refine WQ_iadd dX11_take_44 (by omega) (by omega) (fun v2816 hv2816 => ?_)
                refine WQ_ialdr dX11_take_45 (ly_is hy 42 13 rfl) (ly_n hy 42 105 rfl) (by omega) (by omega) (a := 74) (b := 78) (by omega) (by omega) (fun q hq1 hq2 => BT_get hI2795.1.1 42 74 78 (0) (0) (5) (by decide) q hq1 hq2) (fun v2817 av2817 bv2817 => ?_)
                refine WQ_iast dX11_take_46 (ly_is hy 38 13 rfl) (ly_n hy 38 35 rfl) (by omega) (by omega) (fun I2818 eI2818 => ?_)
                have hI2818 : MP g n L I2818 := by rw [eI2818]; exact (mp_w hy hI2795 (c := 38) (mi_rr hy hI2795.1 (c := 38) (4) (7) (0) (0) (5) (by decide) (Or.inl (by decide)) (by rw [cl (n := i2794.toInt.toNat) (by omega)]; omega) (by decide) (fun _ => ⟨by omega, by omega⟩)) (by decide) (by decide) (Or.inl (by decide)))
                have e2819 : I2818 (ad g 0) 1 = L := by rw [eI2818, pp_ne _ _ (Or.inl (ly_ne hy (by decide) (by decide) (by decide)))]; exact e2798
                clear eI2818
                refine WP_iinc (ls' := [(0, _), (1, _), (2, _)]) dX11_take_47 rfl (by decide) rfl ?_
                have hv2820 : (i2794 + Int32.ofInt (1)).toInt = i2794.toInt + (1) := ia_n rfl (by omega) (by omega)
                generalize i2794 + Int32.ofInt (1) = v2820 at hv2820 ⊢
                refine WP_goto 24 dX11_take_50 rfl ?_
                exact WP_sub (fc rfl (fc rfl (fc rfl fn))) (ihlp24_2796 v2820 I2818 J2796 hI2818 (by omega) (by omega) (by omega))
              · refine WP_aload_n dX11_take_30 rfl ?_
                refine WP_getr dX11_take_31 fX11_283 rfl (ly_is hy 0 11 rfl) (rf hr 0 59 38 (by decide)) ?_
                refine WP_iload_n dX11_take_34 rfl ?_
                refine WP_aload_n dX11_take_35 rfl ?_
                refine WP_getr dX11_take_36 fX11_295 rfl (ly_is hy 0 11 rfl) (rf hr 0 65 42 (by decide)) ?_
                refine WQ_bipush (35) (35) dX11_take_39 rfl rfl (fun v2821 hv2821 => ?_)
                refine WP_iload_n dX11_take_41 rfl ?_
                refine WQ_imulK (35) dX11_take_42 hv2821 (by omega) (by omega) (fun v2822 hv2822 => ?_)
                refine WP_iload_n dX11_take_43 rfl ?_
                refine WQ_iadd dX11_take_44 (by omega) (by omega) (fun v2823 hv2823 => ?_)
                refine WQ_ialdu dX11_take_45 (ly_is hy 42 13 rfl) (ly_n hy 42 105 rfl) (by omega) (by omega) (fun v2824 => ?_)
                refine WQ_iast dX11_take_46 (ly_is hy 38 13 rfl) (ly_n hy 38 35 rfl) (by omega) (by omega) (fun I2825 eI2825 => ?_)
                have hI2825 : MP g n L I2825 := by rw [eI2825]; exact (mp_w hy hI2795 (c := 38) (mi_rr hy hI2795.1 (c := 38) (8) (31) (0) (0) (0) (by decide) (Or.inl (by decide)) (by rw [cl (n := i2794.toInt.toNat) (by omega)]; omega) (by decide) (fun h => absurd h (by decide))) (by decide) (by decide) (Or.inl (by decide)))
                have e2826 : I2825 (ad g 0) 1 = L := by rw [eI2825, pp_ne _ _ (Or.inl (ly_ne hy (by decide) (by decide) (by decide)))]; exact e2798
                clear eI2825
                refine WP_iinc (ls' := [(0, _), (1, _), (2, _)]) dX11_take_47 rfl (by decide) rfl ?_
                have hv2827 : (i2794 + Int32.ofInt (1)).toInt = i2794.toInt + (1) := ia_n rfl (by omega) (by omega)
                generalize i2794 + Int32.ofInt (1) = v2827 at hv2827 ⊢
                refine WP_goto 24 dX11_take_50 rfl ?_
                exact WP_sub (fc rfl (fc rfl (fc rfl fn))) (ihlp24_2796 v2827 I2825 J2796 hI2825 (by omega) (by omega) (by omega))
              · refine WP_aload_n dX11_take_30 rfl ?_
                refine WP_getr dX11_take_31 fX11_283 rfl (ly_is hy 0 11 rfl) (rf hr 0 59 38 (by decide)) ?_
                refine WP_iload_n dX11_take_34 rfl ?_
                refine WP_aload_n dX11_take_35 rfl ?_
                refine WP_getr dX11_take_36 fX11_295 rfl (ly_is hy 0 11 rfl) (rf hr 0 65 42 (by decide)) ?_
                refine WQ_bipush (35) (35) dX11_take_39 rfl rfl (fun v2828 hv2828 => ?_)
                refine WP_iload_n dX11_take_41 rfl ?_
                refine WQ_imulK (35) dX11_take_42 hv2828 (by omega) (by omega) (fun v2829 hv2829 => ?_)
                refine WP_iload_n dX11_take_43 rfl ?_
                refine WQ_iadd dX11_take_44 (by omega) (by omega) (fun v2830 hv2830 => ?_)
                refine WQ_ialdr dX11_take_45 (ly_is hy 42 13 rfl) (ly_n hy 42 105 rfl) (by omega) (by omega) (a := 102) (b := 103) (by omega) (by omega) (fun q hq1 hq2 => BT_get hI2795.1.1 42 102 103 (0) (23760) (0) (by decide) q hq1 hq2) (fun v2831 av2831 bv2831 => ?_)
                refine WQ_iast dX11_take_46 (ly_is hy 38 13 rfl) (ly_n hy 38 35 rfl) (by omega) (by omega) (fun I2832 eI2832 => ?_)
                have hI2832 : MP g n L I2832 := by rw [eI2832]; exact (mp_w hy hI2795 (c := 38) (mi_rr hy hI2795.1 (c := 38) (32) (32) (0) (23760) (0) (by decide) (Or.inl (by decide)) (by rw [cl (n := i2794.toInt.toNat) (by omega)]; omega) (by decide) (fun _ => ⟨by omega, by omega⟩)) (by decide) (by decide) (Or.inl (by decide)))
                have e2833 : I2832 (ad g 0) 1 = L := by rw [eI2832, pp_ne _ _ (Or.inl (ly_ne hy (by decide) (by decide) (by decide)))]; exact e2798
                clear eI2832
                refine WP_iinc (ls' := [(0, _), (1, _), (2, _)]) dX11_take_47 rfl (by decide) rfl ?_
                have hv2834 : (i2794 + Int32.ofInt (1)).toInt = i2794.toInt + (1) := ia_n rfl (by omega) (by omega)
                generalize i2794 + Int32.ofInt (1) = v2834 at hv2834 ⊢
                refine WP_goto 24 dX11_take_50 rfl ?_
                exact WP_sub (fc rfl (fc rfl (fc rfl fn))) (ihlp24_2796 v2834 I2832 J2796 hI2832 (by omega) (by omega) (by omega))
              · refine WP_aload_n dX11_take_30 rfl ?_
                refine WP_getr dX11_take_31 fX11_283 rfl (ly_is hy 0 11 rfl) (rf hr 0 59 38 (by decide)) ?_
                refine WP_iload_n dX11_take_34 rfl ?_
                refine WP_aload_n dX11_take_35 rfl ?_
                refine WP_getr dX11_take_36 fX11_295 rfl (ly_is hy 0 11 rfl) (rf hr 0 65 42 (by decide)) ?_
                refine WQ_bipush (35) (35) dX11_take_39 rfl rfl (fun v2835 hv2835 => ?_)
                refine WP_iload_n dX11_take_41 rfl ?_
                refine WQ_imulK (35) dX11_take_42 hv2835 (by omega) (by omega) (fun v2836 hv2836 => ?_)
                refine WP_iload_n dX11_take_43 rfl ?_
                refine WQ_iadd dX11_take_44 (by omega) (by omega) (fun v2837 hv2837 => ?_)
                refine WQ_ialdr dX11_take_45 (ly_is hy 42 13 rfl) (ly_n hy 42 105 rfl) (by omega) (by omega) (a := 103) (b := 104) (by omega) (by omega) (fun q hq1 hq2 => BT_get hI2795.1.1 42 103 104 (0) (1) (0) (by decide) q hq1 hq2) (fun v2838 av2838 bv2838 => ?_)
                refine WQ_iast dX11_take_46 (ly_is hy 38 13 rfl) (ly_n hy 38 35 rfl) (by omega) (by omega) (fun I2839 eI2839 => ?_)
                have hI2839 : MP g n L I2839 := by rw [eI2839]; exact (mp_w hy hI2795 (c := 38) (mi_rr hy hI2795.1 (c := 38) (33) (33) (0) (1) (0) (by decide) (Or.inl (by decide)) (by rw [cl (n := i2794.toInt.toNat) (by omega)]; omega) (by decide) (fun _ => ⟨by omega, by omega⟩)) (by decide) (by decide) (Or.inl (by decide)))
                have e2840 : I2839 (ad g 0) 1 = L := by rw [eI2839, pp_ne _ _ (Or.inl (ly_ne hy (by decide) (by decide) (by decide)))]; exact e2798
                clear eI2839
                refine WP_iinc (ls' := [(0, _), (1, _), (2, _)]) dX11_take_47 rfl (by decide) rfl ?_
                have hv2841 : (i2794 + Int32.ofInt (1)).toInt = i2794.toInt + (1) := ia_n rfl (by omega) (by omega)
                generalize i2794 + Int32.ofInt (1) = v2841 at hv2841 ⊢
                refine WP_goto 24 dX11_take_50 rfl ?_
                exact WP_sub (fc rfl (fc rfl (fc rfl fn))) (ihlp24_2796 v2841 I2839 J2796 hI2839 (by omega) (by omega) (by omega))
              · refine WP_aload_n dX11_take_30 rfl ?_
                refine WP_getr dX11_take_31 fX11_283 rfl (ly_is hy 0 11 rfl) (rf hr 0 59 38 (by decide)) ?_
                refine WP_iload_n dX11_take_34 rfl ?_
                refine WP_aload_n dX11_take_35 rfl ?_
                refine WP_getr dX11_take_36 fX11_295 rfl (ly_is hy 0 11 rfl) (rf hr 0 65 42 (by decide)) ?_
                refine WQ_bipush (35) (35) dX11_take_39 rfl rfl (fun v2842 hv2842 => ?_)
                refine WP_iload_n dX11_take_41 rfl ?_
                refine WQ_imulK (35) dX11_take_42 hv2842 (by omega) (by omega) (fun v2843 hv2843 => ?_)
                refine WP_iload_n dX11_take_43 rfl ?_
                refine WQ_iadd dX11_take_44 (by omega) (by omega) (fun v2844 hv2844 => ?_)
                refine WQ_ialdu dX11_take_45 (ly_is hy 42 13 rfl) (ly_n hy 42 105 rfl) (by omega) (by omega) (fun v2845 => ?_)
                refine WQ_iast dX11_take_46 (ly_is hy 38 13 rfl) (ly_n hy 38 35 rfl) (by omega) (by omega) (fun I2846 eI2846 => ?_)
                have hI2846 : MP g n L I2846 := by rw [eI2846]; exact (mp_w hy hI2795 (c := 38) (mi_rr hy hI2795.1 (c := 38) (34) (34) (0) (0) (0) (by decide) (Or.inl (by decide)) (by rw [cl (n := i2794.toInt.toNat) (by omega)]; omega) (by decide) (fun h => absurd h (by decide))) (by decide) (by decide) (Or.inl (by decide)))
                have e2847 : I2846 (ad g 0) 1 = L := by rw [eI2846, pp_ne _ _ (Or.inl (ly_ne hy (by decide) (by decide) (by decide)))]; exact e2798
                clear eI2846
                refine WP_iinc (ls' := [(0, _), (1, _), (2, _)]) dX11_take_47 rfl (by decide) rfl ?_
                have hv2848 : (i2794 + Int32.ofInt (1)).toInt = i2794.toInt + (1) := ia_n rfl (by omega) (by omega)
                generalize i2794 + Int32.ofInt (1) = v2848 at hv2848 ⊢
                refine WP_goto 24 dX11_take_50 rfl ?_
                exact WP_sub (fc rfl (fc rfl (fc rfl fn))) (ihlp24_2796 v2848 I2846 J2796 hI2846 (by omega) (by omega) (by omega))
        exact WP_sub (fc rfl (fc rfl (fc rfl fn))) (lp24_2796 _ v2793 I J hI (by omega) (by omega) (Nat.lt_succ_self _))
    · refine WQ_bipush (-4) (-4) dX11_take_19 rfl rfl (fun v2849 hv2849 => ?_)
      exact WP_iret dX11_take_21 rfl ⟨⟨hI, rfl⟩, _, rfl⟩
  · refine WQ_bipush (-2) (-2) dX11_take_7 rfl rfl (fun v2850 hv2850 => ?_)
    exact WP_iret dX11_take_9 rfl ⟨⟨hI, rfl⟩, _, rfl⟩
set_option maxHeartbeats 4000000 in
set_option maxRecDepth 100000 in
theorem sm_told {g : GG} {n : Int} {L : Int32} (hy : Ly g)  {I : pI} {J : pJ} {R : pR} (hr : Rf g R) (hI : MP g n L I) (a : Int32)  : SP g mX11_told [.ref (ad g 0), .int a] I J R (fun r I' J' R' => (I' = I ∧ J' = J ∧ R' = R) ∧ ∃ v : Int32, r = some (.int v)) := by
  refine SP_of ⟨by decide, rfl⟩ (Nat.le_of_ble_eq_true rfl) ?_
  have e2851 : I (ad g 0) 1 = L := hI.1.2
  have b2852 := BT_get hI.1.1 0 1 2 (0) (0) (900) (by decide) 1 (by decide) (by decide)
  rw [e2851] at b2852
  refine WP_iload_n dX11_told_0 rfl ?_
  refine WQ_bipush (10) (10) dX11_told_1 rfl rfl (fun v2853 hv2853 => ?_)
  refine WQ_iremi (10) dX11_told_3 hv2853 (by decide) (fun v2854 hv2854 => ?_)
  refine WP_istore_n (ls' := [(0, _), (1, _), (2, _)]) dX11_told_4 (by decide) rfl ?_
  refine WP_iload_n dX11_told_5 rfl ?_
  refine WQ_i2l dX11_told_6 (fun l2855 hl2855 => ?_)
  refine WP_ldc2 (10) dX11_told_7 klX11_353 ?_
  obtain ⟨l2856, hl2856, el2856⟩ : ∃ v : Int64, v.toInt = (10) ∧ ((10) : Int64) = v := ⟨_, rfl, rfl⟩
  rw [el2856]; clear el2856
  refine WP_ldc2 (16) dX11_told_10 klX11_355 ?_
  obtain ⟨l2857, hl2857, el2857⟩ : ∃ v : Int64, v.toInt = (16) ∧ ((16) : Int64) = v := ⟨_, rfl, rfl⟩
  rw [el2857]; clear el2857
  refine WP_callS3 dX11_told_13 ⟨⟨⟨by decide, by decide⟩, zX11_in⟩, lX11_52, tX11_in⟩ (sm_in hy hr hI l2855 l2856 l2857 ) (Nat.le_of_ble_eq_true rfl) ?_
  intro r Ia Ja Ra hq
  obtain ⟨⟨ea, eb, ec⟩, v2858, rfl, av2858, bv2858, cv2858⟩ := hq
  show WP _ _ _ _ (.int _ :: _) _ _ _ _
  rw [ea, eb, ec]
  clear ea eb ec Ia Ja Ra
  refine WQ_if_eq 29 dX11_told_16 rfl (fun c2858 => ?_) (fun c2858 => ?_)
  · refine WP_iload_n dX11_told_29 rfl ?_
    refine WQ_i2l dX11_told_30 (fun l2860 hl2860 => ?_)
    refine WP_ldc2 (20) dX11_told_31 klX11_357 ?_
    obtain ⟨l2861, hl2861, el2861⟩ : ∃ v : Int64, v.toInt = (20) ∧ ((20) : Int64) = v := ⟨_, rfl, rfl⟩
    rw [el2861]; clear el2861
    refine WP_ldc2 (59) dX11_told_34 klX11_359 ?_
    obtain ⟨l2862, hl2862, el2862⟩ : ∃ v : Int64, v.toInt = (59) ∧ ((59) : Int64) = v := ⟨_, rfl, rfl⟩
    rw [el2862]; clear el2862
    refine WP_callS3 dX11_told_37 ⟨⟨⟨by decide, by decide⟩, zX11_in⟩, lX11_52, tX11_in⟩ (sm_in hy hr hI l2860 l2861 l2862 ) (Nat.le_of_ble_eq_true rfl) ?_
    intro r Ia Ja Ra hq
    obtain ⟨⟨ea, eb, ec⟩, v2863, rfl, av2863, bv2863, cv2863⟩ := hq
    show WP _ _ _ _ (.int _ :: _) _ _ _ _
    rw [ea, eb, ec]
    clear ea eb ec Ia Ja Ra
    refine WQ_if_eq 107 dX11_told_40 rfl (fun c2863 => ?_) (fun c2863 => ?_)
    · refine WP_iload_n dX11_told_107 rfl ?_
      refine WQ_i2l dX11_told_108 (fun l2865 hl2865 => ?_)
      refine WP_ldc2 (60) dX11_told_109 klX11_361 ?_
      obtain ⟨l2866, hl2866, el2866⟩ : ∃ v : Int64, v.toInt = (60) ∧ ((60) : Int64) = v := ⟨_, rfl, rfl⟩
      rw [el2866]; clear el2866
      refine WP_ldc2 (79) dX11_told_112 klX11_363 ?_
      obtain ⟨l2867, hl2867, el2867⟩ : ∃ v : Int64, v.toInt = (79) ∧ ((79) : Int64) = v := ⟨_, rfl, rfl⟩
      rw [el2867]; clear el2867
      refine WP_callS3 dX11_told_115 ⟨⟨⟨by decide, by decide⟩, zX11_in⟩, lX11_52, tX11_in⟩ (sm_in hy hr hI l2865 l2866 l2867 ) (Nat.le_of_ble_eq_true rfl) ?_
      intro r Ia Ja Ra hq
      obtain ⟨⟨ea, eb, ec⟩, v2868, rfl, av2868, bv2868, cv2868⟩ := hq
      show WP _ _ _ _ (.int _ :: _) _ _ _ _
      rw [ea, eb, ec]
      clear ea eb ec Ia Ja Ra
      refine WQ_if_eq 155 dX11_told_118 rfl (fun c2868 => ?_) (fun c2868 => ?_)
      · refine WP_iload_n dX11_told_155 rfl ?_
        refine WP_tab 208 dX11_told_156 rfl rfl (fun c2869 => ?_) (fun j off c2869 hj => ?_) (by decide)
        · refine WQ_iconst (-1) (-1) dX11_told_208 rfl rfl (fun v2871 hv2871 => ?_)
          exact WP_iret dX11_told_209 rfl ⟨⟨rfl, rfl, rfl⟩, _, rfl⟩
        · have hlt : j < 4 := by have := (Array.getElem?_eq_some_iff.mp hj).1; simpa using this
          have hcs : (j = 0 ∧ off = 32) ∨ (j = 1 ∧ off = 37) ∨ (j = 2 ∧ off = 42) ∨ (j = 3 ∧ off = 47) := by
            match j, hlt, hj with
            | 0, _, hj => exact Or.inl ⟨rfl, (Option.some.inj hj).symm⟩
            | 1, _, hj => exact Or.inr (Or.inl ⟨rfl, (Option.some.inj hj).symm⟩)
            | 2, _, hj => exact Or.inr (Or.inr (Or.inl ⟨rfl, (Option.some.inj hj).symm⟩))
            | 3, _, hj => exact Or.inr (Or.inr (Or.inr (⟨rfl, (Option.some.inj hj).symm⟩)))
          clear hj hlt
          rcases hcs with ⟨rfl, rfl⟩ | ⟨rfl, rfl⟩ | ⟨rfl, rfl⟩ | ⟨rfl, rfl⟩
          · show WP _ _ 188 _ _ _ _ _ _
            refine WP_aload_n dX11_told_188 rfl ?_
            refine WQ_geti dX11_told_189 fX11_329 rfl (ly_is hy 0 11 rfl) (BT_get hI.1.1 0 10 11 (0) (0) (4) (by decide) 10 (by decide) (by decide)) (fun v2872 ev2872 av2872 bv2872 => ?_)
            exact WP_iret dX11_told_192 rfl ⟨⟨rfl, rfl, rfl⟩, _, rfl⟩
          · show WP _ _ 193 _ _ _ _ _ _
            refine WP_aload_n dX11_told_193 rfl ?_
            refine WQ_geti dX11_told_194 fX11_332 rfl (ly_is hy 0 11 rfl) (BT_get hI.1.1 0 11 12 (0) (0) (3) (by decide) 11 (by decide) (by decide)) (fun v2873 ev2873 av2873 bv2873 => ?_)
            exact WP_iret dX11_told_197 rfl ⟨⟨rfl, rfl, rfl⟩, _, rfl⟩
          · show WP _ _ 198 _ _ _ _ _ _
            refine WP_aload_n dX11_told_198 rfl ?_
            refine WQ_geti dX11_told_199 fX11_221 rfl (ly_is hy 0 11 rfl) (BT_get hI.1.1 0 13 14 (-1) (0) (3) (by decide) 13 (by decide) (by decide)) (fun v2874 ev2874 av2874 bv2874 => ?_)
            exact WP_iret dX11_told_202 rfl ⟨⟨rfl, rfl, rfl⟩, _, rfl⟩
          · show WP _ _ 203 _ _ _ _ _ _
            refine WP_aload_n dX11_told_203 rfl ?_
            refine WQ_geti dX11_told_204 fX11_224 rfl (ly_is hy 0 11 rfl) (BT_get hI.1.1 0 14 15 (-1) (0) (2) (by decide) 14 (by decide) (by decide)) (fun v2875 ev2875 av2875 bv2875 => ?_)
            exact WP_iret dX11_told_207 rfl ⟨⟨rfl, rfl, rfl⟩, _, rfl⟩
      · refine WP_iload_n dX11_told_121 rfl ?_
        refine WP_aload_n dX11_told_122 rfl ?_
        refine WQ_geti dX11_told_123 fX11_332 rfl (ly_is hy 0 11 rfl) (BT_get hI.1.1 0 11 12 (0) (0) (3) (by decide) 11 (by decide) (by decide)) (fun v2876 ev2876 av2876 bv2876 => ?_)
        refine WQ_icmp_lt 133 dX11_told_126 rfl (fun c2876 => ?_) (fun c2876 => ?_)
        · refine WP_iload_n dX11_told_133 rfl ?_
          refine WQ_bipush (70) (70) dX11_told_134 rfl rfl (fun v2878 hv2878 => ?_)
          refine WQ_icmp_ge 148 dX11_told_136 rfl (fun c2878 => ?_) (fun c2878 => ?_)
          · refine WP_aload_n dX11_told_148 rfl ?_
            refine WP_getr dX11_told_149 fX11_249 rfl (ly_is hy 0 11 rfl) (rf hr 0 31 13 (by decide)) ?_
            refine WP_iload_n dX11_told_152 rfl ?_
            refine WQ_iald dX11_told_153 (ly_is hy 13 13 rfl) (ly_n hy 13 3 rfl) (by omega) (by omega) (fun q hq => BT_get hI.1.1 13 0 3 (0) (0) (9) (by decide) q (Nat.zero_le _) hq) (fun v2880 av2880 bv2880 ev2880 => ?_)
            clear ev2880
            exact WP_iret dX11_told_154 rfl ⟨⟨rfl, rfl, rfl⟩, _, rfl⟩
          · refine WP_aload_n dX11_told_139 rfl ?_
            refine WP_getr dX11_told_140 fX11_246 rfl (ly_is hy 0 11 rfl) (rf hr 0 30 12 (by decide)) ?_
            refine WP_iload_n dX11_told_143 rfl ?_
            refine WQ_iald dX11_told_144 (ly_is hy 12 13 rfl) (ly_n hy 12 3 rfl) (by omega) (by omega) (fun q hq => BT_get hI.1.1 12 0 3 (0) (0) (1000) (by decide) q (Nat.zero_le _) hq) (fun v2881 av2881 bv2881 ev2881 => ?_)
            clear ev2881
            refine WP_goto 154 dX11_told_145 rfl ?_
            exact WP_iret dX11_told_154 rfl ⟨⟨rfl, rfl, rfl⟩, _, rfl⟩
        · refine WQ_iconst (-1) (-1) dX11_told_129 rfl rfl (fun v2882 hv2882 => ?_)
          refine WP_goto 154 dX11_told_130 rfl ?_
          exact WP_iret dX11_told_154 rfl ⟨⟨rfl, rfl, rfl⟩, _, rfl⟩
    · refine WP_iload_n dX11_told_43 rfl ?_
      refine WP_aload_n dX11_told_44 rfl ?_
      refine WQ_geti dX11_told_45 fX11_329 rfl (ly_is hy 0 11 rfl) (BT_get hI.1.1 0 10 11 (0) (0) (4) (by decide) 10 (by decide) (by decide)) (fun v2883 ev2883 av2883 bv2883 => ?_)
      refine WQ_icmp_lt 55 dX11_told_48 rfl (fun c2883 => ?_) (fun c2883 => ?_)
      · refine WP_iload_n dX11_told_55 rfl ?_
        refine WQ_bipush (30) (30) dX11_told_56 rfl rfl (fun v2885 hv2885 => ?_)
        refine WQ_icmp_ge 70 dX11_told_58 rfl (fun c2885 => ?_) (fun c2885 => ?_)
        · refine WP_iload_n dX11_told_70 rfl ?_
          refine WQ_bipush (40) (40) dX11_told_71 rfl rfl (fun v2887 hv2887 => ?_)
          refine WQ_icmp_ge 85 dX11_told_73 rfl (fun c2887 => ?_) (fun c2887 => ?_)
          · refine WP_iload_n dX11_told_85 rfl ?_
            refine WQ_bipush (50) (50) dX11_told_86 rfl rfl (fun v2889 hv2889 => ?_)
            refine WQ_icmp_ge 100 dX11_told_88 rfl (fun c2889 => ?_) (fun c2889 => ?_)
            · refine WP_aload_n dX11_told_100 rfl ?_
              refine WP_getr dX11_told_101 fX11_244 rfl (ly_is hy 0 11 rfl) (rf hr 0 29 11 (by decide)) ?_
              refine WP_iload_n dX11_told_104 rfl ?_
              refine WQ_iald dX11_told_105 (ly_is hy 11 13 rfl) (ly_n hy 11 4 rfl) (by omega) (by omega) (fun q hq => BT_get hI.1.1 11 0 4 (0) (0) (127) (by decide) q (Nat.zero_le _) hq) (fun v2891 av2891 bv2891 ev2891 => ?_)
              clear ev2891
              exact WP_iret dX11_told_106 rfl ⟨⟨rfl, rfl, rfl⟩, _, rfl⟩
            · refine WP_aload_n dX11_told_91 rfl ?_
              refine WP_getr dX11_told_92 fX11_241 rfl (ly_is hy 0 11 rfl) (rf hr 0 28 10 (by decide)) ?_
              refine WP_iload_n dX11_told_95 rfl ?_
              refine WQ_iald dX11_told_96 (ly_is hy 10 13 rfl) (ly_n hy 10 4 rfl) (by omega) (by omega) (fun q hq => BT_get hI.1.1 10 0 4 (0) (0) (60) (by decide) q (Nat.zero_le _) hq) (fun v2892 av2892 bv2892 ev2892 => ?_)
              clear ev2892
              refine WP_goto 106 dX11_told_97 rfl ?_
              exact WP_iret dX11_told_106 rfl ⟨⟨rfl, rfl, rfl⟩, _, rfl⟩
          · refine WP_aload_n dX11_told_76 rfl ?_
            refine WP_getr dX11_told_77 fX11_238 rfl (ly_is hy 0 11 rfl) (rf hr 0 27 9 (by decide)) ?_
            refine WP_iload_n dX11_told_80 rfl ?_
            refine WQ_iald dX11_told_81 (ly_is hy 9 13 rfl) (ly_n hy 9 4 rfl) (by omega) (by omega) (fun q hq => BT_get hI.1.1 9 0 4 (0) (0) (1000) (by decide) q (Nat.zero_le _) hq) (fun v2893 av2893 bv2893 ev2893 => ?_)
            clear ev2893
            refine WP_goto 106 dX11_told_82 rfl ?_
            exact WP_iret dX11_told_106 rfl ⟨⟨rfl, rfl, rfl⟩, _, rfl⟩
        · refine WP_aload_n dX11_told_61 rfl ?_
          refine WP_getr dX11_told_62 fX11_235 rfl (ly_is hy 0 11 rfl) (rf hr 0 26 8 (by decide)) ?_
          refine WP_iload_n dX11_told_65 rfl ?_
          refine WQ_iald dX11_told_66 (ly_is hy 8 13 rfl) (ly_n hy 8 4 rfl) (by omega) (by omega) (fun q hq => BT_get hI.1.1 8 0 4 (0) (0) (99) (by decide) q (Nat.zero_le _) hq) (fun v2894 av2894 bv2894 ev2894 => ?_)
          clear ev2894
          refine WP_goto 106 dX11_told_67 rfl ?_
          exact WP_iret dX11_told_106 rfl ⟨⟨rfl, rfl, rfl⟩, _, rfl⟩
      · refine WQ_iconst (-1) (-1) dX11_told_51 rfl rfl (fun v2895 hv2895 => ?_)
        refine WP_goto 106 dX11_told_52 rfl ?_
        exact WP_iret dX11_told_106 rfl ⟨⟨rfl, rfl, rfl⟩, _, rfl⟩
  · refine WP_aload_n dX11_told_19 rfl ?_
    refine WP_getr dX11_told_20 fX11_233 rfl (ly_is hy 0 11 rfl) (rf hr 0 24 6 (by decide)) ?_
    refine WP_iload_n dX11_told_23 rfl ?_
    refine WQ_bipush (10) (10) dX11_told_24 rfl rfl (fun v2896 hv2896 => ?_)
    refine WQ_isub dX11_told_26 (by omega) (by omega) (fun v2897 hv2897 => ?_)
    refine WQ_iald dX11_told_27 (ly_is hy 6 13 rfl) (ly_n hy 6 7 rfl) (by omega) (by omega) (fun q hq => BT_get hI.1.1 6 0 7 (0) (0) (900) (by decide) q (Nat.zero_le _) hq) (fun v2898 av2898 bv2898 ev2898 => ?_)
    clear ev2898
    exact WP_iret dX11_told_28 rfl ⟨⟨rfl, rfl, rfl⟩, _, rfl⟩
set_option maxHeartbeats 4000000 in
set_option maxRecDepth 100000 in
theorem sm_run {g : GG} {n : Int} {L : Int32} (hy : Ly g)  {I : pI} {J : pJ} {R : pR} (hr : Rf g R) (hI : MP g n L I) (a : Int32) (b : Int32)  : SP g mX11_run [.ref (ad g 0), .int a, .int b] I J R (fun r I' J' R' => (I' = I ∧ J' = J ∧ R' = R) ∧ ∃ v : Int32, r = some (.int v)) := by
  refine SP_of ⟨by decide, rfl⟩ (Nat.le_of_ble_eq_true rfl) ?_
  have e2899 : I (ad g 0) 1 = L := hI.1.2
  have b2900 := BT_get hI.1.1 0 1 2 (0) (0) (900) (by decide) 1 (by decide) (by decide)
  rw [e2899] at b2900
  refine WP_aload_n dX11_run_0 rfl ?_
  refine WP_iload_n dX11_run_1 rfl ?_
  refine WP_callV1 (k := 11) dX11_run_2 ⟨⟨⟨by decide, by decide⟩, zX11_isSort⟩, lX11_367, by decide, rfl, vX11_isSort.1, vX11_isSort.2⟩ (ly_is hy 0 11 rfl) (sm_isSort hy hr hI a ) (Nat.le_of_ble_eq_true rfl) ?_
  intro r Ia Ja Ra hq
  obtain ⟨⟨ea, eb, ec⟩, v2901, rfl, av2901, bv2901, cv2901⟩ := hq
  show WP _ _ _ _ (.int _ :: _) _ _ _ _
  rw [ea, eb, ec]
  clear ea eb ec Ia Ja Ra
  obtain ⟨w2902, ew2902⟩ : ∃ w : Int32, I (ad g 0) 10 = w := ⟨_, rfl⟩
  have bw2902 := BT_get hI.1.1 0 10 11 (0) (0) (4) (by decide) 10 (by decide) (by decide)
  rw [ew2902] at bw2902
  rw [ew2902] at cv2901
  refine WQ_if_eq 20 dX11_run_5 rfl (fun c2902 => ?_) (fun c2902 => ?_)
  · refine WQ_bipush (-2) (-2) dX11_run_20 rfl rfl (fun v2904 hv2904 => ?_)
    exact WP_iret dX11_run_22 rfl ⟨⟨rfl, rfl, rfl⟩, _, rfl⟩
  · refine WP_iload_n dX11_run_8 rfl ?_
    refine WQ_i2l dX11_run_9 (fun l2905 hl2905 => ?_)
    refine WP_lconst (0) dX11_run_10 rfl ?_
    obtain ⟨l2906, hl2906, el2906⟩ : ∃ v : Int64, v.toInt = 0 ∧ (0 : Int64) = v := ⟨_, rfl, rfl⟩
    rw [el2906]; clear el2906
    refine WP_ldc2 (6) dX11_run_11 klX11_365 ?_
    obtain ⟨l2907, hl2907, el2907⟩ : ∃ v : Int64, v.toInt = (6) ∧ ((6) : Int64) = v := ⟨_, rfl, rfl⟩
    rw [el2907]; clear el2907
    refine WP_callS3 dX11_run_14 ⟨⟨⟨by decide, by decide⟩, zX11_in⟩, lX11_52, tX11_in⟩ (sm_in hy hr hI l2905 l2906 l2907 ) (Nat.le_of_ble_eq_true rfl) ?_
    intro r Ia Ja Ra hq
    obtain ⟨⟨ea, eb, ec⟩, v2908, rfl, av2908, bv2908, cv2908⟩ := hq
    show WP _ _ _ _ (.int _ :: _) _ _ _ _
    rw [ea, eb, ec]
    clear ea eb ec Ia Ja Ra
    refine WQ_if_ne 23 dX11_run_17 rfl (fun c2908 => ?_) (fun c2908 => ?_)
    · refine WP_aload_n dX11_run_23 rfl ?_
      refine WP_getr dX11_run_24 fX11_283 rfl (ly_is hy 0 11 rfl) (rf hr 0 59 38 (by decide)) ?_
      refine WQ_iconst (4) (4) dX11_run_27 rfl rfl (fun v2910 hv2910 => ?_)
      refine WP_iload_n dX11_run_28 rfl ?_
      refine WQ_imulK (4) dX11_run_29 hv2910 (by omega) (by omega) (fun v2911 hv2911 => ?_)
      refine WP_iload_n dX11_run_30 rfl ?_
      refine WQ_iadd dX11_run_31 (by omega) (by omega) (fun v2912 hv2912 => ?_)
      refine WQ_ialdu dX11_run_32 (ly_is hy 38 13 rfl) (ly_n hy 38 35 rfl) (by omega) (by omega) (fun v2913 => ?_)
      exact WP_iret dX11_run_33 rfl ⟨⟨rfl, rfl, rfl⟩, _, rfl⟩
    · refine WQ_bipush (-2) (-2) dX11_run_20 rfl rfl (fun v2914 hv2914 => ?_)
      exact WP_iret dX11_run_22 rfl ⟨⟨rfl, rfl, rfl⟩, _, rfl⟩
