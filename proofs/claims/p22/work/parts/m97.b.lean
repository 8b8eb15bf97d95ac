set_option maxHeartbeats 4000000 in
set_option maxRecDepth 100000 in
theorem sm_bestFrom {g : GG} {n : Int} {L : Int32} (hy : Ly g)  {I : pI} {J : pJ} {R : pR} (hr : Rf g R) (hI : MP g n L I) (so : Int32) (da : Int32) (co : Int32) (st : Int32) (nn : Int32) (so_lo : 0 ≤ so.toInt) (so_hi : so.toInt ≤ 3) (da_lo : 0 ≤ da.toInt) (da_hi : da.toInt ≤ 6) (co_lo : 0 ≤ co.toInt) (co_hi : co.toInt ≤ 60) (st_lo : 0 ≤ st.toInt) (st_hi : st.toInt ≤ 5) (nn_lo : 1 ≤ nn.toInt) (nn_hi : nn.toInt ≤ 28) : SP g mX11_bestFrom [.ref (ad g 0), .int so, .int da, .int co, .int st, .int nn] I J R (fun r I' J' R' => (MP g n L I' ∧ R' = R ∧ fz 49 g [0] I I' ∧ J' = J ∧ fs g [56] I I' ∧ (AM (I (ad g 22)) (I (ad g 24)) (I (ad g 25)) (I (ad g 0) 14).toInt so.toInt da.toInt co.toInt st.toInt (I' (ad g 0) 56).toInt) ∧ I' (ad g 0) 10 = I (ad g 0) 10 ∧ I' (ad g 0) 14 = I (ad g 0) 14 ∧ I' (ad g 0) 68 = I (ad g 0) 68) ∧ ∃ v : Int32, r = some (.int v) ∧ 0 ≤ v.toInt ∧ v.toInt ≤ 16632 ∧ v.toInt ≤ 594 * nn.toInt) := by
  refine SP_of ⟨by decide, rfl⟩ (Nat.le_of_ble_eq_true rfl) ?_
  have e4358 : I (ad g 0) 1 = L := hI.1.2
  have b4359 := BT_get hI.1.1 0 1 2 (0) (0) (900) (by decide) 1 (by decide) (by decide)
  rw [e4358] at b4359
  have fr0 : fz 49 g [0] I I := fz_rf
  have frq0 : fs g [56] I I := fs_rf
  obtain ⟨w4360, ew4360⟩ : ∃ w : Int32, I (ad g 0) 14 = w := ⟨_, rfl⟩
  have bw4360 := BT_get hI.1.1 0 14 15 (-1) (0) (2) (by decide) 14 (by decide) (by decide)
  rw [ew4360] at bw4360
  obtain ⟨uu, euu⟩ : ∃ w : Int32, I (ad g 25) (7 * so.toInt + da.toInt).toNat = w := ⟨_, rfl⟩
  have buu := BT_get hI.1.1 25 0 28 (0) (0) (3) (by decide) (7 * so.toInt + da.toInt).toNat (Nat.zero_le _) (by omega)
  rw [euu] at buu
  obtain ⟨w4361, ew4361⟩ : ∃ w : Int32, I (ad g 0) 10 = w := ⟨_, rfl⟩
  have bw4361 := BT_get hI.1.1 0 10 11 (0) (0) (4) (by decide) 10 (by decide) (by decide)
  rw [ew4361] at bw4361
  obtain ⟨w4362, ew4362⟩ : ∃ w : Int32, I (ad g 0) 68 = w := ⟨_, rfl⟩
  refine WQ_iconst (-1) (-1) dX11_bestFrom_0 rfl rfl (fun v4363 hv4363 => ?_)
  refine WP_istore (ls' := [(0, _), (1, _), (2, _), (3, _), (4, _), (5, _), (6, _)]) dX11_bestFrom_1 (by decide) rfl ?_
  refine WQ_bipush (7) (7) dX11_bestFrom_3 rfl rfl (fun v4364 hv4364 => ?_)
  refine WP_iload_n dX11_bestFrom_5 rfl ?_
  refine WQ_imulK (7) dX11_bestFrom_6 hv4364 (by omega) (by omega) (fun v4365 hv4365 => ?_)
  refine WP_iload_n dX11_bestFrom_7 rfl ?_
  refine WQ_iadd dX11_bestFrom_8 (by omega) (by omega) (fun v4366 hv4366 => ?_)
  refine WP_istore (ls' := [(0, _), (1, _), (2, _), (3, _), (4, _), (5, _), (6, _), (7, _)]) dX11_bestFrom_9 (by decide) rfl ?_
  refine WP_aload_n dX11_bestFrom_11 rfl ?_
  refine WP_getr dX11_bestFrom_12 fX11_244 rfl (ly_is hy 0 11 rfl) (rf hr 0 29 11 (by decide)) ?_
  refine WP_iload_n dX11_bestFrom_15 rfl ?_
  refine WQ_iald dX11_bestFrom_16 (ly_is hy 11 13 rfl) (ly_n hy 11 4 rfl) (by omega) (by omega) (fun q hq => BT_get hI.1.1 11 0 4 (0) (0) (127) (by decide) q (Nat.zero_le _) hq) (fun v4367 av4367 bv4367 ev4367 => ?_)
  refine WP_iload_n dX11_bestFrom_17 rfl ?_
  refine WQ_ishru dX11_bestFrom_18 (fun v4368 => ?_)
  refine WQ_iconst (1) (1) dX11_bestFrom_19 rfl rfl (fun v4369 hv4369 => ?_)
  refine WQ_iandu dX11_bestFrom_20 (fun v4370 => ?_)
  refine WQ_iconst (1) (1) dX11_bestFrom_21 rfl rfl (fun v4371 hv4371 => ?_)
  have jn30_4374 : ∀ (v4374 : Int32), 0 ≤ v4374.toInt → v4374.toInt ≤ 1 → WP g mX11_bestFrom 30 [(0, .ref (ad g 0)), (1, .int so), (2, .int da), (3, .int co), (4, .int st), (5, .int nn), (6, .int v4363), (7, .int v4366)] [.int v4374] I J R (fun r I' J' R' => (MP g n L I' ∧ R' = R ∧ fz 49 g [0] I I' ∧ J' = J ∧ fs g [56] I I' ∧ (AM (I (ad g 22)) (I (ad g 24)) (I (ad g 25)) (I (ad g 0) 14).toInt so.toInt da.toInt co.toInt st.toInt (I' (ad g 0) 56).toInt) ∧ I' (ad g 0) 10 = I (ad g 0) 10 ∧ I' (ad g 0) 14 = I (ad g 0) 14 ∧ I' (ad g 0) 68 = I (ad g 0) 68) ∧ ∃ v : Int32, r = some (.int v) ∧ 0 ≤ v.toInt ∧ v.toInt ≤ 16632 ∧ v.toInt ≤ 594 * nn.toInt) := by
    intro v4374 av4374 bv4374
    refine WP_istore (ls' := [(0, _), (1, _), (2, _), (3, _), (4, _), (5, _), (6, _), (7, _), (8, _)]) dX11_bestFrom_30 (by decide) rfl ?_
    refine WP_aload_n dX11_bestFrom_32 rfl ?_
    refine WP_iload_n dX11_bestFrom_33 rfl ?_
    refine WP_callV1 (k := 11) dX11_bestFrom_34 ⟨⟨⟨by decide, by decide⟩, zX11_loses⟩, lX11_414, by decide, rfl, vX11_loses.1, vX11_loses.2⟩ (ly_is hy 0 11 rfl) (sm_loses2 hy hr hI da (by omega) (by omega)) (Nat.le_of_ble_eq_true rfl) ?_
    intro r Ia Ja Ra hq
    obtain ⟨⟨ea, eb, ec⟩, v4376, rfl, av4376, bv4376⟩ := hq
    show WP _ _ _ _ (.int _ :: _) _ _ _ _
    rw [ea, eb, ec]
    clear ea eb ec Ia Ja Ra
    refine WP_istore (ls' := [(0, _), (1, _), (2, _), (3, _), (4, _), (5, _), (6, _), (7, _), (8, _), (9, _)]) dX11_bestFrom_37 (by decide) rfl ?_
    refine WP_aload_n dX11_bestFrom_39 rfl ?_
    refine WP_aload_n dX11_bestFrom_40 rfl ?_
    refine WP_getr dX11_bestFrom_41 fX11_261 rfl (ly_is hy 0 11 rfl) (rf hr 0 42 24 (by decide)) ?_
    refine WP_iload dX11_bestFrom_44 rfl ?_
    refine WQ_iald dX11_bestFrom_46 (ly_is hy 24 13 rfl) (ly_n hy 24 28 rfl) (by omega) (by omega) (fun q hq => BT_get hI.1.1 24 0 28 (-1) (0) (2) (by decide) q (Nat.zero_le _) hq) (fun v4377 av4377 bv4377 ev4377 => ?_)
    refine WP_iload_n dX11_bestFrom_47 rfl ?_
    refine WP_callV2 (k := 11) dX11_bestFrom_48 ⟨⟨⟨by decide, by decide⟩, zX11_costAt⟩, lX11_402, by decide, rfl, vX11_costAt.1, vX11_costAt.2⟩ (ly_is hy 0 11 rfl) (sm_costx hy hr hI v4377 da (by omega) (by omega) (by omega) (by omega)) (Nat.le_of_ble_eq_true rfl) ?_
    intro r Ia Ja Ra hq
    obtain ⟨⟨ea, eb, ec⟩, v4378, rfl, av4378, bv4378, cv4378⟩ := hq
    show WP _ _ _ _ (.int _ :: _) _ _ _ _
    rw [ea, eb, ec]
    clear ea eb ec Ia Ja Ra
    refine WP_istore (ls' := [(0, _), (1, _), (2, _), (3, _), (4, _), (5, _), (6, _), (7, _), (8, _), (9, _), (10, _)]) dX11_bestFrom_51 (by decide) rfl ?_
    refine WP_aload_n dX11_bestFrom_53 rfl ?_
    refine WP_aload_n dX11_bestFrom_54 rfl ?_
    refine WQ_getim dX11_bestFrom_55 fX11_224 rfl (ly_is hy 0 11 rfl) ew4360 ?_
    refine WP_iload_n dX11_bestFrom_58 rfl ?_
    refine WP_callV2 (k := 11) dX11_bestFrom_59 ⟨⟨⟨by decide, by decide⟩, zX11_costAt⟩, lX11_402, by decide, rfl, vX11_costAt.1, vX11_costAt.2⟩ (ly_is hy 0 11 rfl) (sm_costx hy hr hI w4360 da (by omega) (by omega) (by omega) (by omega)) (Nat.le_of_ble_eq_true rfl) ?_
    intro r Ia Ja Ra hq
    obtain ⟨⟨ea, eb, ec⟩, v4379, rfl, av4379, bv4379, cv4379⟩ := hq
    show WP _ _ _ _ (.int _ :: _) _ _ _ _
    rw [ea, eb, ec]
    clear ea eb ec Ia Ja Ra
    refine WP_istore (ls' := [(0, _), (1, _), (2, _), (3, _), (4, _), (5, _), (6, _), (7, _), (8, _), (9, _), (10, _), (11, _)]) dX11_bestFrom_62 (by decide) rfl ?_
    refine WP_aload_n dX11_bestFrom_64 rfl ?_
    refine WP_getr dX11_bestFrom_65 fX11_264 rfl (ly_is hy 0 11 rfl) (rf hr 0 43 25 (by decide)) ?_
    refine WP_iload dX11_bestFrom_68 rfl ?_
    refine WQ_ialdb dX11_bestFrom_70 (ly_is hy 25 13 rfl) (ly_n hy 25 28 rfl) (by omega) (by omega) (fun q hq => BT_get hI.1.1 25 0 28 (0) (0) (3) (by decide) q (Nat.zero_le _) hq) (fun v4380 av4380 bv4380 zv4380 => ?_)
    have tv4380 : v4380.toInt = uu.toInt := by rw [← zv4380, ← euu, ← fz_at fr0 25 (by decide) (by decide), show (7 * so.toInt + da.toInt).toNat = v4366.toInt.toNat by omega]
    have jn104_4387 : ∀ (v4387 : Int32), 0 ≤ v4387.toInt → v4387.toInt ≤ 3 → (v4387.toInt ≤ st.toInt) → WP g mX11_bestFrom 104 [(0, .ref (ad g 0)), (1, .int so), (2, .int da), (3, .int co), (4, .int st), (5, .int nn), (6, .int v4363), (7, .int v4366), (8, .int v4374), (9, .int v4376), (10, .int v4378), (11, .int v4379)] [.int v4387] I J R (fun r I' J' R' => (MP g n L I' ∧ R' = R ∧ fz 49 g [0] I I' ∧ J' = J ∧ fs g [56] I I' ∧ (AM (I (ad g 22)) (I (ad g 24)) (I (ad g 25)) (I (ad g 0) 14).toInt so.toInt da.toInt co.toInt st.toInt (I' (ad g 0) 56).toInt) ∧ I' (ad g 0) 10 = I (ad g 0) 10 ∧ I' (ad g 0) 14 = I (ad g 0) 14 ∧ I' (ad g 0) 68 = I (ad g 0) 68) ∧ ∃ v : Int32, r = some (.int v) ∧ 0 ≤ v.toInt ∧ v.toInt ≤ 16632 ∧ v.toInt ≤ 594 * nn.toInt) := by
      intro v4387 av4387 bv4387 jf0_v4387
      refine WP_istore (ls' := [(0, _), (1, _), (2, _), (3, _), (4, _), (5, _), (6, _), (7, _), (8, _), (9, _), (10, _), (11, _), (12, _)]) dX11_bestFrom_104 (by decide) rfl ?_
      refine WQ_iconst (0) (0) dX11_bestFrom_106 rfl rfl (fun v4389 hv4389 => ?_)
      refine WP_istore (ls' := [(0, _), (1, _), (2, _), (3, _), (4, _), (5, _), (6, _), (7, _), (8, _), (9, _), (10, _), (11, _), (12, _), (13, _)]) dX11_bestFrom_107 (by decide) rfl ?_
      have lp109_4397 : ∀ (mz : Nat) (i4390 : Int32) (i4391 : Int32) (I4392 : pI), MP g n L I4392 → fz 49 g [0] I I4392 → fs g [56] I I4392 → ∀ (w4394 : Int32), I4392 (ad g 0) 10 = w4394 → ∀ (w4395 : Int32), I4392 (ad g 0) 14 = w4395 → ∀ (w4396 : Int32), I4392 (ad g 0) 68 = w4396 → ∀ (w4397 : Int32), I4392 (ad g 0) 56 = w4397 → -1 ≤ i4390.toInt → i4390.toInt ≤ 16632 → 0 ≤ i4391.toInt → i4391.toInt ≤ 3 → w4394.toInt = w4361.toInt → w4395.toInt = w4360.toInt → w4396.toInt = w4362.toInt → i4390.toInt ≤ 594 * nn.toInt → (i4391.toInt = 0 ∨ 0 ≤ i4390.toInt) → (i4390.toInt < 0 ∨ AM (I (ad g 22)) (I (ad g 24)) (I (ad g 25)) (I (ad g 0) 14).toInt so.toInt da.toInt co.toInt st.toInt w4397.toInt) → (4 - i4391.toInt).toNat < mz → WP g mX11_bestFrom 109 [(0, .ref (ad g 0)), (1, .int so), (2, .int da), (3, .int co), (4, .int st), (5, .int nn), (6, .int i4390), (7, .int v4366), (8, .int v4374), (9, .int v4376), (10, .int v4378), (11, .int v4379), (12, .int v4387), (13, .int i4391)] [] I4392 J R (fun r I' J' R' => (MP g n L I' ∧ R' = R ∧ fz 49 g [0] I I' ∧ J' = J ∧ fs g [56] I I' ∧ (AM (I (ad g 22)) (I (ad g 24)) (I (ad g 25)) (I (ad g 0) 14).toInt so.toInt da.toInt co.toInt st.toInt (I' (ad g 0) 56).toInt) ∧ I' (ad g 0) 10 = I (ad g 0) 10 ∧ I' (ad g 0) 14 = I (ad g 0) 14 ∧ I' (ad g 0) 68 = I (ad g 0) 68) ∧ ∃ v : Int32, r = some (.int v) ∧ 0 ≤ v.toInt ∧ v.toInt ≤ 16632 ∧ v.toInt ≤ 594 * nn.toInt) := by
        intro mz
        induction mz with
        | zero =>
          intro i4390 i4391 I4392 hI4392 fiI4392 fqI4392 w4394 ew4394 w4395 ew4395 w4396 ew4396 w4397 ew4397 ai4390 bi4390 ai4391 bi4391 j0_I4392_4392 j1_I4392_4392 j2_I4392_4392 j3_I4392_4392 j4_I4392_4392 PA_I4392_4392 hmlp109_4397
          exact absurd hmlp109_4397 (Nat.not_lt_zero _)
        | succ mz ihlp109_4397 =>
          intro i4390 i4391 I4392 hI4392 fiI4392 fqI4392 w4394 ew4394 w4395 ew4395 w4396 ew4396 w4397 ew4397 ai4390 bi4390 ai4391 bi4391 j0_I4392_4392 j1_I4392_4392 j2_I4392_4392 j3_I4392_4392 j4_I4392_4392 PA_I4392_4392 hmlp109_4397
          have bw4394 := BT_get hI4392.1.1 0 10 11 (0) (0) (4) (by decide) 10 (by decide) (by decide)
          rw [ew4394] at bw4394
          have bw4395 := BT_get hI4392.1.1 0 14 15 (-1) (0) (2) (by decide) 14 (by decide) (by decide)
          rw [ew4395] at bw4395
          have bw4397 := BT_get hI4392.1.1 0 56 57 (0) (0) (47) (by decide) 56 (by decide) (by decide)
          rw [ew4397] at bw4397
          have e4399 : I4392 (ad g 0) 1 = L := hI4392.1.2
          have b4400 := BT_get hI4392.1.1 0 1 2 (0) (0) (900) (by decide) 1 (by decide) (by decide)
          rw [e4399] at b4400
          refine WP_iload dX11_bestFrom_109 rfl ?_
          refine WP_iload dX11_bestFrom_111 rfl ?_
          have jn129_4406 : ∀ (v4406 : Int32), 0 ≤ v4406.toInt → v4406.toInt ≤ 2 → (v4406.toInt = 0 ∨ w4360.toInt ≠ -1) → WP g mX11_bestFrom 129 [(0, .ref (ad g 0)), (1, .int so), (2, .int da), (3, .int co), (4, .int st), (5, .int nn), (6, .int i4390), (7, .int v4366), (8, .int v4374), (9, .int v4376), (10, .int v4378), (11, .int v4379), (12, .int v4387), (13, .int i4391)] [.int v4406, .int i4391] I4392 J R (fun r I' J' R' => (MP g n L I' ∧ R' = R ∧ fz 49 g [0] I I' ∧ J' = J ∧ fs g [56] I I' ∧ (AM (I (ad g 22)) (I (ad g 24)) (I (ad g 25)) (I (ad g 0) 14).toInt so.toInt da.toInt co.toInt st.toInt (I' (ad g 0) 56).toInt) ∧ I' (ad g 0) 10 = I (ad g 0) 10 ∧ I' (ad g 0) 14 = I (ad g 0) 14 ∧ I' (ad g 0) 68 = I (ad g 0) 68) ∧ ∃ v : Int32, r = some (.int v) ∧ 0 ≤ v.toInt ∧ v.toInt ≤ 16632 ∧ v.toInt ≤ 594 * nn.toInt) := by
            intro v4406 av4406 bv4406 jf0_v4406
            refine WQ_icmp_gt 348 dX11_bestFrom_129 rfl (fun c4407 => ?_) (fun c4407 => ?_)
            · refine WP_iload dX11_bestFrom_348 rfl ?_
              exact WP_iret dX11_bestFrom_350 rfl ⟨⟨hI4392, rfl, fiI4392, rfl, fqI4392, ⟨(by rw [ew4397]; exact PA_I4392_4392.resolve_left (by omega)), (by rw [ew4394, ew4361] <;> exact (eq32 _ _).mpr (by omega)), (by rw [ew4395, ew4360] <;> exact (eq32 _ _).mpr (by omega)), (by rw [ew4396, ew4362] <;> exact (eq32 _ _).mpr (by omega))⟩⟩, _, rfl, by omega, by omega, by omega⟩
            · refine WP_iload dX11_bestFrom_132 rfl ?_
              refine WP_iload dX11_bestFrom_134 rfl ?_
              refine WQ_imulb (2) (20) dX11_bestFrom_136 ⟨by omega, by omega⟩ ⟨by omega, by omega⟩ (by decide) (fun v4409 pv4409 av4409 bv4409 cv4409 => ?_)
              refine WP_iload_n dX11_bestFrom_137 rfl ?_
              refine WQ_icmp_gt 348 dX11_bestFrom_138 rfl (fun c4409 => ?_) (fun c4409 => ?_)
              · refine WP_iload dX11_bestFrom_348 rfl ?_
                exact WP_iret dX11_bestFrom_350 rfl ⟨⟨hI4392, rfl, fiI4392, rfl, fqI4392, ⟨(by rw [ew4397]; exact PA_I4392_4392.resolve_left (by omega)), (by rw [ew4394, ew4361] <;> exact (eq32 _ _).mpr (by omega)), (by rw [ew4395, ew4360] <;> exact (eq32 _ _).mpr (by omega)), (by rw [ew4396, ew4362] <;> exact (eq32 _ _).mpr (by omega))⟩⟩, _, rfl, by omega, by omega, by omega⟩
              · refine WQ_iconst (0) (0) dX11_bestFrom_141 rfl rfl (fun v4411 hv4411 => ?_)
                refine WP_istore (ls' := [(0, _), (1, _), (2, _), (3, _), (4, _), (5, _), (6, _), (7, _), (8, _), (9, _), (10, _), (11, _), (12, _), (13, _), (14, _)]) dX11_bestFrom_142 (by decide) rfl ?_
                have lp144_4419 : ∀ (mz : Nat) (i4412 : Int32) (i4413 : Int32) (I4414 : pI), MP g n L I4414 → fz 49 g [0] I I4414 → fs g [56] I I4414 → ∀ (w4416 : Int32), I4414 (ad g 0) 10 = w4416 → ∀ (w4417 : Int32), I4414 (ad g 0) 14 = w4417 → ∀ (w4418 : Int32), I4414 (ad g 0) 68 = w4418 → ∀ (w4419 : Int32), I4414 (ad g 0) 56 = w4419 → -1 ≤ i4412.toInt → i4412.toInt ≤ 16632 → 0 ≤ i4413.toInt → i4413.toInt ≤ 4 → w4416.toInt = w4361.toInt → w4417.toInt = w4360.toInt → w4418.toInt = w4362.toInt → i4412.toInt ≤ 594 * nn.toInt → ((i4391.toInt = 0 ∧ i4413.toInt = 0) ∨ 0 ≤ i4412.toInt) → (i4412.toInt < 0 ∨ AM (I (ad g 22)) (I (ad g 24)) (I (ad g 25)) (I (ad g 0) 14).toInt so.toInt da.toInt co.toInt st.toInt w4419.toInt) → (5 - i4413.toInt).toNat < mz → WP g mX11_bestFrom 144 [(0, .ref (ad g 0)), (1, .int so), (2, .int da), (3, .int co), (4, .int st), (5, .int nn), (6, .int i4412), (7, .int v4366), (8, .int v4374), (9, .int v4376), (10, .int v4378), (11, .int v4379), (12, .int v4387), (13, .int i4391), (14, .int i4413)] [] I4414 J R (fun r I' J' R' => (MP g n L I' ∧ R' = R ∧ fz 49 g [0] I I' ∧ J' = J ∧ fs g [56] I I' ∧ (AM (I (ad g 22)) (I (ad g 24)) (I (ad g 25)) (I (ad g 0) 14).toInt so.toInt da.toInt co.toInt st.toInt (I' (ad g 0) 56).toInt) ∧ I' (ad g 0) 10 = I (ad g 0) 10 ∧ I' (ad g 0) 14 = I (ad g 0) 14 ∧ I' (ad g 0) 68 = I (ad g 0) 68) ∧ ∃ v : Int32, r = some (.int v) ∧ 0 ≤ v.toInt ∧ v.toInt ≤ 16632 ∧ v.toInt ≤ 594 * nn.toInt) := by
                  intro mz
                  induction mz with
                  | zero =>
                    intro i4412 i4413 I4414 hI4414 fiI4414 fqI4414 w4416 ew4416 w4417 ew4417 w4418 ew4418 w4419 ew4419 ai4412 bi4412 ai4413 bi4413 j0_I4414_4414 j1_I4414_4414 j2_I4414_4414 j3_I4414_4414 j4_I4414_4414 PA_I4414_4414 hmlp144_4419
                    exact absurd hmlp144_4419 (Nat.not_lt_zero _)
                  | succ mz ihlp144_4419 =>
                    intro i4412 i4413 I4414 hI4414 fiI4414 fqI4414 w4416 ew4416 w4417 ew4417 w4418 ew4418 w4419 ew4419 ai4412 bi4412 ai4413 bi4413 j0_I4414_4414 j1_I4414_4414 j2_I4414_4414 j3_I4414_4414 j4_I4414_4414 PA_I4414_4414 hmlp144_4419
                    have bw4416 := BT_get hI4414.1.1 0 10 11 (0) (0) (4) (by decide) 10 (by decide) (by decide)
                    rw [ew4416] at bw4416
                    have bw4417 := BT_get hI4414.1.1 0 14 15 (-1) (0) (2) (by decide) 14 (by decide) (by decide)
                    rw [ew4417] at bw4417
                    have bw4419 := BT_get hI4414.1.1 0 56 57 (0) (0) (47) (by decide) 56 (by decide) (by decide)
                    rw [ew4419] at bw4419
                    have e4421 : I4414 (ad g 0) 1 = L := hI4414.1.2
                    have b4422 := BT_get hI4414.1.1 0 1 2 (0) (0) (900) (by decide) 1 (by decide) (by decide)
                    rw [e4421] at b4422
                    refine WP_iload dX11_bestFrom_144 rfl ?_
                    refine WP_iload dX11_bestFrom_146 rfl ?_
                    refine WQ_icmp_gt 342 dX11_bestFrom_148 rfl (fun c4422 => ?_) (fun c4422 => ?_)
                    · refine WP_iinc (ls' := [(0, _), (1, _), (2, _), (3, _), (4, _), (5, _), (6, _), (7, _), (8, _), (9, _), (10, _), (11, _), (12, _), (13, _), (14, _)]) dX11_bestFrom_342 rfl (by decide) rfl ?_
                      have hv4424 : (i4391 + Int32.ofInt (1)).toInt = i4391.toInt + (1) := ia_n rfl (by omega) (by omega)
                      generalize i4391 + Int32.ofInt (1) = v4424 at hv4424 ⊢
                      refine WP_goto 109 dX11_bestFrom_345 rfl ?_
                      exact WP_sub (fc rfl (fc rfl (fc rfl (fc rfl (fc rfl (fc rfl (fc rfl (fc rfl (fc rfl (fc rfl (fc rfl (fc rfl (fc rfl (fc rfl fn)))))))))))))) (ihlp109_4397 i4412 v4424 I4414 hI4414 fiI4414 fqI4414 w4416 ew4416 w4417 ew4417 w4418 ew4418 w4419 ew4419 (by omega) (by omega) (by omega) (by omega) (by omega) (by omega) (by omega) (by omega) (by omega) PA_I4414_4414 (by omega))
                    · refine WP_iload dX11_bestFrom_151 rfl ?_
                      refine WP_iload dX11_bestFrom_153 rfl ?_
                      refine WQ_isub dX11_bestFrom_155 (by omega) (by omega) (fun v4425 hv4425 => ?_)
                      refine WP_iload dX11_bestFrom_156 rfl ?_
                      refine WQ_iadd dX11_bestFrom_158 (by omega) (by omega) (fun v4426 hv4426 => ?_)
                      refine WP_istore (ls' := [(0, _), (1, _), (2, _), (3, _), (4, _), (5, _), (6, _), (7, _), (8, _), (9, _), (10, _), (11, _), (12, _), (13, _), (14, _), (15, _)]) dX11_bestFrom_159 (by decide) rfl ?_
                      refine WQ_iconst (0) (0) dX11_bestFrom_161 rfl rfl (fun v4427 hv4427 => ?_)
                      refine WP_istore (ls' := [(0, _), (1, _), (2, _), (3, _), (4, _), (5, _), (6, _), (7, _), (8, _), (9, _), (10, _), (11, _), (12, _), (13, _), (14, _), (15, _), (16, _)]) dX11_bestFrom_162 (by decide) rfl ?_
                      have lp164_4435 : ∀ (mz : Nat) (i4428 : Int32) (i4429 : Int32) (I4430 : pI), MP g n L I4430 → fz 49 g [0] I I4430 → fs g [56] I I4430 → ∀ (w4432 : Int32), I4430 (ad g 0) 10 = w4432 → ∀ (w4433 : Int32), I4430 (ad g 0) 14 = w4433 → ∀ (w4434 : Int32), I4430 (ad g 0) 68 = w4434 → ∀ (w4435 : Int32), I4430 (ad g 0) 56 = w4435 → -1 ≤ i4428.toInt → i4428.toInt ≤ 16632 → 0 ≤ i4429.toInt → i4429.toInt ≤ 4 → w4432.toInt = w4361.toInt → w4433.toInt = w4360.toInt → w4434.toInt = w4362.toInt → i4428.toInt ≤ 594 * nn.toInt → ((i4391.toInt = 0 ∧ i4413.toInt = 0 ∧ i4429.toInt = 0) ∨ 0 ≤ i4428.toInt) → (i4428.toInt < 0 ∨ AM (I (ad g 22)) (I (ad g 24)) (I (ad g 25)) (I (ad g 0) 14).toInt so.toInt da.toInt co.toInt st.toInt w4435.toInt) → (5 - i4429.toInt).toNat < mz → WP g mX11_bestFrom 164 [(0, .ref (ad g 0)), (1, .int so), (2, .int da), (3, .int co), (4, .int st), (5, .int nn), (6, .int i4428), (7, .int v4366), (8, .int v4374), (9, .int v4376), (10, .int v4378), (11, .int v4379), (12, .int v4387), (13, .int i4391), (14, .int i4413), (15, .int v4426), (16, .int i4429)] [] I4430 J R (fun r I' J' R' => (MP g n L I' ∧ R' = R ∧ fz 49 g [0] I I' ∧ J' = J ∧ fs g [56] I I' ∧ (AM (I (ad g 22)) (I (ad g 24)) (I (ad g 25)) (I (ad g 0) 14).toInt so.toInt da.toInt co.toInt st.toInt (I' (ad g 0) 56).toInt) ∧ I' (ad g 0) 10 = I (ad g 0) 10 ∧ I' (ad g 0) 14 = I (ad g 0) 14 ∧ I' (ad g 0) 68 = I (ad g 0) 68) ∧ ∃ v : Int32, r = some (.int v) ∧ 0 ≤ v.toInt ∧ v.toInt ≤ 16632 ∧ v.toInt ≤ 594 * nn.toInt) := by
                        intro mz
                        induction mz with
                        | zero =>
                          intro i4428 i4429 I4430 hI4430 fiI4430 fqI4430 w4432 ew4432 w4433 ew4433 w4434 ew4434 w4435 ew4435 ai4428 bi4428 ai4429 bi4429 j0_I4430_4430 j1_I4430_4430 j2_I4430_4430 j3_I4430_4430 j4_I4430_4430 PA_I4430_4430 hmlp164_4435
                          exact absurd hmlp164_4435 (Nat.not_lt_zero _)
                        | succ mz ihlp164_4435 =>
                          intro i4428 i4429 I4430 hI4430 fiI4430 fqI4430 w4432 ew4432 w4433 ew4433 w4434 ew4434 w4435 ew4435 ai4428 bi4428 ai4429 bi4429 j0_I4430_4430 j1_I4430_4430 j2_I4430_4430 j3_I4430_4430 j4_I4430_4430 PA_I4430_4430 hmlp164_4435
                          have bw4432 := BT_get hI4430.1.1 0 10 11 (0) (0) (4) (by decide) 10 (by decide) (by decide)
                          rw [ew4432] at bw4432
                          have bw4433 := BT_get hI4430.1.1 0 14 15 (-1) (0) (2) (by decide) 14 (by decide) (by decide)
                          rw [ew4433] at bw4433
                          have bw4435 := BT_get hI4430.1.1 0 56 57 (0) (0) (47) (by decide) 56 (by decide) (by decide)
                          rw [ew4435] at bw4435
                          have e4437 : I4430 (ad g 0) 1 = L := hI4430.1.2
                          have b4438 := BT_get hI4430.1.1 0 1 2 (0) (0) (900) (by decide) 1 (by decide) (by decide)
                          rw [e4437] at b4438
                          refine WP_iload dX11_bestFrom_164 rfl ?_
                          refine WQ_iconst (5) (5) dX11_bestFrom_166 rfl rfl (fun v4439 hv4439 => ?_)
                          refine WQ_icmp_gt 336 dX11_bestFrom_167 rfl (fun c4439 => ?_) (fun c4439 => ?_)
                          · refine WP_iinc (ls' := [(0, _), (1, _), (2, _), (3, _), (4, _), (5, _), (6, _), (7, _), (8, _), (9, _), (10, _), (11, _), (12, _), (13, _), (14, _), (15, _), (16, _)]) dX11_bestFrom_336 rfl (by decide) rfl ?_
                            have hv4441 : (i4413 + Int32.ofInt (1)).toInt = i4413.toInt + (1) := ia_n rfl (by omega) (by omega)
                            generalize i4413 + Int32.ofInt (1) = v4441 at hv4441 ⊢
                            refine WP_goto 144 dX11_bestFrom_339 rfl ?_
                            exact WP_sub (fc rfl (fc rfl (fc rfl (fc rfl (fc rfl (fc rfl (fc rfl (fc rfl (fc rfl (fc rfl (fc rfl (fc rfl (fc rfl (fc rfl (fc rfl fn))))))))))))))) (ihlp144_4419 i4428 v4441 I4430 hI4430 fiI4430 fqI4430 w4432 ew4432 w4433 ew4433 w4434 ew4434 w4435 ew4435 (by omega) (by omega) (by omega) (by omega) (by omega) (by omega) (by omega) (by omega) (by omega) PA_I4430_4430 (by omega))
                          · refine WP_iload dX11_bestFrom_170 rfl ?_
                            refine WP_iload dX11_bestFrom_172 rfl ?_
                            have jn191_4445 : ∀ (v4445 : Int32), -3 ≤ v4445.toInt → v4445.toInt ≤ 3 → (v4445.toInt ≤ uu.toInt) → (0 ≤ v4445.toInt ∨ 0 < i4413.toInt) → WP g mX11_bestFrom 191 [(0, .ref (ad g 0)), (1, .int so), (2, .int da), (3, .int co), (4, .int st), (5, .int nn), (6, .int i4428), (7, .int v4366), (8, .int v4374), (9, .int v4376), (10, .int v4378), (11, .int v4379), (12, .int v4387), (13, .int i4391), (14, .int i4413), (15, .int v4426), (16, .int i4429)] [.int v4445, .int i4429] I4430 J R (fun r I' J' R' => (MP g n L I' ∧ R' = R ∧ fz 49 g [0] I I' ∧ J' = J ∧ fs g [56] I I' ∧ (AM (I (ad g 22)) (I (ad g 24)) (I (ad g 25)) (I (ad g 0) 14).toInt so.toInt da.toInt co.toInt st.toInt (I' (ad g 0) 56).toInt) ∧ I' (ad g 0) 10 = I (ad g 0) 10 ∧ I' (ad g 0) 14 = I (ad g 0) 14 ∧ I' (ad g 0) 68 = I (ad g 0) 68) ∧ ∃ v : Int32, r = some (.int v) ∧ 0 ≤ v.toInt ∧ v.toInt ≤ 16632 ∧ v.toInt ≤ 594 * nn.toInt) := by
                              intro v4445 av4445 bv4445 jf0_v4445 jf1_v4445
                              refine WQ_icmp_gt 336 dX11_bestFrom_191 rfl (fun c4446 => ?_) (fun c4446 => ?_)
                              · refine WP_iinc (ls' := [(0, _), (1, _), (2, _), (3, _), (4, _), (5, _), (6, _), (7, _), (8, _), (9, _), (10, _), (11, _), (12, _), (13, _), (14, _), (15, _), (16, _)]) dX11_bestFrom_336 rfl (by decide) rfl ?_
                                have hv4448 : (i4413 + Int32.ofInt (1)).toInt = i4413.toInt + (1) := ia_n rfl (by omega) (by omega)
                                generalize i4413 + Int32.ofInt (1) = v4448 at hv4448 ⊢
                                refine WP_goto 144 dX11_bestFrom_339 rfl ?_
                                exact WP_sub (fc rfl (fc rfl (fc rfl (fc rfl (fc rfl (fc rfl (fc rfl (fc rfl (fc rfl (fc rfl (fc rfl (fc rfl (fc rfl (fc rfl (fc rfl fn))))))))))))))) (ihlp144_4419 i4428 v4448 I4430 hI4430 fiI4430 fqI4430 w4432 ew4432 w4433 ew4433 w4434 ew4434 w4435 ew4435 (by omega) (by omega) (by omega) (by omega) (by omega) (by omega) (by omega) (by omega) (by omega) PA_I4430_4430 (by omega))
                              · refine WP_iload dX11_bestFrom_194 rfl ?_
                                refine WP_iload dX11_bestFrom_196 rfl ?_
                                refine WQ_imulb (3) (20) dX11_bestFrom_198 ⟨by omega, by omega⟩ ⟨by omega, by omega⟩ (by decide) (fun v4449 pv4449 av4449 bv4449 cv4449 => ?_)
                                refine WP_iload dX11_bestFrom_199 rfl ?_
                                refine WP_iload dX11_bestFrom_201 rfl ?_
                                refine WQ_imulb (2) (20) dX11_bestFrom_203 ⟨by omega, by omega⟩ ⟨by omega, by omega⟩ (by decide) (fun v4450 pv4450 av4450 bv4450 cv4450 => ?_)
                                refine WQ_iadd dX11_bestFrom_204 (by omega) (by omega) (fun v4451 hv4451 => ?_)
                                refine WP_iload_n dX11_bestFrom_205 rfl ?_
                                refine WQ_icmp_gt 336 dX11_bestFrom_206 rfl (fun c4451 => ?_) (fun c4451 => ?_)
                                · refine WP_iinc (ls' := [(0, _), (1, _), (2, _), (3, _), (4, _), (5, _), (6, _), (7, _), (8, _), (9, _), (10, _), (11, _), (12, _), (13, _), (14, _), (15, _), (16, _)]) dX11_bestFrom_336 rfl (by decide) rfl ?_
                                  have hv4453 : (i4413 + Int32.ofInt (1)).toInt = i4413.toInt + (1) := ia_n rfl (by omega) (by omega)
                                  generalize i4413 + Int32.ofInt (1) = v4453 at hv4453 ⊢
                                  refine WP_goto 144 dX11_bestFrom_339 rfl ?_
                                  exact WP_sub (fc rfl (fc rfl (fc rfl (fc rfl (fc rfl (fc rfl (fc rfl (fc rfl (fc rfl (fc rfl (fc rfl (fc rfl (fc rfl (fc rfl (fc rfl fn))))))))))))))) (ihlp144_4419 i4428 v4453 I4430 hI4430 fiI4430 fqI4430 w4432 ew4432 w4433 ew4433 w4434 ew4434 w4435 ew4435 (by omega) (by omega) (by omega) (by omega) (by omega) (by omega) (by omega) (by omega) (by omega) PA_I4430_4430 (by omega))
                                · refine WP_aload_n dX11_bestFrom_209 rfl ?_
                                  refine WP_iload_n dX11_bestFrom_210 rfl ?_
                                  refine WP_iload dX11_bestFrom_211 rfl ?_
                                  refine WP_iload dX11_bestFrom_213 rfl ?_
                                  refine WQ_imulb (3) (20) dX11_bestFrom_215 ⟨by omega, by omega⟩ ⟨by omega, by omega⟩ (by decide) (fun v4454 pv4454 av4454 bv4454 cv4454 => ?_)
                                  refine WQ_isub dX11_bestFrom_216 (by omega) (by omega) (fun v4455 hv4455 => ?_)
                                  refine WP_iload dX11_bestFrom_217 rfl ?_
                                  refine WP_iload dX11_bestFrom_219 rfl ?_
                                  refine WQ_imulb (2) (20) dX11_bestFrom_221 ⟨by omega, by omega⟩ ⟨by omega, by omega⟩ (by decide) (fun v4456 pv4456 av4456 bv4456 cv4456 => ?_)
                                  refine WQ_isub dX11_bestFrom_222 (by omega) (by omega) (fun v4457 hv4457 => ?_)
                                  refine WP_iload dX11_bestFrom_223 rfl ?_
                                  refine WP_iload dX11_bestFrom_225 rfl ?_
                                  refine WP_callV3 (k := 11) dX11_bestFrom_227 ⟨⟨⟨by decide, by decide⟩, zX11_behindNight⟩, lX11_398, by decide, rfl, vX11_behindNight.1, vX11_behindNight.2⟩ (ly_is hy 0 11 rfl) (sm_behindNight hy hr hI4430 v4457 v4426 v4376 (by omega) (by omega) (by omega) (by omega) (by omega) (by omega)) (Nat.le_of_ble_eq_true rfl) ?_
                                  intro r Ia Ja Ra hq
                                  obtain ⟨⟨ea, eb, ec⟩, v4458, rfl, av4458, bv4458⟩ := hq
                                  show WP _ _ _ _ (.int _ :: _) _ _ _ _
                                  rw [ea, eb, ec]
                                  clear ea eb ec Ia Ja Ra
                                  refine WP_istore (ls' := [(0, _), (1, _), (2, _), (3, _), (4, _), (5, _), (6, _), (7, _), (8, _), (9, _), (10, _), (11, _), (12, _), (13, _), (14, _), (15, _), (16, _), (17, _)]) dX11_bestFrom_230 (by decide) rfl ?_
                                  refine WP_iload dX11_bestFrom_232 rfl ?_
                                  refine WQ_iconst (1) (1) dX11_bestFrom_234 rfl rfl (fun v4459 hv4459 => ?_)
                                  have jn279_4475 : ∀ (v4475 : Int32), 0 ≤ v4475.toInt → v4475.toInt ≤ 16038 → (v4475.toInt ≤ 594 * (nn.toInt - 1)) → WP g mX11_bestFrom 279 [(0, .ref (ad g 0)), (1, .int so), (2, .int da), (3, .int co), (4, .int st), (5, .int nn), (6, .int i4428), (7, .int v4366), (8, .int v4374), (9, .int v4376), (10, .int v4378), (11, .int v4379), (12, .int v4387), (13, .int i4391), (14, .int i4413), (15, .int v4426), (16, .int i4429), (17, .int v4458)] [.int v4475] I4430 J R (fun r I' J' R' => (MP g n L I' ∧ R' = R ∧ fz 49 g [0] I I' ∧ J' = J ∧ fs g [56] I I' ∧ (AM (I (ad g 22)) (I (ad g 24)) (I (ad g 25)) (I (ad g 0) 14).toInt so.toInt da.toInt co.toInt st.toInt (I' (ad g 0) 56).toInt) ∧ I' (ad g 0) 10 = I (ad g 0) 10 ∧ I' (ad g 0) 14 = I (ad g 0) 14 ∧ I' (ad g 0) 68 = I (ad g 0) 68) ∧ ∃ v : Int32, r = some (.int v) ∧ 0 ≤ v.toInt ∧ v.toInt ≤ 16632 ∧ v.toInt ≤ 594 * nn.toInt) := by
                                    intro v4475 av4475 bv4475 jf0_v4475
                                    refine WP_istore (ls' := [(0, _), (1, _), (2, _), (3, _), (4, _), (5, _), (6, _), (7, _), (8, _), (9, _), (10, _), (11, _), (12, _), (13, _), (14, _), (15, _), (16, _), (17, _), (18, _)]) dX11_bestFrom_279 (by decide) rfl ?_
                                    refine WP_iload dX11_bestFrom_281 rfl ?_
                                    refine WP_iload dX11_bestFrom_283 rfl ?_
                                    refine WQ_iadd dX11_bestFrom_285 (by omega) (by omega) (fun v4477 hv4477 => ?_)
                                    refine WP_aload_n dX11_bestFrom_286 rfl ?_
                                    refine WP_getr dX11_bestFrom_287 fX11_267 rfl (ly_is hy 0 11 rfl) (rf hr 0 44 26 (by decide)) ?_
                                    refine WP_iload dX11_bestFrom_290 rfl ?_
                                    refine WQ_iald dX11_bestFrom_292 (ly_is hy 26 13 rfl) (ly_n hy 26 28 rfl) (by omega) (by omega) (fun q hq => BT_get hI4430.1.1 26 0 28 (0) (0) (99) (by decide) q (Nat.zero_le _) hq) (fun v4478 av4478 bv4478 ev4478 => ?_)
                                    refine WQ_imulb (6) (99) dX11_bestFrom_293 ⟨by omega, by omega⟩ ⟨by omega, by omega⟩ (by decide) (fun v4479 pv4479 av4479 bv4479 cv4479 => ?_)
                                    refine WP_iload dX11_bestFrom_294 rfl ?_
                                    refine WQ_iadd dX11_bestFrom_296 (by omega) (by omega) (fun v4480 hv4480 => ?_)
                                    refine WP_istore (ls' := [(0, _), (1, _), (2, _), (3, _), (4, _), (5, _), (6, _), (7, _), (8, _), (9, _), (10, _), (11, _), (12, _), (13, _), (14, _), (15, _), (16, _), (17, _), (18, _), (19, _)]) dX11_bestFrom_297 (by decide) rfl ?_
                                    refine WP_iload dX11_bestFrom_299 rfl ?_
                                    refine WP_iload dX11_bestFrom_301 rfl ?_
                                    refine WQ_icmp_gt 309 dX11_bestFrom_303 rfl (fun c4480 => ?_) (fun c4480 => ?_)
                                    · refine WP_iload dX11_bestFrom_309 rfl ?_
                                      refine WP_istore (ls' := [(0, _), (1, _), (2, _), (3, _), (4, _), (5, _), (6, _), (7, _), (8, _), (9, _), (10, _), (11, _), (12, _), (13, _), (14, _), (15, _), (16, _), (17, _), (18, _), (19, _)]) dX11_bestFrom_311 (by decide) rfl ?_
                                      refine WP_aload_n dX11_bestFrom_313 rfl ?_
                                      refine WQ_bipush (16) (16) dX11_bestFrom_314 rfl rfl (fun v4482 hv4482 => ?_)
                                      refine WP_iload dX11_bestFrom_316 rfl ?_
                                      refine WQ_imulK (16) dX11_bestFrom_318 hv4482 (by omega) (by omega) (fun v4483 hv4483 => ?_)
                                      refine WQ_iconst (4) (4) dX11_bestFrom_319 rfl rfl (fun v4484 hv4484 => ?_)
                                      refine WP_iload dX11_bestFrom_320 rfl ?_
                                      refine WQ_imulK (4) dX11_bestFrom_322 hv4484 (by omega) (by omega) (fun v4485 hv4485 => ?_)
                                      refine WQ_iadd dX11_bestFrom_323 (by omega) (by omega) (fun v4486 hv4486 => ?_)
                                      refine WP_iload dX11_bestFrom_324 rfl ?_
                                      refine WQ_iadd dX11_bestFrom_326 (by omega) (by omega) (fun v4487 hv4487 => ?_)
                                      refine WQ_puti dX11_bestFrom_327 fX11_423 rfl rfl (ly_is hy 0 11 rfl) (fun I4488 eI4488 => ?_)
                                      have hI4488 : MP g n L I4488 := by rw [eI4488]; exact (mp_w hy hI4430 (c := 0) (mi_f hy hI4430.1 (c := 0) (0) (0) (47) (by decide) (Or.inr (by decide)) (by decide) (by omega) (by omega)) (by decide) (by decide) (Or.inr (by decide)))
                                      have e4489 : I4488 (ad g 0) 10 = w4432 := by rw [eI4488, pp_ne _ _ (Or.inr (by decide))]; exact ew4432
                                      have e4490 : I4488 (ad g 0) 14 = w4433 := by rw [eI4488, pp_ne _ _ (Or.inr (by decide))]; exact ew4433
                                      have e4491 : I4488 (ad g 0) 68 = w4434 := by rw [eI4488, pp_ne _ _ (Or.inr (by decide))]; exact ew4434
                                      have e4492 : I4488 (ad g 0) 1 = L := by rw [eI4488, pp_ne _ _ (Or.inr (by decide))]; exact e4437
                                      have e4493 : I4488 (ad g 26) v4366.toNatClampNeg = v4478 := by rw [eI4488, pp_ne _ _ (Or.inl (ly_ne hy (by decide) (by decide) (by decide)))]; exact ev4478
                                      have e4494 : I4488 (ad g 0) 56 = v4487 := by rw [eI4488, pp_self]
                                      have fr4495 : fs g [56] I I4488 := by rw [eI4488]; exact fs_pp0 fqI4430 (by decide)
                                      have fr4496 : fz 49 g [0] I I4488 := by rw [eI4488]; exact fzm_pp hy fiI4430 (by decide) (by decide)
                                      have AI4488 : v4480.toInt < 0 ∨ AM (I (ad g 22)) (I (ad g 24)) (I (ad g 25)) (I (ad g 0) 14).toInt so.toInt da.toInt co.toInt st.toInt v4487.toInt := by
                                        right
                                        unfold AM
                                        rw [euu, show I (ad g 24) (7 * so.toInt + da.toInt).toNat = v4377 by rw [← cl (x := v4366) (n := (7 * so.toInt + da.toInt).toNat) (by omega)]; exact ev4377, ew4360, ← cv4378, ← cv4379]
                                        exact AOKm_set (s := i4391.toInt) (f := i4413.toInt) (e := i4429.toInt) (by omega) (by omega) (by omega) (by omega) (by omega) (by omega) (by omega) (by omega) (by omega) (by omega)
                                      clear eI4488
                                      refine WP_iinc (ls' := [(0, _), (1, _), (2, _), (3, _), (4, _), (5, _), (6, _), (7, _), (8, _), (9, _), (10, _), (11, _), (12, _), (13, _), (14, _), (15, _), (16, _), (17, _), (18, _), (19, _)]) dX11_bestFrom_330 rfl (by decide) rfl ?_
                                      have hv4497 : (i4429 + Int32.ofInt (1)).toInt = i4429.toInt + (1) := ia_n rfl (by omega) (by omega)
                                      generalize i4429 + Int32.ofInt (1) = v4497 at hv4497 ⊢
                                      refine WP_goto 164 dX11_bestFrom_333 rfl ?_
                                      exact WP_sub (fc rfl (fc rfl (fc rfl (fc rfl (fc rfl (fc rfl (fc rfl (fc rfl (fc rfl (fc rfl (fc rfl (fc rfl (fc rfl (fc rfl (fc rfl (fc rfl (fc rfl fn))))))))))))))))) (ihlp164_4435 v4480 v4497 I4488 hI4488 fr4496 fr4495 w4432 e4489 w4433 e4490 w4434 e4491 v4487 e4494 (by omega) (by omega) (by omega) (by omega) (by omega) (by omega) (by omega) (by omega) (by omega) AI4488 (by omega))
                                    · refine WP_goto 330 dX11_bestFrom_306 rfl ?_
                                      refine WP_iinc (ls' := [(0, _), (1, _), (2, _), (3, _), (4, _), (5, _), (6, _), (7, _), (8, _), (9, _), (10, _), (11, _), (12, _), (13, _), (14, _), (15, _), (16, _), (17, _), (18, _), (19, _)]) dX11_bestFrom_330 rfl (by decide) rfl ?_
                                      have hv4498 : (i4429 + Int32.ofInt (1)).toInt = i4429.toInt + (1) := ia_n rfl (by omega) (by omega)
                                      generalize i4429 + Int32.ofInt (1) = v4498 at hv4498 ⊢
                                      refine WP_goto 164 dX11_bestFrom_333 rfl ?_
                                      exact WP_sub (fc rfl (fc rfl (fc rfl (fc rfl (fc rfl (fc rfl (fc rfl (fc rfl (fc rfl (fc rfl (fc rfl (fc rfl (fc rfl (fc rfl (fc rfl (fc rfl (fc rfl fn))))))))))))))))) (ihlp164_4435 i4428 v4498 I4430 hI4430 fiI4430 fqI4430 w4432 ew4432 w4433 ew4433 w4434 ew4434 w4435 ew4435 (by omega) (by omega) (by omega) (by omega) (by omega) (by omega) (by omega) (by omega) (by omega) PA_I4430_4430 (by omega))
                                  refine WQ_icmp_ne 242 dX11_bestFrom_235 rfl (fun c4498 => ?_) (fun c4498 => ?_)
                                  · refine WP_aload_n dX11_bestFrom_242 rfl ?_
                                    refine WP_getr dX11_bestFrom_243 fX11_270 rfl (ly_is hy 0 11 rfl) (rf hr 0 54 35 (by decide)) ?_
                                    refine WQ_sipush (366) (366) dX11_bestFrom_246 rfl rfl (fun v4500 hv4500 => ?_)
                                    refine WP_iload dX11_bestFrom_249 rfl ?_
                                    refine WQ_iconst (1) (1) dX11_bestFrom_251 rfl rfl (fun v4501 hv4501 => ?_)
                                    refine WQ_isub dX11_bestFrom_252 (by omega) (by omega) (fun v4502 hv4502 => ?_)
                                    refine WQ_imulK (366) dX11_bestFrom_253 hv4500 (by omega) (by omega) (fun v4503 hv4503 => ?_)
                                    refine WQ_bipush (6) (6) dX11_bestFrom_254 rfl rfl (fun v4504 hv4504 => ?_)
                                    refine WP_iload dX11_bestFrom_256 rfl ?_
                                    refine WQ_imulK (6) dX11_bestFrom_258 hv4504 (by omega) (by omega) (fun v4505 hv4505 => ?_)
                                    refine WQ_iadd dX11_bestFrom_259 (by omega) (by omega) (fun v4506 hv4506 => ?_)
                                    refine WP_aload_n dX11_bestFrom_260 rfl ?_
                                    refine WP_iload dX11_bestFrom_261 rfl ?_
                                    refine WP_callV1 (k := 11) dX11_bestFrom_263 ⟨⟨⟨by decide, by decide⟩, zX11_leftOf⟩, lX11_420, by decide, rfl, vX11_leftOf.1, vX11_leftOf.2⟩ (ly_is hy 0 11 rfl) (sm_leftOf hy hr hI4430 v4426 (by omega) (by omega)) (Nat.le_of_ble_eq_true rfl) ?_
                                    intro r Ia Ja Ra hq
                                    obtain ⟨⟨ea, eb, ec⟩, v4507, rfl, av4507, bv4507⟩ := hq
                                    show WP _ _ _ _ (.int _ :: _) _ _ _ _
                                    rw [ea, eb, ec]
                                    clear ea eb ec Ia Ja Ra
                                    refine WQ_iadd dX11_bestFrom_266 (by omega) (by omega) (fun v4508 hv4508 => ?_)
                                    refine WQ_ialdf (q := v4508.toInt.toNat) dX11_bestFrom_267 (ly_is hy 35 13 rfl) (ly_n hy 35 10614 rfl) (by omega) (by omega) (by omega) (mb_get hI4430 (k := (nn.toInt - 1).toNat) (r := (6 * v4458.toInt + v4507.toInt).toNat) (by omega) (by omega) (by omega)) (fun v4509 av4509 bv4509 => ?_)
                                    refine WP_aload_n dX11_bestFrom_268 rfl ?_
                                    refine WP_getr dX11_bestFrom_269 fX11_238 rfl (ly_is hy 0 11 rfl) (rf hr 0 27 9 (by decide)) ?_
                                    refine WP_iload_n dX11_bestFrom_272 rfl ?_
                                    refine WQ_iald dX11_bestFrom_273 (ly_is hy 9 13 rfl) (ly_n hy 9 4 rfl) (by omega) (by omega) (fun q hq => BT_get hI4430.1.1 9 0 4 (0) (0) (1000) (by decide) q (Nat.zero_le _) hq) (fun v4510 av4510 bv4510 ev4510 => ?_)
                                    refine WQ_imulb (16038) (1000) dX11_bestFrom_274 ⟨by omega, by omega⟩ ⟨by omega, by omega⟩ (by decide) (fun v4511 pv4511 av4511 bv4511 cv4511 => ?_)
                                    refine WQ_sipush (1000) (1000) dX11_bestFrom_275 rfl rfl (fun v4512 hv4512 => ?_)
                                    refine WQ_idivk (1000) dX11_bestFrom_278 hv4512 (by decide) (by omega) (fun v4513 hv4513 => ?_)
                                    exact WP_sub (fc rfl (fc rfl (fc rfl (fc rfl (fc rfl (fc rfl (fc rfl (fc rfl (fc rfl (fc rfl (fc rfl (fc rfl (fc rfl (fc rfl (fc rfl (fc rfl (fc rfl (fc rfl fn)))))))))))))))))) (jn279_4475 v4513 (by omega) (by omega) (by omega))
                                  · refine WQ_iconst (0) (0) dX11_bestFrom_238 rfl rfl (fun v4514 hv4514 => ?_)
                                    refine WP_goto 279 dX11_bestFrom_239 rfl ?_
                                    exact WP_sub (fc rfl (fc rfl (fc rfl (fc rfl (fc rfl (fc rfl (fc rfl (fc rfl (fc rfl (fc rfl (fc rfl (fc rfl (fc rfl (fc rfl (fc rfl (fc rfl (fc rfl (fc rfl fn)))))))))))))))))) (jn279_4475 v4514 (by omega) (by omega) (by omega))
                            refine WQ_if_eq 181 dX11_bestFrom_174 rfl (fun c4514 => ?_) (fun c4514 => ?_)
                            · refine WP_aload_n dX11_bestFrom_181 rfl ?_
                              refine WP_getr dX11_bestFrom_182 fX11_264 rfl (ly_is hy 0 11 rfl) (rf hr 0 43 25 (by decide)) ?_
                              refine WP_iload dX11_bestFrom_185 rfl ?_
                              refine WQ_ialdb dX11_bestFrom_187 (ly_is hy 25 13 rfl) (ly_n hy 25 28 rfl) (by omega) (by omega) (fun q hq => BT_get hI4430.1.1 25 0 28 (0) (0) (3) (by decide) q (Nat.zero_le _) hq) (fun v4516 av4516 bv4516 zv4516 => ?_)
                              have tv4516 : v4516.toInt = uu.toInt := by rw [← zv4516, ← euu, ← fz_at fiI4430 25 (by decide) (by decide), show (7 * so.toInt + da.toInt).toNat = v4366.toInt.toNat by omega]
                              refine WP_iload dX11_bestFrom_188 rfl ?_
                              refine WQ_isub dX11_bestFrom_190 (by omega) (by omega) (fun v4517 hv4517 => ?_)
                              exact WP_sub (fc rfl (fc rfl (fc rfl (fc rfl (fc rfl (fc rfl (fc rfl (fc rfl (fc rfl (fc rfl (fc rfl (fc rfl (fc rfl (fc rfl (fc rfl (fc rfl (fc rfl fn))))))))))))))))) (jn191_4445 v4517 (by omega) (by omega) (by omega) (by omega))
                            · refine WQ_iconst (0) (0) dX11_bestFrom_177 rfl rfl (fun v4518 hv4518 => ?_)
                              refine WP_goto 191 dX11_bestFrom_178 rfl ?_
                              exact WP_sub (fc rfl (fc rfl (fc rfl (fc rfl (fc rfl (fc rfl (fc rfl (fc rfl (fc rfl (fc rfl (fc rfl (fc rfl (fc rfl (fc rfl (fc rfl (fc rfl (fc rfl fn))))))))))))))))) (jn191_4445 v4518 (by omega) (by omega) (by omega) (by omega))
                      exact WP_sub (fc rfl (fc rfl (fc rfl (fc rfl (fc rfl (fc rfl (fc rfl (fc rfl (fc rfl (fc rfl (fc rfl (fc rfl (fc rfl (fc rfl (fc rfl (fc rfl (fc rfl fn))))))))))))))))) (lp164_4435 _ i4412 v4427 I4414 hI4414 fiI4414 fqI4414 w4416 ew4416 w4417 ew4417 w4418 ew4418 w4419 ew4419 (by omega) (by omega) (by omega) (by omega) (by omega) (by omega) (by omega) (by omega) (by omega) PA_I4414_4414 (Nat.lt_succ_self _))
                exact WP_sub (fc rfl (fc rfl (fc rfl (fc rfl (fc rfl (fc rfl (fc rfl (fc rfl (fc rfl (fc rfl (fc rfl (fc rfl (fc rfl (fc rfl (fc rfl fn))))))))))))))) (lp144_4419 _ i4390 v4411 I4392 hI4392 fiI4392 fqI4392 w4394 ew4394 w4395 ew4395 w4396 ew4396 w4397 ew4397 (by omega) (by omega) (by omega) (by omega) (by omega) (by omega) (by omega) (by omega) (by omega) PA_I4392_4392 (Nat.lt_succ_self _))
          refine WQ_if_ne 124 dX11_bestFrom_113 rfl (fun c4518 => ?_) (fun c4518 => ?_)
          · refine WQ_iconst (0) (0) dX11_bestFrom_124 rfl rfl (fun v4520 hv4520 => ?_)
            refine WP_goto 129 dX11_bestFrom_125 rfl ?_
            exact WP_sub (fc rfl (fc rfl (fc rfl (fc rfl (fc rfl (fc rfl (fc rfl (fc rfl (fc rfl (fc rfl (fc rfl (fc rfl (fc rfl (fc rfl fn)))))))))))))) (jn129_4406 v4520 (by omega) (by omega) (by omega))
          · refine WP_aload_n dX11_bestFrom_116 rfl ?_
            refine WQ_getim dX11_bestFrom_117 fX11_224 rfl (ly_is hy 0 11 rfl) ew4395 ?_
            refine WQ_iconst (-1) (-1) dX11_bestFrom_120 rfl rfl (fun v4521 hv4521 => ?_)
            refine WQ_icmp_ne 128 dX11_bestFrom_121 rfl (fun c4521 => ?_) (fun c4521 => ?_)
            · refine WQ_iconst (2) (2) dX11_bestFrom_128 rfl rfl (fun v4523 hv4523 => ?_)
              exact WP_sub (fc rfl (fc rfl (fc rfl (fc rfl (fc rfl (fc rfl (fc rfl (fc rfl (fc rfl (fc rfl (fc rfl (fc rfl (fc rfl (fc rfl fn)))))))))))))) (jn129_4406 v4523 (by omega) (by omega) (by omega))
            · refine WQ_iconst (0) (0) dX11_bestFrom_124 rfl rfl (fun v4524 hv4524 => ?_)
              refine WP_goto 129 dX11_bestFrom_125 rfl ?_
              exact WP_sub (fc rfl (fc rfl (fc rfl (fc rfl (fc rfl (fc rfl (fc rfl (fc rfl (fc rfl (fc rfl (fc rfl (fc rfl (fc rfl (fc rfl fn)))))))))))))) (jn129_4406 v4524 (by omega) (by omega) (by omega))
      obtain ⟨w4525, ew4525⟩ : ∃ w : Int32, I (ad g 0) 56 = w := ⟨_, rfl⟩
      have bw4525 := BT_get hI.1.1 0 56 57 (0) (0) (47) (by decide) 56 (by decide) (by decide)
      rw [ew4525] at bw4525
      exact WP_sub (fc rfl (fc rfl (fc rfl (fc rfl (fc rfl (fc rfl (fc rfl (fc rfl (fc rfl (fc rfl (fc rfl (fc rfl (fc rfl (fc rfl fn)))))))))))))) (lp109_4397 _ v4363 v4389 I hI fr0 frq0 w4361 ew4361 w4360 ew4360 w4362 ew4362 w4525 ew4525 (by omega) (by omega) (by omega) (by omega) (by omega) (by omega) (by omega) (by omega) (by omega) (Or.inl (by omega)) (Nat.lt_succ_self _))
    refine WQ_if_le 103 dX11_bestFrom_71 rfl (fun c4525 => ?_) (fun c4525 => ?_)
    · refine WQ_iconst (0) (0) dX11_bestFrom_103 rfl rfl (fun v4527 hv4527 => ?_)
      exact WP_sub (fc rfl (fc rfl (fc rfl (fc rfl (fc rfl (fc rfl (fc rfl (fc rfl (fc rfl (fc rfl (fc rfl (fc rfl fn)))))))))))) (jn104_4387 v4527 (by omega) (by omega) (by omega))
    · refine WP_aload_n dX11_bestFrom_74 rfl ?_
      refine WP_getr dX11_bestFrom_75 fX11_261 rfl (ly_is hy 0 11 rfl) (rf hr 0 42 24 (by decide)) ?_
      refine WP_iload dX11_bestFrom_78 rfl ?_
      refine WQ_ialde dX11_bestFrom_80 (ly_is hy 24 13 rfl) (ly_n hy 24 28 rfl) (by omega) (by omega) ev4377 ?_
      refine WP_aload_n dX11_bestFrom_81 rfl ?_
      refine WQ_getim dX11_bestFrom_82 fX11_224 rfl (ly_is hy 0 11 rfl) ew4360 ?_
      refine WQ_icmp_ne 103 dX11_bestFrom_85 rfl (fun c4528 => ?_) (fun c4528 => ?_)
      · refine WQ_iconst (0) (0) dX11_bestFrom_103 rfl rfl (fun v4530 hv4530 => ?_)
        exact WP_sub (fc rfl (fc rfl (fc rfl (fc rfl (fc rfl (fc rfl (fc rfl (fc rfl (fc rfl (fc rfl (fc rfl (fc rfl fn)))))))))))) (jn104_4387 v4530 (by omega) (by omega) (by omega))
      · refine WP_aload_n dX11_bestFrom_88 rfl ?_
        refine WP_getr dX11_bestFrom_89 fX11_264 rfl (ly_is hy 0 11 rfl) (rf hr 0 43 25 (by decide)) ?_
        refine WP_iload dX11_bestFrom_92 rfl ?_
        refine WQ_ialdb dX11_bestFrom_94 (ly_is hy 25 13 rfl) (ly_n hy 25 28 rfl) (by omega) (by omega) (fun q hq => BT_get hI.1.1 25 0 28 (0) (0) (3) (by decide) q (Nat.zero_le _) hq) (fun v4531 av4531 bv4531 zv4531 => ?_)
        have tv4531 : v4531.toInt = uu.toInt := by rw [← zv4531, ← euu, ← fz_at fr0 25 (by decide) (by decide), show (7 * so.toInt + da.toInt).toNat = v4366.toInt.toNat by omega]
        refine WP_iload dX11_bestFrom_95 rfl ?_
        refine WQ_min dX11_bestFrom_97 lX11_417 ⟨by decide, Nat.le_of_ble_eq_true rfl⟩ (fun v4532 av4532 bv4532 cv4532 => ?_)
        refine WP_goto 104 dX11_bestFrom_100 rfl ?_
        exact WP_sub (fc rfl (fc rfl (fc rfl (fc rfl (fc rfl (fc rfl (fc rfl (fc rfl (fc rfl (fc rfl (fc rfl (fc rfl fn)))))))))))) (jn104_4387 v4532 (by omega) (by omega) (by omega))
  refine WQ_icmp_ne 29 dX11_bestFrom_22 rfl (fun c4532 => ?_) (fun c4532 => ?_)
  · refine WQ_iconst (0) (0) dX11_bestFrom_29 rfl rfl (fun v4534 hv4534 => ?_)
    exact WP_sub (fc rfl (fc rfl (fc rfl (fc rfl (fc rfl (fc rfl (fc rfl (fc rfl fn)))))))) (jn30_4374 v4534 (by omega) (by omega))
  · refine WQ_iconst (1) (1) dX11_bestFrom_25 rfl rfl (fun v4535 hv4535 => ?_)
    refine WP_goto 30 dX11_bestFrom_26 rfl ?_
    exact WP_sub (fc rfl (fc rfl (fc rfl (fc rfl (fc rfl (fc rfl (fc rfl (fc rfl fn)))))))) (jn30_4374 v4535 (by omega) (by omega))
