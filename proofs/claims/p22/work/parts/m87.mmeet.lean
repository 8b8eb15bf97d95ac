set_option maxHeartbeats 4000000 in
set_option maxRecDepth 100000 in
theorem sm_findMeet {g : GG} {n : Int} {L : Int32} (hy : Ly g)  {I : pI} {J : pJ} {R : pR} (hr : Rf g R) (hI : MP g n L I) (so : Int32) (se : Int32) (mm : Int32) (r : Int32) (t : Int32) (so_lo : 0 ≤ so.toInt) (so_hi : so.toInt ≤ 3) (t_lo : 0 ≤ t.toInt) (t_hi : t.toInt ≤ 40) (hb : so.toInt < (I (ad g 0) 10).toInt) : SP g mX11_findMeet [.ref (ad g 0), .int so, .int se, .int mm, .int r, .int t] I J R (fun r I' J' R' => (MP g n L I' ∧ R' = R ∧ fz 49 g [] I I' ∧ fz 49 g [0] J J' ∧ fs g [] I I' ∧ I' (ad g 0) 10 = I (ad g 0) 10) ∧ r = none) := by
  refine SP_of ⟨by decide, rfl⟩ (Nat.le_of_ble_eq_true rfl) ?_
  have e3369 : I (ad g 0) 1 = L := hI.1.2
  have b3370 := BT_get hI.1.1 0 1 2 (0) (0) (900) (by decide) 1 (by decide) (by decide)
  rw [e3369] at b3370
  have fr0 : fz 49 g [] I I := fz_rf
  have frj0 : fz 49 g [0] J J := fz_rf
  have frq0 : fs g [] I I := fs_rf
  obtain ⟨w3371, ew3371⟩ : ∃ w : Int32, I (ad g 0) 10 = w := ⟨_, rfl⟩
  have bw3371 := BT_get hI.1.1 0 10 11 (0) (0) (4) (by decide) 10 (by decide) (by decide)
  rw [ew3371] at bw3371
  rw [ew3371] at hb
  refine WQ_iconst (0) (0) dX11_findMeet_0 rfl rfl (fun v3372 hv3372 => ?_)
  refine WP_istore (ls' := [(0, _), (1, _), (2, _), (3, _), (4, _), (5, _), (6, _)]) dX11_findMeet_1 (by decide) rfl ?_
  refine WQ_iconst (0) (0) dX11_findMeet_3 rfl rfl (fun v3373 hv3373 => ?_)
  refine WP_istore (ls' := [(0, _), (1, _), (2, _), (3, _), (4, _), (5, _), (6, _), (7, _)]) dX11_findMeet_4 (by decide) rfl ?_
  refine WQ_iconst (0) (0) dX11_findMeet_6 rfl rfl (fun v3374 hv3374 => ?_)
  refine WP_istore (ls' := [(0, _), (1, _), (2, _), (3, _), (4, _), (5, _), (6, _), (7, _), (8, _)]) dX11_findMeet_7 (by decide) rfl ?_
  have lp9_3377 : ∀ (mz : Nat) (i3375 : Int32) (i3376 : Int32) (i3377 : Int32), 0 ≤ i3376.toInt → i3376.toInt ≤ 396 → 0 ≤ i3377.toInt → i3377.toInt ≤ 4 → i3376.toInt ≤ 99 * i3377.toInt → i3377.toInt ≤ i3376.toInt → i3377.toInt ≤ w3371.toInt → (5 - i3377.toInt).toNat < mz → WP g mX11_findMeet 9 [(0, .ref (ad g 0)), (1, .int so), (2, .int se), (3, .int mm), (4, .int r), (5, .int t), (6, .int i3375), (7, .int i3376), (8, .int i3377)] [] I J R (fun r I' J' R' => (MP g n L I' ∧ R' = R ∧ fz 49 g [] I I' ∧ fz 49 g [0] J J' ∧ fs g [] I I' ∧ I' (ad g 0) 10 = I (ad g 0) 10) ∧ r = none) := by
    intro mz
    induction mz with
    | zero =>
      intro i3375 i3376 i3377 ai3376 bi3376 ai3377 bi3377 j0_I j1_I j2_I hmlp9_3377
      exact absurd hmlp9_3377 (Nat.not_lt_zero _)
    | succ mz ihlp9_3377 =>
      intro i3375 i3376 i3377 ai3376 bi3376 ai3377 bi3377 j0_I j1_I j2_I hmlp9_3377
      refine WP_iload dX11_findMeet_9 rfl ?_
      refine WP_aload_n dX11_findMeet_11 rfl ?_
      refine WQ_getim dX11_findMeet_12 fX11_329 rfl (ly_is hy 0 11 rfl) ew3371 ?_
      refine WQ_icmp_ge 62 dX11_findMeet_15 rfl (fun c3378 => ?_) (fun c3378 => ?_)
      · refine WP_ldc2 (10) dX11_findMeet_62 klX11_353 ?_
        obtain ⟨l3380, hl3380, el3380⟩ : ∃ v : Int64, v.toInt = (10) ∧ ((10) : Int64) = v := ⟨_, rfl, rfl⟩
        rw [el3380]; clear el3380
        refine WP_iload_n dX11_findMeet_65 rfl ?_
        refine WQ_i2l dX11_findMeet_66 (fun l3381 hl3381 => ?_)
        refine WQ_lmul dX11_findMeet_67 (fun l3382 => ?_)
        refine WP_iload dX11_findMeet_68 rfl ?_
        refine WQ_i2l dX11_findMeet_70 (fun l3383 hl3383 => ?_)
        refine WQ_lmul dX11_findMeet_71 (fun l3384 => ?_)
        refine WP_iload dX11_findMeet_72 rfl ?_
        refine WQ_i2l dX11_findMeet_74 (fun l3385 hl3385 => ?_)
        refine WQ_ldiv dX11_findMeet_75 (by omega) (fun l3386 => ?_)
        refine WP_lstore (ls' := [(0, _), (1, _), (2, _), (3, _), (4, _), (5, _), (6, _), (7, _), (8, _)]) dX11_findMeet_76 (by decide) rfl ?_
        refine WP_aload_n dX11_findMeet_78 rfl ?_
        refine WP_lconst (0) dX11_findMeet_79 rfl ?_
        obtain ⟨l3387, hl3387, el3387⟩ : ∃ v : Int64, v.toInt = 0 ∧ (0 : Int64) = v := ⟨_, rfl, rfl⟩
        rw [el3387]; clear el3387
        refine WQ_putl dX11_findMeet_80 fX11_527 rfl rfl (ly_is hy 0 11 rfl) (fun J3388 eJ3388 => ?_)
        have fr3389 : fz 49 g [0] J J3388 := by rw [eJ3388]; exact fzm_pp hy frj0 (by decide) (by decide)
        clear eJ3388
        refine WP_aload_n dX11_findMeet_83 rfl ?_
        refine WP_lconst (0) dX11_findMeet_84 rfl ?_
        obtain ⟨l3390, hl3390, el3390⟩ : ∃ v : Int64, v.toInt = 0 ∧ (0 : Int64) = v := ⟨_, rfl, rfl⟩
        rw [el3390]; clear el3390
        refine WQ_putl dX11_findMeet_85 fX11_530 rfl rfl (ly_is hy 0 11 rfl) (fun J3391 eJ3391 => ?_)
        have fr3392 : fz 49 g [0] J J3391 := by rw [eJ3391]; exact fzm_pp hy fr3389 (by decide) (by decide)
        clear eJ3391
        refine WQ_iconst (0) (0) dX11_findMeet_88 rfl rfl (fun v3393 hv3393 => ?_)
        refine WP_istore (ls' := [(0, _), (1, _), (2, _), (3, _), (4, _), (5, _), (6, _), (7, _), (8, _), (10, _)]) dX11_findMeet_89 (by decide) rfl ?_
        have lp91_3397 : ∀ (mz : Nat) (i3394 : Int32) (I3395 : pI) (J3396 : pJ), MP g n L I3395 → fz 49 g [] I I3395 → fz 49 g [0] J J3396 → fs g [] I I3395 → ∀ (w3397 : Int32), I3395 (ad g 0) 10 = w3397 → 0 ≤ i3394.toInt → i3394.toInt ≤ 40 → w3397.toInt = w3371.toInt → (41 - i3394.toInt).toNat < mz → WP g mX11_findMeet 91 [(0, .ref (ad g 0)), (1, .int so), (2, .int se), (3, .int mm), (4, .int r), (5, .int t), (6, .int i3375), (7, .int i3376), (8, .long l3386), (10, .int i3394)] [] I3395 J3396 R (fun r I' J' R' => (MP g n L I' ∧ R' = R ∧ fz 49 g [] I I' ∧ fz 49 g [0] J J' ∧ fs g [] I I' ∧ I' (ad g 0) 10 = I (ad g 0) 10) ∧ r = none) := by
          intro mz
          induction mz with
          | zero =>
            intro i3394 I3395 J3396 hI3395 fiI3395 fjJ3396 fqI3395 w3397 ew3397 ai3394 bi3394 j0_I3395 hmlp91_3397
            exact absurd hmlp91_3397 (Nat.not_lt_zero _)
          | succ mz ihlp91_3397 =>
            intro i3394 I3395 J3396 hI3395 fiI3395 fjJ3396 fqI3395 w3397 ew3397 ai3394 bi3394 j0_I3395 hmlp91_3397
            have bw3397 := BT_get hI3395.1.1 0 10 11 (0) (0) (4) (by decide) 10 (by decide) (by decide)
            rw [ew3397] at bw3397
            have e3399 : I3395 (ad g 0) 1 = L := hI3395.1.2
            have b3400 := BT_get hI3395.1.1 0 1 2 (0) (0) (900) (by decide) 1 (by decide) (by decide)
            rw [e3399] at b3400
            refine WP_iload dX11_findMeet_91 rfl ?_
            refine WP_iload dX11_findMeet_93 rfl ?_
            refine WQ_icmp_ge 231 dX11_findMeet_95 rfl (fun c3400 => ?_) (fun c3400 => ?_)
            · exact WP_vret dX11_findMeet_231 rfl ⟨⟨hI3395, rfl, fiI3395, fjJ3396, fqI3395, (by rw [ew3397, ew3371] <;> exact (eq32 _ _).mpr (by omega))⟩, rfl⟩
            · refine WP_aload_n dX11_findMeet_98 rfl ?_
              refine WQ_getl dX11_findMeet_99 fX11_527 rfl (ly_is hy 0 11 rfl) (fun l3402 el3402 => ?_)
              refine WP_lload dX11_findMeet_102 rfl ?_
              refine WP_ldc2 (1000) dX11_findMeet_104 klX11_488 ?_
              obtain ⟨l3403, hl3403, el3403⟩ : ∃ v : Int64, v.toInt = (1000) ∧ ((1000) : Int64) = v := ⟨_, rfl, rfl⟩
              rw [el3403]; clear el3403
              refine WP_aload_n dX11_findMeet_107 rfl ?_
              refine WP_getr dX11_findMeet_108 fX11_310 rfl (ly_is hy 0 11 rfl) (rf hr 0 71 46 (by decide)) ?_
              refine WP_iload_n dX11_findMeet_111 rfl ?_
              refine WQ_ialdu dX11_findMeet_112 (ly_is hy 46 13 rfl) (ly_n hy 46 4 rfl) (by omega) (by omega) (fun v3404 => ?_)
              refine WQ_i2l dX11_findMeet_113 (fun l3405 hl3405 => ?_)
              refine WQ_lmul dX11_findMeet_114 (fun l3406 => ?_)
              refine WP_aload_n dX11_findMeet_115 rfl ?_
              refine WQ_getl dX11_findMeet_116 fX11_530 rfl (ly_is hy 0 11 rfl) (fun l3407 el3407 => ?_)
              refine WQ_ladd dX11_findMeet_119 (fun l3408 => ?_)
              refine WQ_lmul dX11_findMeet_120 (fun l3409 => ?_)
              refine WP_ldc2 (1000) dX11_findMeet_121 klX11_488 ?_
              obtain ⟨l3410, hl3410, el3410⟩ : ∃ v : Int64, v.toInt = (1000) ∧ ((1000) : Int64) = v := ⟨_, rfl, rfl⟩
              rw [el3410]; clear el3410
              refine WP_lload dX11_findMeet_124 rfl ?_
              refine WQ_lsub dX11_findMeet_126 (fun l3411 => ?_)
              refine WP_aload_n dX11_findMeet_127 rfl ?_
              refine WP_getl dX11_findMeet_128 fX11_527 rfl (ly_is hy 0 11 rfl) ?_
              rw [el3402]
              refine WQ_lmul dX11_findMeet_131 (fun l3412 => ?_)
              refine WQ_ladd dX11_findMeet_132 (fun l3413 => ?_)
              refine WP_ldc2 (1000) dX11_findMeet_133 klX11_488 ?_
              obtain ⟨l3414, hl3414, el3414⟩ : ∃ v : Int64, v.toInt = (1000) ∧ ((1000) : Int64) = v := ⟨_, rfl, rfl⟩
              rw [el3414]; clear el3414
              refine WQ_ldiv dX11_findMeet_136 (by omega) (fun l3415 => ?_)
              refine WQ_maxl dX11_findMeet_137 lX11_533 ⟨by decide, Nat.le_of_ble_eq_true rfl⟩ (fun l3416 => ?_)
              refine WP_lstore (ls' := [(0, _), (1, _), (2, _), (3, _), (4, _), (5, _), (6, _), (7, _), (8, _), (10, _), (11, _)]) dX11_findMeet_140 (by decide) rfl ?_
              refine WP_iload_n dX11_findMeet_142 rfl ?_
              refine WP_iload_n dX11_findMeet_143 rfl ?_
              refine WQ_ishru dX11_findMeet_144 (fun v3417 => ?_)
              refine WQ_iconst (1) (1) dX11_findMeet_145 rfl rfl (fun v3418 hv3418 => ?_)
              refine WQ_iandu dX11_findMeet_146 (fun v3419 => ?_)
              refine WQ_if_ne 157 dX11_findMeet_147 rfl (fun c3419 => ?_) (fun c3419 => ?_)
              · refine WP_ldc2 (10) dX11_findMeet_157 klX11_353 ?_
                obtain ⟨l3421, hl3421, el3421⟩ : ∃ v : Int64, v.toInt = (10) ∧ ((10) : Int64) = v := ⟨_, rfl, rfl⟩
                rw [el3421]; clear el3421
                refine WP_iload_n dX11_findMeet_160 rfl ?_
                refine WQ_i2l dX11_findMeet_161 (fun l3422 hl3422 => ?_)
                refine WQ_lmul dX11_findMeet_162 (fun l3423 => ?_)
                refine WP_aload_n dX11_findMeet_163 rfl ?_
                refine WP_getl dX11_findMeet_164 fX11_527 rfl (ly_is hy 0 11 rfl) ?_
                rw [el3402]
                refine WP_ldc2 (1000) dX11_findMeet_167 klX11_488 ?_
                obtain ⟨l3424, hl3424, el3424⟩ : ∃ v : Int64, v.toInt = (1000) ∧ ((1000) : Int64) = v := ⟨_, rfl, rfl⟩
                rw [el3424]; clear el3424
                refine WP_aload_n dX11_findMeet_170 rfl ?_
                refine WP_getr dX11_findMeet_171 fX11_313 rfl (ly_is hy 0 11 rfl) (rf hr 0 72 47 (by decide)) ?_
                refine WP_iload_n dX11_findMeet_174 rfl ?_
                refine WQ_ialdu dX11_findMeet_175 (ly_is hy 47 13 rfl) (ly_n hy 47 4 rfl) (by omega) (by omega) (fun v3425 => ?_)
                refine WQ_i2l dX11_findMeet_176 (fun l3426 hl3426 => ?_)
                refine WQ_lmul dX11_findMeet_177 (fun l3427 => ?_)
                refine WQ_lsub dX11_findMeet_178 (fun l3428 => ?_)
                refine WQ_lmul dX11_findMeet_179 (fun l3429 => ?_)
                refine WP_ldc2 (1000) dX11_findMeet_180 klX11_488 ?_
                obtain ⟨l3430, hl3430, el3430⟩ : ∃ v : Int64, v.toInt = (1000) ∧ ((1000) : Int64) = v := ⟨_, rfl, rfl⟩
                rw [el3430]; clear el3430
                refine WP_ldc2 (10) dX11_findMeet_183 klX11_353 ?_
                obtain ⟨l3431, hl3431, el3431⟩ : ∃ v : Int64, v.toInt = (10) ∧ ((10) : Int64) = v := ⟨_, rfl, rfl⟩
                rw [el3431]; clear el3431
                refine WP_iload_n dX11_findMeet_186 rfl ?_
                refine WQ_i2l dX11_findMeet_187 (fun l3432 hl3432 => ?_)
                refine WQ_lmul dX11_findMeet_188 (fun l3433 => ?_)
                refine WQ_lsub dX11_findMeet_189 (fun l3434 => ?_)
                refine WP_aload_n dX11_findMeet_190 rfl ?_
                refine WP_getl dX11_findMeet_191 fX11_530 rfl (ly_is hy 0 11 rfl) ?_
                rw [el3407]
                refine WQ_lmul dX11_findMeet_194 (fun l3435 => ?_)
                refine WQ_ladd dX11_findMeet_195 (fun l3436 => ?_)
                refine WP_ldc2 (1000) dX11_findMeet_196 klX11_488 ?_
                obtain ⟨l3437, hl3437, el3437⟩ : ∃ v : Int64, v.toInt = (1000) ∧ ((1000) : Int64) = v := ⟨_, rfl, rfl⟩
                rw [el3437]; clear el3437
                refine WQ_ldiv dX11_findMeet_199 (by omega) (fun l3438 => ?_)
                refine WP_lstore (ls' := [(0, _), (1, _), (2, _), (3, _), (4, _), (5, _), (6, _), (7, _), (8, _), (10, _), (11, _), (13, _)]) dX11_findMeet_200 (by decide) rfl ?_
                refine WP_aload_n dX11_findMeet_202 rfl ?_
                refine WP_lload dX11_findMeet_203 rfl ?_
                refine WP_lload dX11_findMeet_205 rfl ?_
                refine WP_iload dX11_findMeet_207 rfl ?_
                refine WQ_i2l dX11_findMeet_209 (fun l3439 hl3439 => ?_)
                refine WQ_lmul dX11_findMeet_210 (fun l3440 => ?_)
                refine WP_ldc2 (1000) dX11_findMeet_211 klX11_488 ?_
                obtain ⟨l3441, hl3441, el3441⟩ : ∃ v : Int64, v.toInt = (1000) ∧ ((1000) : Int64) = v := ⟨_, rfl, rfl⟩
                rw [el3441]; clear el3441
                refine WQ_ldiv dX11_findMeet_214 (by omega) (fun l3442 => ?_)
                refine WQ_lsub dX11_findMeet_215 (fun l3443 => ?_)
                refine WQ_putl dX11_findMeet_216 fX11_527 rfl rfl (ly_is hy 0 11 rfl) (fun J3444 eJ3444 => ?_)
                have fr3445 : fz 49 g [0] J J3444 := by rw [eJ3444]; exact fzm_pp hy fjJ3396 (by decide) (by decide)
                clear eJ3444
                refine WP_aload_n dX11_findMeet_219 rfl ?_
                refine WP_lload dX11_findMeet_220 rfl ?_
                refine WQ_putl dX11_findMeet_222 fX11_530 rfl rfl (ly_is hy 0 11 rfl) (fun J3446 eJ3446 => ?_)
                have fr3447 : fz 49 g [0] J J3446 := by rw [eJ3446]; exact fzm_pp hy fr3445 (by decide) (by decide)
                clear eJ3446
                refine WP_iinc (ls' := [(0, _), (1, _), (2, _), (3, _), (4, _), (5, _), (6, _), (7, _), (8, _), (10, _), (11, _), (13, _)]) dX11_findMeet_225 rfl (by decide) rfl ?_
                have hv3448 : (i3394 + Int32.ofInt (1)).toInt = i3394.toInt + (1) := ia_n rfl (by omega) (by omega)
                generalize i3394 + Int32.ofInt (1) = v3448 at hv3448 ⊢
                refine WP_goto 91 dX11_findMeet_228 rfl ?_
                exact WP_sub (fc rfl (fc rfl (fc rfl (fc rfl (fc rfl (fc rfl (fc rfl (fc rfl (fc rfl (fc rfl fn)))))))))) (ihlp91_3397 v3448 I3395 J3446 hI3395 fiI3395 fr3447 fqI3395 w3397 ew3397 (by omega) (by omega) (by omega) (by omega))
              · refine WP_aload_n dX11_findMeet_150 rfl ?_
                refine WP_getl dX11_findMeet_151 fX11_530 rfl (ly_is hy 0 11 rfl) ?_
                rw [el3407]
                refine WP_goto 200 dX11_findMeet_154 rfl ?_
                refine WP_lstore (ls' := [(0, _), (1, _), (2, _), (3, _), (4, _), (5, _), (6, _), (7, _), (8, _), (10, _), (11, _), (13, _)]) dX11_findMeet_200 (by decide) rfl ?_
                refine WP_aload_n dX11_findMeet_202 rfl ?_
                refine WP_lload dX11_findMeet_203 rfl ?_
                refine WP_lload dX11_findMeet_205 rfl ?_
                refine WP_iload dX11_findMeet_207 rfl ?_
                refine WQ_i2l dX11_findMeet_209 (fun l3449 hl3449 => ?_)
                refine WQ_lmul dX11_findMeet_210 (fun l3450 => ?_)
                refine WP_ldc2 (1000) dX11_findMeet_211 klX11_488 ?_
                obtain ⟨l3451, hl3451, el3451⟩ : ∃ v : Int64, v.toInt = (1000) ∧ ((1000) : Int64) = v := ⟨_, rfl, rfl⟩
                rw [el3451]; clear el3451
                refine WQ_ldiv dX11_findMeet_214 (by omega) (fun l3452 => ?_)
                refine WQ_lsub dX11_findMeet_215 (fun l3453 => ?_)
                refine WQ_putl dX11_findMeet_216 fX11_527 rfl rfl (ly_is hy 0 11 rfl) (fun J3454 eJ3454 => ?_)
                have fr3455 : fz 49 g [0] J J3454 := by rw [eJ3454]; exact fzm_pp hy fjJ3396 (by decide) (by decide)
                clear eJ3454
                refine WP_aload_n dX11_findMeet_219 rfl ?_
                refine WP_lload dX11_findMeet_220 rfl ?_
                refine WQ_putl dX11_findMeet_222 fX11_530 rfl rfl (ly_is hy 0 11 rfl) (fun J3456 eJ3456 => ?_)
                have fr3457 : fz 49 g [0] J J3456 := by rw [eJ3456]; exact fzm_pp hy fr3455 (by decide) (by decide)
                clear eJ3456
                refine WP_iinc (ls' := [(0, _), (1, _), (2, _), (3, _), (4, _), (5, _), (6, _), (7, _), (8, _), (10, _), (11, _), (13, _)]) dX11_findMeet_225 rfl (by decide) rfl ?_
                have hv3458 : (i3394 + Int32.ofInt (1)).toInt = i3394.toInt + (1) := ia_n rfl (by omega) (by omega)
                generalize i3394 + Int32.ofInt (1) = v3458 at hv3458 ⊢
                refine WP_goto 91 dX11_findMeet_228 rfl ?_
                exact WP_sub (fc rfl (fc rfl (fc rfl (fc rfl (fc rfl (fc rfl (fc rfl (fc rfl (fc rfl (fc rfl fn)))))))))) (ihlp91_3397 v3458 I3395 J3456 hI3395 fiI3395 fr3457 fqI3395 w3397 ew3397 (by omega) (by omega) (by omega) (by omega))
        exact WP_sub (fc rfl (fc rfl (fc rfl (fc rfl (fc rfl (fc rfl (fc rfl (fc rfl (fc rfl (fc rfl fn)))))))))) (lp91_3397 _ v3393 I J3391 hI fr0 fr3392 frq0 w3371 ew3371 (by omega) (by omega) (by omega) (Nat.lt_succ_self _))
      · refine WP_iload dX11_findMeet_18 rfl ?_
        refine WP_aload_n dX11_findMeet_20 rfl ?_
        refine WP_getr dX11_findMeet_21 fX11_235 rfl (ly_is hy 0 11 rfl) (rf hr 0 26 8 (by decide)) ?_
        refine WP_iload dX11_findMeet_24 rfl ?_
        refine WQ_ialdf (q := i3377.toInt.toNat) dX11_findMeet_26 (ly_is hy 8 13 rfl) (ly_n hy 8 4 rfl) (by omega) (by omega) (by omega) (pp_get hI (by omega) (by rw [ew3371]; omega)) (fun v3459 av3459 bv3459 => ?_)
        refine WQ_iadd dX11_findMeet_27 (by omega) (by omega) (fun v3460 hv3460 => ?_)
        refine WP_istore (ls' := [(0, _), (1, _), (2, _), (3, _), (4, _), (5, _), (6, _), (7, _), (8, _)]) dX11_findMeet_28 (by decide) rfl ?_
        refine WP_iload dX11_findMeet_30 rfl ?_
        refine WP_iload_n dX11_findMeet_32 rfl ?_
        refine WP_iload dX11_findMeet_33 rfl ?_
        refine WQ_ishru dX11_findMeet_35 (fun v3461 => ?_)
        refine WQ_iconst (1) (1) dX11_findMeet_36 rfl rfl (fun v3462 hv3462 => ?_)
        refine WQ_iandu dX11_findMeet_37 (fun v3463 => ?_)
        refine WQ_iconst (1) (1) dX11_findMeet_38 rfl rfl (fun v3464 hv3464 => ?_)
        have jn53_3467 : ∀ (v3467 : Int32), 0 ≤ v3467.toInt → v3467.toInt ≤ 99 → WP g mX11_findMeet 53 [(0, .ref (ad g 0)), (1, .int so), (2, .int se), (3, .int mm), (4, .int r), (5, .int t), (6, .int i3375), (7, .int v3460), (8, .int i3377)] [.int v3467, .int i3375] I J R (fun r I' J' R' => (MP g n L I' ∧ R' = R ∧ fz 49 g [] I I' ∧ fz 49 g [0] J J' ∧ fs g [] I I' ∧ I' (ad g 0) 10 = I (ad g 0) 10) ∧ r = none) := by
          intro v3467 av3467 bv3467
          refine WQ_iaddu dX11_findMeet_53 (fun v3469 => ?_)
          refine WP_istore (ls' := [(0, _), (1, _), (2, _), (3, _), (4, _), (5, _), (6, _), (7, _), (8, _)]) dX11_findMeet_54 (by decide) rfl ?_
          refine WP_iinc (ls' := [(0, _), (1, _), (2, _), (3, _), (4, _), (5, _), (6, _), (7, _), (8, _)]) dX11_findMeet_56 rfl (by decide) rfl ?_
          have hv3470 : (i3377 + Int32.ofInt (1)).toInt = i3377.toInt + (1) := ia_n rfl (by omega) (by omega)
          generalize i3377 + Int32.ofInt (1) = v3470 at hv3470 ⊢
          refine WP_goto 9 dX11_findMeet_59 rfl ?_
          exact WP_sub (fc rfl (fc rfl (fc rfl (fc rfl (fc rfl (fc rfl (fc rfl (fc rfl (fc rfl fn))))))))) (ihlp9_3377 v3469 v3460 v3470 (by omega) (by omega) (by omega) (by omega) (by omega) (by omega) (by omega) (by omega))
        refine WQ_icmp_ne 52 dX11_findMeet_39 rfl (fun c3470 => ?_) (fun c3470 => ?_)
        · refine WQ_iconst (0) (0) dX11_findMeet_52 rfl rfl (fun v3472 hv3472 => ?_)
          exact WP_sub (fc rfl (fc rfl (fc rfl (fc rfl (fc rfl (fc rfl (fc rfl (fc rfl (fc rfl fn))))))))) (jn53_3467 v3472 (by omega) (by omega))
        · refine WP_aload_n dX11_findMeet_42 rfl ?_
          refine WP_getr dX11_findMeet_43 fX11_235 rfl (ly_is hy 0 11 rfl) (rf hr 0 26 8 (by decide)) ?_
          refine WP_iload dX11_findMeet_46 rfl ?_
          refine WQ_iald dX11_findMeet_48 (ly_is hy 8 13 rfl) (ly_n hy 8 4 rfl) (by omega) (by omega) (fun q hq => BT_get hI.1.1 8 0 4 (0) (0) (99) (by decide) q (Nat.zero_le _) hq) (fun v3473 av3473 bv3473 ev3473 => ?_)
          clear ev3473
          refine WP_goto 53 dX11_findMeet_49 rfl ?_
          exact WP_sub (fc rfl (fc rfl (fc rfl (fc rfl (fc rfl (fc rfl (fc rfl (fc rfl (fc rfl fn))))))))) (jn53_3467 v3473 (by omega) (by omega))
  exact WP_sub (fc rfl (fc rfl (fc rfl (fc rfl (fc rfl (fc rfl (fc rfl (fc rfl (fc rfl fn))))))))) (lp9_3377 _ v3372 v3373 v3374 (by omega) (by omega) (by omega) (by omega) (by omega) (by omega) (by omega) (Nat.lt_succ_self _))
set_option maxHeartbeats 4000000 in
set_option maxRecDepth 100000 in
theorem sm_meet {g : GG} {n : Int} {L : Int32} (hy : Ly g)  {I : pI} {J : pJ} {R : pR} (hr : Rf g R) (hI : MP g n L I) (a : Int32) (b : Int32) (c : Int32) (e : Int32) (f : Int32) (h : Int32)  : SP g mX11_meet [.ref (ad g 0), .int a, .int b, .int c, .int e, .int f, .int h] I J R (fun r I' J' R' => (MP g n L I' ∧ R' = R ∧ fz 49 g [] I I' ∧ fz 49 g [0] J J' ∧ fs g [] I I') ∧ ∃ v : Int32, r = some (.int v)) := by
  refine SP_of ⟨by decide, rfl⟩ (Nat.le_of_ble_eq_true rfl) ?_
  have e3474 : I (ad g 0) 1 = L := hI.1.2
  have b3475 := BT_get hI.1.1 0 1 2 (0) (0) (900) (by decide) 1 (by decide) (by decide)
  rw [e3474] at b3475
  have fr0 : fz 49 g [] I I := fz_rf
  have frj0 : fz 49 g [0] J J := fz_rf
  have frq0 : fs g [] I I := fs_rf
  refine WP_aload_n dX11_meet_0 rfl ?_
  refine WP_iload_n dX11_meet_1 rfl ?_
  refine WP_callV1 (k := 11) dX11_meet_2 ⟨⟨⟨by decide, by decide⟩, zX11_isSort⟩, lX11_367, by decide, rfl, vX11_isSort.1, vX11_isSort.2⟩ (ly_is hy 0 11 rfl) (sm_isSort hy hr hI a ) (Nat.le_of_ble_eq_true rfl) ?_
  intro r Ia Ja Ra hq
  obtain ⟨⟨ea, eb, ec⟩, v3476, rfl, av3476, bv3476, cv3476⟩ := hq
  show WP _ _ _ _ (.int _ :: _) _ _ _ _
  rw [ea, eb, ec]
  clear ea eb ec Ia Ja Ra
  obtain ⟨w3477, ew3477⟩ : ∃ w : Int32, I (ad g 0) 10 = w := ⟨_, rfl⟩
  have bw3477 := BT_get hI.1.1 0 10 11 (0) (0) (4) (by decide) 10 (by decide) (by decide)
  rw [ew3477] at bw3477
  rw [ew3477] at cv3476
  refine WQ_if_eq 47 dX11_meet_5 rfl (fun c3477 => ?_) (fun c3477 => ?_)
  · refine WP_ldcw (-1000000) dX11_meet_47 kX11_544 ?_
    obtain ⟨v3479, hv3479, ev3479⟩ : ∃ v : Int32, v.toInt = -1000000 ∧ ((-1000000) : Int32) = v := ⟨(-1000000), rfl, rfl⟩
    rw [ev3479]; clear ev3479
    exact WP_iret dX11_meet_50 rfl ⟨⟨hI, rfl, fr0, frj0, frq0⟩, _, rfl⟩
  · refine WP_iload_n dX11_meet_8 rfl ?_
    refine WQ_i2l dX11_meet_9 (fun l3480 hl3480 => ?_)
    refine WP_lconst (0) dX11_meet_10 rfl ?_
    obtain ⟨l3481, hl3481, el3481⟩ : ∃ v : Int64, v.toInt = 0 ∧ (0 : Int64) = v := ⟨_, rfl, rfl⟩
    rw [el3481]; clear el3481
    refine WP_lconst (1) dX11_meet_11 rfl ?_
    obtain ⟨l3482, hl3482, el3482⟩ : ∃ v : Int64, v.toInt = 1 ∧ (1 : Int64) = v := ⟨_, rfl, rfl⟩
    rw [el3482]; clear el3482
    refine WP_aload_n dX11_meet_12 rfl ?_
    refine WQ_getim dX11_meet_13 fX11_329 rfl (ly_is hy 0 11 rfl) ew3477 ?_
    refine WQ_lshl dX11_meet_16 (fun l3483 => ?_)
    refine WP_lconst (1) dX11_meet_17 rfl ?_
    obtain ⟨l3484, hl3484, el3484⟩ : ∃ v : Int64, v.toInt = 1 ∧ (1 : Int64) = v := ⟨_, rfl, rfl⟩
    rw [el3484]; clear el3484
    refine WQ_lsub dX11_meet_18 (fun l3485 => ?_)
    refine WP_callS3 dX11_meet_19 ⟨⟨⟨by decide, by decide⟩, zX11_in⟩, lX11_52, tX11_in⟩ (sm_in hy hr hI l3480 l3481 l3485 ) (Nat.le_of_ble_eq_true rfl) ?_
    intro r Ia Ja Ra hq
    obtain ⟨⟨ea, eb, ec⟩, v3486, rfl, av3486, bv3486, cv3486⟩ := hq
    show WP _ _ _ _ (.int _ :: _) _ _ _ _
    rw [ea, eb, ec]
    clear ea eb ec Ia Ja Ra
    refine WQ_if_eq 47 dX11_meet_22 rfl (fun c3486 => ?_) (fun c3486 => ?_)
    · refine WP_ldcw (-1000000) dX11_meet_47 kX11_544 ?_
      obtain ⟨v3488, hv3488, ev3488⟩ : ∃ v : Int32, v.toInt = -1000000 ∧ ((-1000000) : Int32) = v := ⟨(-1000000), rfl, rfl⟩
      rw [ev3488]; clear ev3488
      exact WP_iret dX11_meet_50 rfl ⟨⟨hI, rfl, fr0, frj0, frq0⟩, _, rfl⟩
    · refine WP_iload_n dX11_meet_25 rfl ?_
      refine WP_iload dX11_meet_26 rfl ?_
      refine WP_iload dX11_meet_28 rfl ?_
      refine WP_callS3 dX11_meet_30 ⟨⟨⟨by decide, by decide⟩, zX11_isMeet⟩, lX11_540, tX11_isMeet⟩ (sm_isMeet hy hr hI c e f   ) (Nat.le_of_ble_eq_true rfl) ?_
      intro r Ia Ja Ra hq
      obtain ⟨⟨ea, eb, ec⟩, v3489, rfl, av3489, bv3489, cv3489⟩ := hq
      show WP _ _ _ _ (.int _ :: _) _ _ _ _
      rw [ea, eb, ec]
      clear ea eb ec Ia Ja Ra
      refine WQ_if_eq 47 dX11_meet_33 rfl (fun c3489 => ?_) (fun c3489 => ?_)
      · refine WP_ldcw (-1000000) dX11_meet_47 kX11_544 ?_
        obtain ⟨v3491, hv3491, ev3491⟩ : ∃ v : Int32, v.toInt = -1000000 ∧ ((-1000000) : Int32) = v := ⟨(-1000000), rfl, rfl⟩
        rw [ev3491]; clear ev3491
        exact WP_iret dX11_meet_50 rfl ⟨⟨hI, rfl, fr0, frj0, frq0⟩, _, rfl⟩
      · refine WP_iload dX11_meet_36 rfl ?_
        refine WQ_i2l dX11_meet_38 (fun l3492 hl3492 => ?_)
        refine WP_lconst (0) dX11_meet_39 rfl ?_
        obtain ⟨l3493, hl3493, el3493⟩ : ∃ v : Int64, v.toInt = 0 ∧ (0 : Int64) = v := ⟨_, rfl, rfl⟩
        rw [el3493]; clear el3493
        refine WP_lconst (1) dX11_meet_40 rfl ?_
        obtain ⟨l3494, hl3494, el3494⟩ : ∃ v : Int64, v.toInt = 1 ∧ (1 : Int64) = v := ⟨_, rfl, rfl⟩
        rw [el3494]; clear el3494
        refine WP_callS3 dX11_meet_41 ⟨⟨⟨by decide, by decide⟩, zX11_in⟩, lX11_52, tX11_in⟩ (sm_in hy hr hI l3492 l3493 l3494 ) (Nat.le_of_ble_eq_true rfl) ?_
        intro r Ia Ja Ra hq
        obtain ⟨⟨ea, eb, ec⟩, v3495, rfl, av3495, bv3495, cv3495⟩ := hq
        show WP _ _ _ _ (.int _ :: _) _ _ _ _
        rw [ea, eb, ec]
        clear ea eb ec Ia Ja Ra
        refine WQ_if_ne 51 dX11_meet_44 rfl (fun c3495 => ?_) (fun c3495 => ?_)
        · refine WP_aload_n dX11_meet_51 rfl ?_
          refine WP_iload_n dX11_meet_52 rfl ?_
          refine WP_iload_n dX11_meet_53 rfl ?_
          refine WP_iload_n dX11_meet_54 rfl ?_
          refine WP_iload dX11_meet_55 rfl ?_
          refine WP_iload dX11_meet_57 rfl ?_
          refine WP_callV5 (k := 11) dX11_meet_59 ⟨⟨⟨by decide, by decide⟩, zX11_findMeet⟩, lX11_545, by decide, rfl, vX11_findMeet.1, vX11_findMeet.2⟩ (ly_is hy 0 11 rfl) (sm_findMeet hy hr hI a b c e f (by omega) (by omega)    (by omega) (by omega) (by rw [ew3477]; omega)) (Nat.le_of_ble_eq_true rfl) ?_
          intro r I3497 J3498 Ra hq
          obtain ⟨⟨hI3497, ec, fiI3497, fjI3497, fqI3497, pI3497⟩, rfl⟩ := hq
          rw [ec]
          clear ec Ra
          have fr3499 : fz 49 g [] I I3497 := fz_tr fr0 (fz_mono fiI3497 (by decide))
          have fr3500 : fs g [] I I3497 := fs_tr frq0 (fs_mono fqI3497 (by decide))
          have fr3501 : fz 49 g [0] J J3498 := fz_tr frj0 (fz_mono fjI3497 (by decide))
          have e3502 : I3497 (ad g 0) 1 = L := hI3497.1.2
          have b3503 := BT_get hI3497.1.1 0 1 2 (0) (0) (900) (by decide) 1 (by decide) (by decide)
          rw [e3502] at b3503
          obtain ⟨w3504, ew3504⟩ : ∃ w : Int32, I3497 (ad g 0) 10 = w := ⟨_, rfl⟩
          have bw3504 := BT_get hI3497.1.1 0 10 11 (0) (0) (4) (by decide) 10 (by decide) (by decide)
          rw [ew3504] at bw3504
          rw [ew3504] at pI3497
          refine WP_iload dX11_meet_62 rfl ?_
          refine WQ_if_ne 74 dX11_meet_64 rfl (fun c3506 => ?_) (fun c3506 => ?_)
          · refine WP_aload_n dX11_meet_74 rfl ?_
            refine WQ_getl dX11_meet_75 fX11_530 rfl (ly_is hy 0 11 rfl) (fun l3508 el3508 => ?_)
            refine WQ_l2i dX11_meet_78 (fun v3509 => ?_)
            exact WP_iret dX11_meet_79 rfl ⟨⟨hI3497, rfl, fr3499, fr3501, fr3500⟩, _, rfl⟩
          · refine WP_aload_n dX11_meet_67 rfl ?_
            refine WQ_getl dX11_meet_68 fX11_527 rfl (ly_is hy 0 11 rfl) (fun l3510 el3510 => ?_)
            refine WP_goto 78 dX11_meet_71 rfl ?_
            refine WQ_l2i dX11_meet_78 (fun v3511 => ?_)
            exact WP_iret dX11_meet_79 rfl ⟨⟨hI3497, rfl, fr3499, fr3501, fr3500⟩, _, rfl⟩
        · refine WP_ldcw (-1000000) dX11_meet_47 kX11_544 ?_
          obtain ⟨v3512, hv3512, ev3512⟩ : ∃ v : Int32, v.toInt = -1000000 ∧ ((-1000000) : Int32) = v := ⟨(-1000000), rfl, rfl⟩
          rw [ev3512]; clear ev3512
          exact WP_iret dX11_meet_50 rfl ⟨⟨hI, rfl, fr0, frj0, frq0⟩, _, rfl⟩
set_option maxHeartbeats 4000000 in
set_option maxRecDepth 100000 in
theorem sm_rests {g : GG} {n : Int} {L : Int32} (hy : Ly g)  {I : pI} {J : pJ} {R : pR} (hr : Rf g R) (hI : MP g n L I) (a : Int32) (b : Int32) (c : Int32)  : SP g mX11_rests [.ref (ad g 0), .int a, .int b, .int c] I J R (fun r I' J' R' => (MP g n L I' ∧ R' = R ∧ fz 49 g [] I I' ∧ fz 49 g [0] J J' ∧ fs g [] I I') ∧ ∃ v : Int32, r = some (.int v)) := by
  refine SP_of ⟨by decide, rfl⟩ (Nat.le_of_ble_eq_true rfl) ?_
  have e3513 : I (ad g 0) 1 = L := hI.1.2
  have b3514 := BT_get hI.1.1 0 1 2 (0) (0) (900) (by decide) 1 (by decide) (by decide)
  rw [e3513] at b3514
  have fr0 : fz 49 g [] I I := fz_rf
  have frj0 : fz 49 g [0] J J := fz_rf
  have frq0 : fs g [] I I := fs_rf
  refine WP_iload_n dX11_rests_0 rfl ?_
  refine WP_iload_n dX11_rests_1 rfl ?_
  refine WP_iload_n dX11_rests_2 rfl ?_
  refine WP_callS3 dX11_rests_3 ⟨⟨⟨by decide, by decide⟩, zX11_isMeet⟩, lX11_540, tX11_isMeet⟩ (sm_isMeet hy hr hI a b c   ) (Nat.le_of_ble_eq_true rfl) ?_
  intro r Ia Ja Ra hq
  obtain ⟨⟨ea, eb, ec⟩, v3515, rfl, av3515, bv3515, cv3515⟩ := hq
  show WP _ _ _ _ (.int _ :: _) _ _ _ _
  rw [ea, eb, ec]
  clear ea eb ec Ia Ja Ra
  refine WQ_if_ne 12 dX11_rests_6 rfl (fun c3515 => ?_) (fun c3515 => ?_)
  · refine WQ_iconst (0) (0) dX11_rests_12 rfl rfl (fun v3517 hv3517 => ?_)
    refine WP_istore (ls' := [(0, _), (1, _), (2, _), (3, _), (4, _)]) dX11_rests_13 (by decide) rfl ?_
    refine WQ_iconst (0) (0) dX11_rests_15 rfl rfl (fun v3518 hv3518 => ?_)
    refine WP_istore (ls' := [(0, _), (1, _), (2, _), (3, _), (4, _), (5, _)]) dX11_rests_16 (by decide) rfl ?_
    have lp18_3522 : ∀ (mz : Nat) (i3519 : Int32) (i3520 : Int32) (I3521 : pI) (J3522 : pJ), MP g n L I3521 → fz 49 g [] I I3521 → fz 49 g [0] J J3522 → fs g [] I I3521 → 0 ≤ i3520.toInt → i3520.toInt ≤ 16 → (17 - i3520.toInt).toNat < mz → WP g mX11_rests 18 [(0, .ref (ad g 0)), (1, .int a), (2, .int b), (3, .int c), (4, .int i3519), (5, .int i3520)] [] I3521 J3522 R (fun r I' J' R' => (MP g n L I' ∧ R' = R ∧ fz 49 g [] I I' ∧ fz 49 g [0] J J' ∧ fs g [] I I') ∧ ∃ v : Int32, r = some (.int v)) := by
      intro mz
      induction mz with
      | zero =>
        intro i3519 i3520 I3521 J3522 hI3521 fiI3521 fjJ3522 fqI3521 ai3520 bi3520 hmlp18_3522
        exact absurd hmlp18_3522 (Nat.not_lt_zero _)
      | succ mz ihlp18_3522 =>
        intro i3519 i3520 I3521 J3522 hI3521 fiI3521 fjJ3522 fqI3521 ai3520 bi3520 hmlp18_3522
        have e3524 : I3521 (ad g 0) 1 = L := hI3521.1.2
        have b3525 := BT_get hI3521.1.1 0 1 2 (0) (0) (900) (by decide) 1 (by decide) (by decide)
        rw [e3524] at b3525
        refine WP_iload dX11_rests_18 rfl ?_
        refine WQ_iconst (1) (1) dX11_rests_20 rfl rfl (fun v3526 hv3526 => ?_)
        refine WP_aload_n dX11_rests_21 rfl ?_
        refine WQ_geti dX11_rests_22 fX11_329 rfl (ly_is hy 0 11 rfl) (BT_get hI3521.1.1 0 10 11 (0) (0) (4) (by decide) 10 (by decide) (by decide)) (fun v3527 ev3527 av3527 bv3527 => ?_)
        refine WQ_ishl1 dX11_rests_25 hv3526 (by omega) (by omega) (fun v3528 av3528 bv3528 => ?_)
        refine WQ_icmp_ge 146 dX11_rests_26 rfl (fun c3528 => ?_) (fun c3528 => ?_)
        · refine WP_iload dX11_rests_146 rfl ?_
          exact WP_iret dX11_rests_148 rfl ⟨⟨hI3521, rfl, fiI3521, fjJ3522, fqI3521⟩, _, rfl⟩
        · refine WQ_iconst (1) (1) dX11_rests_29 rfl rfl (fun v3530 hv3530 => ?_)
          refine WP_istore (ls' := [(0, _), (1, _), (2, _), (3, _), (4, _), (5, _), (6, _)]) dX11_rests_30 (by decide) rfl ?_
          refine WQ_iconst (0) (0) dX11_rests_32 rfl rfl (fun v3531 hv3531 => ?_)
          refine WP_istore (ls' := [(0, _), (1, _), (2, _), (3, _), (4, _), (5, _), (6, _), (7, _)]) dX11_rests_33 (by decide) rfl ?_
          have lp35_3535 : ∀ (mz : Nat) (i3532 : Int32) (i3533 : Int32) (I3534 : pI) (J3535 : pJ), MP g n L I3534 → fz 49 g [] I I3534 → fz 49 g [0] J J3535 → fs g [] I I3534 → 0 ≤ i3532.toInt → i3532.toInt ≤ 1 → 0 ≤ i3533.toInt → i3533.toInt ≤ 4 → (5 - i3533.toInt).toNat < mz → WP g mX11_rests 35 [(0, .ref (ad g 0)), (1, .int a), (2, .int b), (3, .int c), (4, .int i3519), (5, .int i3520), (6, .int i3532), (7, .int i3533)] [] I3534 J3535 R (fun r I' J' R' => (MP g n L I' ∧ R' = R ∧ fz 49 g [] I I' ∧ fz 49 g [0] J J' ∧ fs g [] I I') ∧ ∃ v : Int32, r = some (.int v)) := by
            intro mz
            induction mz with
            | zero =>
              intro i3532 i3533 I3534 J3535 hI3534 fiI3534 fjJ3535 fqI3534 ai3532 bi3532 ai3533 bi3533 hmlp35_3535
              exact absurd hmlp35_3535 (Nat.not_lt_zero _)
            | succ mz ihlp35_3535 =>
              intro i3532 i3533 I3534 J3535 hI3534 fiI3534 fjJ3535 fqI3534 ai3532 bi3532 ai3533 bi3533 hmlp35_3535
              have e3537 : I3534 (ad g 0) 1 = L := hI3534.1.2
              have b3538 := BT_get hI3534.1.1 0 1 2 (0) (0) (900) (by decide) 1 (by decide) (by decide)
              rw [e3537] at b3538
              refine WP_iload dX11_rests_35 rfl ?_
              refine WP_aload_n dX11_rests_37 rfl ?_
              refine WQ_geti dX11_rests_38 fX11_329 rfl (ly_is hy 0 11 rfl) (BT_get hI3534.1.1 0 10 11 (0) (0) (4) (by decide) 10 (by decide) (by decide)) (fun v3539 ev3539 av3539 bv3539 => ?_)
              refine WQ_icmp_ge 122 dX11_rests_41 rfl (fun c3539 => ?_) (fun c3539 => ?_)
              · refine WP_iload dX11_rests_122 rfl ?_
                refine WP_iload dX11_rests_124 rfl ?_
                have jn137_3544 : ∀ (v3544 : Int32), WP g mX11_rests 137 [(0, .ref (ad g 0)), (1, .int a), (2, .int b), (3, .int c), (4, .int i3519), (5, .int i3520), (6, .int i3532), (7, .int i3533)] [.int v3544, .int i3519] I3534 J3535 R (fun r I' J' R' => (MP g n L I' ∧ R' = R ∧ fz 49 g [] I I' ∧ fz 49 g [0] J J' ∧ fs g [] I I') ∧ ∃ v : Int32, r = some (.int v)) := by
                  intro v3544 
                  refine WQ_ioru dX11_rests_137 (fun v3546 => ?_)
                  refine WP_istore (ls' := [(0, _), (1, _), (2, _), (3, _), (4, _), (5, _), (6, _), (7, _)]) dX11_rests_138 (by decide) rfl ?_
                  refine WP_iinc (ls' := [(0, _), (1, _), (2, _), (3, _), (4, _), (5, _), (6, _), (7, _)]) dX11_rests_140 rfl (by decide) rfl ?_
                  have hv3547 : (i3520 + Int32.ofInt (1)).toInt = i3520.toInt + (1) := ia_n rfl (by omega) (by omega)
                  generalize i3520 + Int32.ofInt (1) = v3547 at hv3547 ⊢
                  refine WP_goto 18 dX11_rests_143 rfl ?_
                  exact WP_sub (fc rfl (fc rfl (fc rfl (fc rfl (fc rfl (fc rfl fn)))))) (ihlp18_3522 v3546 v3547 I3534 J3535 hI3534 fiI3534 fjJ3535 fqI3534 (by omega) (by omega) (by omega))
                refine WQ_if_eq 136 dX11_rests_126 rfl (fun c3547 => ?_) (fun c3547 => ?_)
                · refine WQ_iconst (0) (0) dX11_rests_136 rfl rfl (fun v3549 hv3549 => ?_)
                  exact WP_sub (fc rfl (fc rfl (fc rfl (fc rfl (fc rfl (fc rfl (fc rfl (fc rfl fn)))))))) (jn137_3544 v3549)
                · refine WQ_iconst (1) (1) dX11_rests_129 rfl rfl (fun v3550 hv3550 => ?_)
                  refine WP_iload dX11_rests_130 rfl ?_
                  refine WQ_ishlu dX11_rests_132 (fun v3551 => ?_)
                  refine WP_goto 137 dX11_rests_133 rfl ?_
                  exact WP_sub (fc rfl (fc rfl (fc rfl (fc rfl (fc rfl (fc rfl (fc rfl (fc rfl fn)))))))) (jn137_3544 v3551)
              · refine WP_iload dX11_rests_44 rfl ?_
                refine WQ_if_eq 122 dX11_rests_46 rfl (fun c3551 => ?_) (fun c3551 => ?_)
                · refine WP_iload dX11_rests_122 rfl ?_
                  refine WP_iload dX11_rests_124 rfl ?_
                  have jn137_3554 : ∀ (v3554 : Int32), 0 ≤ v3554.toInt → v3554.toInt ≤ 0 → WP g mX11_rests 137 [(0, .ref (ad g 0)), (1, .int a), (2, .int b), (3, .int c), (4, .int i3519), (5, .int i3520), (6, .int i3532), (7, .int i3533)] [.int v3554, .int i3519] I3534 J3535 R (fun r I' J' R' => (MP g n L I' ∧ R' = R ∧ fz 49 g [] I I' ∧ fz 49 g [0] J J' ∧ fs g [] I I') ∧ ∃ v : Int32, r = some (.int v)) := by
                    intro v3554 av3554 bv3554
                    refine WQ_ioru dX11_rests_137 (fun v3556 => ?_)
                    refine WP_istore (ls' := [(0, _), (1, _), (2, _), (3, _), (4, _), (5, _), (6, _), (7, _)]) dX11_rests_138 (by decide) rfl ?_
                    refine WP_iinc (ls' := [(0, _), (1, _), (2, _), (3, _), (4, _), (5, _), (6, _), (7, _)]) dX11_rests_140 rfl (by decide) rfl ?_
                    have hv3557 : (i3520 + Int32.ofInt (1)).toInt = i3520.toInt + (1) := ia_n rfl (by omega) (by omega)
                    generalize i3520 + Int32.ofInt (1) = v3557 at hv3557 ⊢
                    refine WP_goto 18 dX11_rests_143 rfl ?_
                    exact WP_sub (fc rfl (fc rfl (fc rfl (fc rfl (fc rfl (fc rfl fn)))))) (ihlp18_3522 v3556 v3557 I3534 J3535 hI3534 fiI3534 fjJ3535 fqI3534 (by omega) (by omega) (by omega))
                  refine WQ_if_eq 136 dX11_rests_126 rfl (fun c3557 => ?_) (fun c3557 => False.elim (by omega))
                  refine WQ_iconst (0) (0) dX11_rests_136 rfl rfl (fun v3559 hv3559 => ?_)
                  exact WP_sub (fc rfl (fc rfl (fc rfl (fc rfl (fc rfl (fc rfl (fc rfl (fc rfl fn)))))))) (jn137_3554 v3559 (by omega) (by omega))
                · refine WP_aload_n dX11_rests_49 rfl ?_
                  refine WP_iload dX11_rests_50 rfl ?_
                  refine WP_iload dX11_rests_52 rfl ?_
                  refine WP_iload_n dX11_rests_54 rfl ?_
                  refine WP_iload_n dX11_rests_55 rfl ?_
                  refine WP_iload_n dX11_rests_56 rfl ?_
                  refine WP_callV5 (k := 11) dX11_rests_57 ⟨⟨⟨by decide, by decide⟩, zX11_findMeet⟩, lX11_545, by decide, rfl, vX11_findMeet.1, vX11_findMeet.2⟩ (ly_is hy 0 11 rfl) (sm_findMeet hy hr hI3534 i3533 i3520 a b c (by omega) (by omega)    (by omega) (by omega) (by rw [ev3539]; omega)) (Nat.le_of_ble_eq_true rfl) ?_
                  intro r I3560 J3561 Ra hq
                  obtain ⟨⟨hI3560, ec, fiI3560, fjI3560, fqI3560, pI3560⟩, rfl⟩ := hq
                  rw [ec]
                  clear ec Ra
                  have fr3562 : fz 49 g [] I I3560 := fz_tr fiI3534 (fz_mono fiI3560 (by decide))
                  have fr3563 : fs g [] I I3560 := fs_tr fqI3534 (fs_mono fqI3560 (by decide))
                  have fr3564 : fz 49 g [0] J J3561 := fz_tr fjJ3535 (fz_mono fjI3560 (by decide))
                  have e3565 : I3560 (ad g 0) 1 = L := hI3560.1.2
                  have b3566 := BT_get hI3560.1.1 0 1 2 (0) (0) (900) (by decide) 1 (by decide) (by decide)
                  rw [e3565] at b3566
                  obtain ⟨w3567, ew3567⟩ : ∃ w : Int32, I3560 (ad g 0) 10 = w := ⟨_, rfl⟩
                  have bw3567 := BT_get hI3560.1.1 0 10 11 (0) (0) (4) (by decide) 10 (by decide) (by decide)
                  rw [ew3567] at bw3567
                  rw [ew3567] at pI3560
                  refine WP_aload_n dX11_rests_60 rfl ?_
                  refine WQ_getl dX11_rests_61 fX11_527 rfl (ly_is hy 0 11 rfl) (fun l3568 el3568 => ?_)
                  refine WP_aload_n dX11_rests_64 rfl ?_
                  refine WQ_getl dX11_rests_65 fX11_530 rfl (ly_is hy 0 11 rfl) (fun l3569 el3569 => ?_)
                  refine WQ_lsub dX11_rests_68 (fun l3570 => ?_)
                  refine WP_ldc2 (1000) dX11_rests_69 klX11_488 ?_
                  obtain ⟨l3571, hl3571, el3571⟩ : ∃ v : Int64, v.toInt = (1000) ∧ ((1000) : Int64) = v := ⟨_, rfl, rfl⟩
                  rw [el3571]; clear el3571
                  refine WP_aload_n dX11_rests_72 rfl ?_
                  refine WP_getr dX11_rests_73 fX11_313 rfl (ly_is hy 0 11 rfl) (rf hr 0 72 47 (by decide)) ?_
                  refine WP_iload dX11_rests_76 rfl ?_
                  refine WQ_ialdu dX11_rests_78 (ly_is hy 47 13 rfl) (ly_n hy 47 4 rfl) (by omega) (by omega) (fun v3572 => ?_)
                  refine WQ_i2l dX11_rests_79 (fun l3573 hl3573 => ?_)
                  refine WQ_lmul dX11_rests_80 (fun l3574 => ?_)
                  refine WQ_lcmpu dX11_rests_81 (fun v3575 => ?_)
                  have jn90_3578 : ∀ (v3578 : Int32), 0 ≤ v3578.toInt → v3578.toInt ≤ 1 → WP g mX11_rests 90 [(0, .ref (ad g 0)), (1, .int a), (2, .int b), (3, .int c), (4, .int i3519), (5, .int i3520), (6, .int i3532), (7, .int i3533)] [.int v3578] I3560 J3561 R (fun r I' J' R' => (MP g n L I' ∧ R' = R ∧ fz 49 g [] I I' ∧ fz 49 g [0] J J' ∧ fs g [] I I') ∧ ∃ v : Int32, r = some (.int v)) := by
                    intro v3578 av3578 bv3578
                    refine WP_iload dX11_rests_90 rfl ?_
                    refine WP_iload dX11_rests_92 rfl ?_
                    refine WQ_ishru dX11_rests_94 (fun v3580 => ?_)
                    refine WQ_iconst (1) (1) dX11_rests_95 rfl rfl (fun v3581 hv3581 => ?_)
                    refine WQ_iandu dX11_rests_96 (fun v3582 => ?_)
                    refine WQ_iconst (1) (1) dX11_rests_97 rfl rfl (fun v3583 hv3583 => ?_)
                    have jn106_3586 : ∀ (v3586 : Int32), 0 ≤ v3586.toInt → v3586.toInt ≤ 1 → WP g mX11_rests 106 [(0, .ref (ad g 0)), (1, .int a), (2, .int b), (3, .int c), (4, .int i3519), (5, .int i3520), (6, .int i3532), (7, .int i3533)] [.int v3586, .int v3578] I3560 J3561 R (fun r I' J' R' => (MP g n L I' ∧ R' = R ∧ fz 49 g [] I I' ∧ fz 49 g [0] J J' ∧ fs g [] I I') ∧ ∃ v : Int32, r = some (.int v)) := by
                      intro v3586 av3586 bv3586
                      have jn114_3590 : ∀ (v3590 : Int32), 0 ≤ v3590.toInt → v3590.toInt ≤ 1 → WP g mX11_rests 114 [(0, .ref (ad g 0)), (1, .int a), (2, .int b), (3, .int c), (4, .int i3519), (5, .int i3520), (6, .int i3532), (7, .int i3533)] [.int v3590] I3560 J3561 R (fun r I' J' R' => (MP g n L I' ∧ R' = R ∧ fz 49 g [] I I' ∧ fz 49 g [0] J J' ∧ fs g [] I I') ∧ ∃ v : Int32, r = some (.int v)) := by
                        intro v3590 av3590 bv3590
                        refine WP_istore (ls' := [(0, _), (1, _), (2, _), (3, _), (4, _), (5, _), (6, _), (7, _)]) dX11_rests_114 (by decide) rfl ?_
                        refine WP_iinc (ls' := [(0, _), (1, _), (2, _), (3, _), (4, _), (5, _), (6, _), (7, _)]) dX11_rests_116 rfl (by decide) rfl ?_
                        have hv3592 : (i3533 + Int32.ofInt (1)).toInt = i3533.toInt + (1) := ia_n rfl (by omega) (by omega)
                        generalize i3533 + Int32.ofInt (1) = v3592 at hv3592 ⊢
                        refine WP_goto 35 dX11_rests_119 rfl ?_
                        exact WP_sub (fc rfl (fc rfl (fc rfl (fc rfl (fc rfl (fc rfl (fc rfl (fc rfl fn)))))))) (ihlp35_3535 v3590 v3592 I3560 J3561 hI3560 fr3562 fr3564 fr3563 (by omega) (by omega) (by omega) (by omega) (by omega))
                      refine WQ_icmp_ne 113 dX11_rests_106 rfl (fun c3592 => ?_) (fun c3592 => ?_)
                      · refine WQ_iconst (0) (0) dX11_rests_113 rfl rfl (fun v3594 hv3594 => ?_)
                        exact WP_sub (fc rfl (fc rfl (fc rfl (fc rfl (fc rfl (fc rfl (fc rfl (fc rfl fn)))))))) (jn114_3590 v3594 (by omega) (by omega))
                      · refine WQ_iconst (1) (1) dX11_rests_109 rfl rfl (fun v3595 hv3595 => ?_)
                        refine WP_goto 114 dX11_rests_110 rfl ?_
                        exact WP_sub (fc rfl (fc rfl (fc rfl (fc rfl (fc rfl (fc rfl (fc rfl (fc rfl fn)))))))) (jn114_3590 v3595 (by omega) (by omega))
                    refine WQ_icmp_ne 105 dX11_rests_98 rfl (fun c3595 => ?_) (fun c3595 => ?_)
                    · refine WQ_iconst (0) (0) dX11_rests_105 rfl rfl (fun v3597 hv3597 => ?_)
                      exact WP_sub (fc rfl (fc rfl (fc rfl (fc rfl (fc rfl (fc rfl (fc rfl (fc rfl fn)))))))) (jn106_3586 v3597 (by omega) (by omega))
                    · refine WQ_iconst (1) (1) dX11_rests_101 rfl rfl (fun v3598 hv3598 => ?_)
                      refine WP_goto 106 dX11_rests_102 rfl ?_
                      exact WP_sub (fc rfl (fc rfl (fc rfl (fc rfl (fc rfl (fc rfl (fc rfl (fc rfl fn)))))))) (jn106_3586 v3598 (by omega) (by omega))
                  refine WQ_if_lt 89 dX11_rests_82 rfl (fun c3598 => ?_) (fun c3598 => ?_)
                  · refine WQ_iconst (0) (0) dX11_rests_89 rfl rfl (fun v3600 hv3600 => ?_)
                    exact WP_sub (fc rfl (fc rfl (fc rfl (fc rfl (fc rfl (fc rfl (fc rfl (fc rfl fn)))))))) (jn90_3578 v3600 (by omega) (by omega))
                  · refine WQ_iconst (1) (1) dX11_rests_85 rfl rfl (fun v3601 hv3601 => ?_)
                    refine WP_goto 90 dX11_rests_86 rfl ?_
                    exact WP_sub (fc rfl (fc rfl (fc rfl (fc rfl (fc rfl (fc rfl (fc rfl (fc rfl fn)))))))) (jn90_3578 v3601 (by omega) (by omega))
          exact WP_sub (fc rfl (fc rfl (fc rfl (fc rfl (fc rfl (fc rfl (fc rfl (fc rfl fn)))))))) (lp35_3535 _ v3530 v3531 I3521 J3522 hI3521 fiI3521 fjJ3522 fqI3521 (by omega) (by omega) (by omega) (by omega) (Nat.lt_succ_self _))
    exact WP_sub (fc rfl (fc rfl (fc rfl (fc rfl (fc rfl (fc rfl fn)))))) (lp18_3522 _ v3517 v3518 I J hI fr0 frj0 frq0 (by omega) (by omega) (Nat.lt_succ_self _))
  · refine WQ_bipush (-2) (-2) dX11_rests_9 rfl rfl (fun v3602 hv3602 => ?_)
    exact WP_iret dX11_rests_11 rfl ⟨⟨hI, rfl, fr0, frj0, frq0⟩, _, rfl⟩
set_option maxHeartbeats 4000000 in
set_option maxRecDepth 100000 in
theorem sm_follow {g : GG} {n : Int} {L : Int32} (hy : Ly g)  {I : pI} {J : pJ} {R : pR} (hr : Rf g R) (hI : MP g n L I) (k : Int32) (a : Int32) (b : Int32) (r : Int32) (k_lo : 0 ≤ k.toInt) (k_hi : k.toInt ≤ 20) (a_lo : 0 ≤ a.toInt) (a_hi : a.toInt ≤ 9) (b_lo : 0 ≤ b.toInt) (b_hi : b.toInt ≤ 9) (r_lo : 1 ≤ r.toInt) (r_hi : r.toInt ≤ 20) : SP g mX11_follow [.ref (ad g 0), .int k, .int a, .int b, .int r] I J R (fun r I' J' R' => (I' = I ∧ J' = J ∧ R' = R) ∧ ∃ v : Int32, r = some (.int v)) := by
  refine SP_of ⟨by decide, rfl⟩ (Nat.le_of_ble_eq_true rfl) ?_
  have e3603 : I (ad g 0) 1 = L := hI.1.2
  have b3604 := BT_get hI.1.1 0 1 2 (0) (0) (900) (by decide) 1 (by decide) (by decide)
  rw [e3603] at b3604
  refine WP_aload_n dX11_follow_0 rfl ?_
  refine WP_getr dX11_follow_1 fX11_307 rfl (ly_is hy 0 11 rfl) (rf hr 0 69 45 (by decide)) ?_
  refine WQ_bipush (100) (100) dX11_follow_4 rfl rfl (fun v3605 hv3605 => ?_)
  refine WP_iload_n dX11_follow_6 rfl ?_
  refine WQ_imulK (100) dX11_follow_7 hv3605 (by omega) (by omega) (fun v3606 hv3606 => ?_)
  refine WQ_bipush (10) (10) dX11_follow_8 rfl rfl (fun v3607 hv3607 => ?_)
  refine WP_iload_n dX11_follow_10 rfl ?_
  have jn30_3613 : ∀ (v3613 : Int32), 0 ≤ v3613.toInt → v3613.toInt ≤ 9 → WP g mX11_follow 30 [(0, .ref (ad g 0)), (1, .int k), (2, .int a), (3, .int b), (4, .int r)] [.int v3613, .int v3607, .int v3606, .ref (ad g 45)] I J R (fun r I' J' R' => (I' = I ∧ J' = J ∧ R' = R) ∧ ∃ v : Int32, r = some (.int v)) := by
    intro v3613 av3613 bv3613
    refine WQ_imulK (10) dX11_follow_30 hv3607 (by omega) (by omega) (fun v3615 hv3615 => ?_)
    refine WQ_iadd dX11_follow_31 (by omega) (by omega) (fun v3616 hv3616 => ?_)
    refine WP_iload_n dX11_follow_32 rfl ?_
    refine WQ_iadd dX11_follow_33 (by omega) (by omega) (fun v3617 hv3617 => ?_)
    refine WQ_ialdu dX11_follow_34 (ly_is hy 45 13 rfl) (ly_n hy 45 2100 rfl) (by omega) (by omega) (fun v3618 => ?_)
    exact WP_iret dX11_follow_35 rfl ⟨⟨rfl, rfl, rfl⟩, _, rfl⟩
  refine WQ_if_le 29 dX11_follow_11 rfl (fun c3618 => ?_) (fun c3618 => ?_)
  · refine WP_iload_n dX11_follow_29 rfl ?_
    exact WP_sub (fc rfl (fc rfl (fc rfl (fc rfl (fc rfl fn))))) (jn30_3613 a (by omega) (by omega))
  · refine WP_iload_n dX11_follow_14 rfl ?_
    refine WQ_iconst (1) (1) dX11_follow_15 rfl rfl (fun v3620 hv3620 => ?_)
    refine WQ_iadd dX11_follow_16 (by omega) (by omega) (fun v3621 hv3621 => ?_)
    refine WP_iload dX11_follow_17 rfl ?_
    refine WQ_iremu dX11_follow_19 (by omega) (fun v3622 => ?_)
    refine WX_if_ne 29 dX11_follow_20 rfl ?_ ?_
    · refine WP_iload_n dX11_follow_29 rfl ?_
      exact WP_sub (fc rfl (fc rfl (fc rfl (fc rfl (fc rfl fn))))) (jn30_3613 a (by omega) (by omega))
    · refine WP_iload_n dX11_follow_23 rfl ?_
      refine WQ_iconst (1) (1) dX11_follow_24 rfl rfl (fun v3623 hv3623 => ?_)
      refine WQ_isub dX11_follow_25 (by omega) (by omega) (fun v3624 hv3624 => ?_)
      refine WP_goto 30 dX11_follow_26 rfl ?_
      exact WP_sub (fc rfl (fc rfl (fc rfl (fc rfl (fc rfl fn))))) (jn30_3613 v3624 (by omega) (by omega))
set_option maxHeartbeats 4000000 in
set_option maxRecDepth 100000 in
theorem sm_offer {g : GG} {n : Int} {L : Int32} (hy : Ly g)  {I : pI} {J : pJ} {R : pR} (hr : Rf g R) (hI : MP g n L I) (k : Int32) (a : Int32) (b : Int32) (p : Int32) (q : Int32) (r : Int32) (k_lo : 1 ≤ k.toInt) (k_hi : k.toInt ≤ 20) (a_lo : 0 ≤ a.toInt) (a_hi : a.toInt ≤ 9) (b_lo : 0 ≤ b.toInt) (b_hi : b.toInt ≤ 9) (r_lo : 1 ≤ r.toInt) (r_hi : r.toInt ≤ 20) : SP g mX11_offer [.ref (ad g 0), .int k, .int a, .int b, .int p, .int q, .int r] I J R (fun r I' J' R' => (MP g n L I' ∧ R' = R ∧ fz 49 g [0] I I' ∧ fz 49 g [] J J' ∧ fs g [70] I I') ∧ ∃ v : Int32, r = some (.int v)) := by
  refine SP_of ⟨by decide, rfl⟩ (Nat.le_of_ble_eq_true rfl) ?_
  have e3625 : I (ad g 0) 1 = L := hI.1.2
  have b3626 := BT_get hI.1.1 0 1 2 (0) (0) (900) (by decide) 1 (by decide) (by decide)
  rw [e3625] at b3626
  have fr0 : fz 49 g [0] I I := fz_rf
  have frj0 : fz 49 g [] J J := fz_rf
  have frq0 : fs g [70] I I := fs_rf
  refine WP_aload_n dX11_offer_0 rfl ?_
  refine WP_iload_n dX11_offer_1 rfl ?_
  refine WQ_iconst (1) (1) dX11_offer_2 rfl rfl (fun v3627 hv3627 => ?_)
  refine WQ_isub dX11_offer_3 (by omega) (by omega) (fun v3628 hv3628 => ?_)
  refine WP_iload_n dX11_offer_4 rfl ?_
  refine WP_iload_n dX11_offer_5 rfl ?_
  refine WP_iload dX11_offer_6 rfl ?_
  refine WP_callV4 (k := 11) dX11_offer_8 ⟨⟨⟨by decide, by decide⟩, zX11_follow⟩, lX11_508, by decide, rfl, vX11_follow.1, vX11_follow.2⟩ (ly_is hy 0 11 rfl) (sm_follow hy hr hI v3628 a b r (by omega) (by omega) (by omega) (by omega) (by omega) (by omega) (by omega) (by omega)) (Nat.le_of_ble_eq_true rfl) ?_
  intro r Ia Ja Ra hq
  obtain ⟨⟨ea, eb, ec⟩, v3629, rfl⟩ := hq
  show WP _ _ _ _ (.int _ :: _) _ _ _ _
  rw [ea, eb, ec]
  clear ea eb ec Ia Ja Ra
  refine WP_istore (ls' := [(0, _), (1, _), (2, _), (3, _), (4, _), (5, _), (6, _), (7, _)]) dX11_offer_11 (by decide) rfl ?_
  refine WP_iload_n dX11_offer_13 rfl ?_
  have jn53_3645 : ∀ (v3645 : Int32), WP g mX11_offer 53 [(0, .ref (ad g 0)), (1, .int k), (2, .int a), (3, .int b), (4, .int p), (5, .int q), (6, .int r), (7, .int v3629)] [.int v3645] I J R (fun r I' J' R' => (MP g n L I' ∧ R' = R ∧ fz 49 g [0] I I' ∧ fz 49 g [] J J' ∧ fs g [70] I I') ∧ ∃ v : Int32, r = some (.int v)) := by
    intro v3645 
    refine WP_istore (ls' := [(0, _), (1, _), (2, _), (3, _), (4, _), (5, _), (6, _), (7, _), (8, _)]) dX11_offer_53 (by decide) rfl ?_
    refine WP_iload_n dX11_offer_55 rfl ?_
    have jn95_3662 : ∀ (v3662 : Int32), WP g mX11_offer 95 [(0, .ref (ad g 0)), (1, .int k), (2, .int a), (3, .int b), (4, .int p), (5, .int q), (6, .int r), (7, .int v3629), (8, .int v3645)] [.int v3662] I J R (fun r I' J' R' => (MP g n L I' ∧ R' = R ∧ fz 49 g [0] I I' ∧ fz 49 g [] J J' ∧ fs g [70] I I') ∧ ∃ v : Int32, r = some (.int v)) := by
      intro v3662 
      refine WP_istore (ls' := [(0, _), (1, _), (2, _), (3, _), (4, _), (5, _), (6, _), (7, _), (8, _), (9, _)]) dX11_offer_95 (by decide) rfl ?_
      refine WP_aload_n dX11_offer_97 rfl ?_
      refine WP_iload dX11_offer_98 rfl ?_
      refine WP_iload dX11_offer_100 rfl ?_
      have jn110_3666 : ∀ (v3666 : Int32), 0 ≤ v3666.toInt → v3666.toInt ≤ 1 → WP g mX11_offer 110 [(0, .ref (ad g 0)), (1, .int k), (2, .int a), (3, .int b), (4, .int p), (5, .int q), (6, .int r), (7, .int v3629), (8, .int v3645), (9, .int v3662)] [.int v3666, .ref (ad g 0)] I J R (fun r I' J' R' => (MP g n L I' ∧ R' = R ∧ fz 49 g [0] I I' ∧ fz 49 g [] J J' ∧ fs g [70] I I') ∧ ∃ v : Int32, r = some (.int v)) := by
        intro v3666 av3666 bv3666
        refine WQ_putz dX11_offer_110 fX11_512 rfl rfl (by omega) (ly_is hy 0 11 rfl) (fun I3668 eI3668 => ?_)
        have hI3668 : MP g n L I3668 := by rw [eI3668]; exact (mp_w hy hI (c := 0) (mi_f hy hI.1 (c := 0) (0) (0) (1) (by decide) (Or.inr (by decide)) (by decide) (by omega) (by omega)) (by decide) (by decide) (Or.inr (by decide)))
        have e3669 : I3668 (ad g 0) 1 = L := by rw [eI3668, pp_ne _ _ (Or.inr (by decide))]; exact e3625
        have e3670 : I3668 (ad g 0) 70 = v3666 := by rw [eI3668, pp_self]
        have fr3671 : fs g [70] I I3668 := by rw [eI3668]; exact fs_pp0 frq0 (by decide)
        have fr3672 : fz 49 g [0] I I3668 := by rw [eI3668]; exact fzm_pp hy fr0 (by decide) (by decide)
        clear eI3668
        refine WQ_iconst (0) (0) dX11_offer_113 rfl rfl (fun v3673 hv3673 => ?_)
        refine WP_iload dX11_offer_114 rfl ?_
        refine WP_iload dX11_offer_116 rfl ?_
        refine WQ_max dX11_offer_118 lX11_387 ⟨by decide, Nat.le_of_ble_eq_true rfl⟩ (fun v3674 av3674 bv3674 cv3674 => ?_)
        refine WQ_max dX11_offer_121 lX11_387 ⟨by decide, Nat.le_of_ble_eq_true rfl⟩ (fun v3675 av3675 bv3675 cv3675 => ?_)
        exact WP_iret dX11_offer_124 rfl ⟨⟨hI3668, rfl, fr3672, frj0, fr3671⟩, _, rfl⟩
      refine WX_icmp_lt 109 dX11_offer_102 rfl ?_ ?_
      · refine WQ_iconst (0) (0) dX11_offer_109 rfl rfl (fun v3676 hv3676 => ?_)
        exact WP_sub (fc rfl (fc rfl (fc rfl (fc rfl (fc rfl (fc rfl (fc rfl (fc rfl (fc rfl (fc rfl fn)))))))))) (jn110_3666 v3676 (by omega) (by omega))
      · refine WQ_iconst (1) (1) dX11_offer_105 rfl rfl (fun v3677 hv3677 => ?_)
        refine WP_goto 110 dX11_offer_106 rfl ?_
        exact WP_sub (fc rfl (fc rfl (fc rfl (fc rfl (fc rfl (fc rfl (fc rfl (fc rfl (fc rfl (fc rfl fn)))))))))) (jn110_3666 v3677 (by omega) (by omega))
    refine WQ_if_ne 63 dX11_offer_56 rfl (fun c3677 => ?_) (fun c3677 => ?_)
    · refine WP_iload dX11_offer_63 rfl ?_
      refine WQ_sipush (1000) (1000) dX11_offer_65 rfl rfl (fun v3679 hv3679 => ?_)
      refine WP_aload_n dX11_offer_68 rfl ?_
      refine WP_iload_n dX11_offer_69 rfl ?_
      refine WQ_iconst (1) (1) dX11_offer_70 rfl rfl (fun v3680 hv3680 => ?_)
      refine WQ_isub dX11_offer_71 (by omega) (by omega) (fun v3681 hv3681 => ?_)
      refine WP_iload_n dX11_offer_72 rfl ?_
      refine WP_iload_n dX11_offer_73 rfl ?_
      refine WQ_iconst (1) (1) dX11_offer_74 rfl rfl (fun v3682 hv3682 => ?_)
      refine WQ_isub dX11_offer_75 (by omega) (by omega) (fun v3683 hv3683 => ?_)
      refine WP_iload dX11_offer_76 rfl ?_
      refine WP_callV4 (k := 11) dX11_offer_78 ⟨⟨⟨by decide, by decide⟩, zX11_follow⟩, lX11_508, by decide, rfl, vX11_follow.1, vX11_follow.2⟩ (ly_is hy 0 11 rfl) (sm_follow hy hr hI v3681 a v3683 r (by omega) (by omega) (by omega) (by omega) (by omega) (by omega) (by omega) (by omega)) (Nat.le_of_ble_eq_true rfl) ?_
      intro r Ia Ja Ra hq
      obtain ⟨⟨ea, eb, ec⟩, v3684, rfl⟩ := hq
      show WP _ _ _ _ (.int _ :: _) _ _ _ _
      rw [ea, eb, ec]
      clear ea eb ec Ia Ja Ra
      refine WQ_iaddu dX11_offer_81 (fun v3685 => ?_)
      refine WQ_imulu dX11_offer_82 (fun v3686 => ?_)
      refine WQ_bipush (100) (100) dX11_offer_83 rfl rfl (fun v3687 hv3687 => ?_)
      refine WP_iload dX11_offer_85 rfl ?_
      refine WQ_isubu dX11_offer_87 (fun v3688 => ?_)
      refine WP_iload dX11_offer_88 rfl ?_
      refine WQ_imulu dX11_offer_90 (fun v3689 => ?_)
      refine WQ_iaddu dX11_offer_91 (fun v3690 => ?_)
      refine WQ_bipush (100) (100) dX11_offer_92 rfl rfl (fun v3691 hv3691 => ?_)
      refine WQ_idivu dX11_offer_94 (by omega) (fun v3692 => ?_)
      exact WP_sub (fc rfl (fc rfl (fc rfl (fc rfl (fc rfl (fc rfl (fc rfl (fc rfl (fc rfl fn))))))))) (jn95_3662 v3692)
    · refine WQ_iconst (-1) (-1) dX11_offer_59 rfl rfl (fun v3693 hv3693 => ?_)
      refine WP_goto 95 dX11_offer_60 rfl ?_
      exact WP_sub (fc rfl (fc rfl (fc rfl (fc rfl (fc rfl (fc rfl (fc rfl (fc rfl (fc rfl fn))))))))) (jn95_3662 v3693)
  refine WQ_if_ne 21 dX11_offer_14 rfl (fun c3693 => ?_) (fun c3693 => ?_)
  · refine WP_iload dX11_offer_21 rfl ?_
    refine WQ_sipush (1000) (1000) dX11_offer_23 rfl rfl (fun v3695 hv3695 => ?_)
    refine WP_aload_n dX11_offer_26 rfl ?_
    refine WP_iload_n dX11_offer_27 rfl ?_
    refine WQ_iconst (1) (1) dX11_offer_28 rfl rfl (fun v3696 hv3696 => ?_)
    refine WQ_isub dX11_offer_29 (by omega) (by omega) (fun v3697 hv3697 => ?_)
    refine WP_iload_n dX11_offer_30 rfl ?_
    refine WQ_iconst (1) (1) dX11_offer_31 rfl rfl (fun v3698 hv3698 => ?_)
    refine WQ_isub dX11_offer_32 (by omega) (by omega) (fun v3699 hv3699 => ?_)
    refine WP_iload_n dX11_offer_33 rfl ?_
    refine WP_iload dX11_offer_34 rfl ?_
    refine WP_callV4 (k := 11) dX11_offer_36 ⟨⟨⟨by decide, by decide⟩, zX11_follow⟩, lX11_508, by decide, rfl, vX11_follow.1, vX11_follow.2⟩ (ly_is hy 0 11 rfl) (sm_follow hy hr hI v3697 v3699 b r (by omega) (by omega) (by omega) (by omega) (by omega) (by omega) (by omega) (by omega)) (Nat.le_of_ble_eq_true rfl) ?_
    intro r Ia Ja Ra hq
    obtain ⟨⟨ea, eb, ec⟩, v3700, rfl⟩ := hq
    show WP _ _ _ _ (.int _ :: _) _ _ _ _
    rw [ea, eb, ec]
    clear ea eb ec Ia Ja Ra
    refine WQ_iaddu dX11_offer_39 (fun v3701 => ?_)
    refine WQ_imulu dX11_offer_40 (fun v3702 => ?_)
    refine WQ_bipush (100) (100) dX11_offer_41 rfl rfl (fun v3703 hv3703 => ?_)
    refine WP_iload dX11_offer_43 rfl ?_
    refine WQ_isubu dX11_offer_45 (fun v3704 => ?_)
    refine WP_iload dX11_offer_46 rfl ?_
    refine WQ_imulu dX11_offer_48 (fun v3705 => ?_)
    refine WQ_iaddu dX11_offer_49 (fun v3706 => ?_)
    refine WQ_bipush (100) (100) dX11_offer_50 rfl rfl (fun v3707 hv3707 => ?_)
    refine WQ_idivu dX11_offer_52 (by omega) (fun v3708 => ?_)
    exact WP_sub (fc rfl (fc rfl (fc rfl (fc rfl (fc rfl (fc rfl (fc rfl (fc rfl fn)))))))) (jn53_3645 v3708)
  · refine WQ_iconst (-1) (-1) dX11_offer_17 rfl rfl (fun v3709 hv3709 => ?_)
    refine WP_goto 53 dX11_offer_18 rfl ?_
    exact WP_sub (fc rfl (fc rfl (fc rfl (fc rfl (fc rfl (fc rfl (fc rfl (fc rfl fn)))))))) (jn53_3645 v3709)
set_option maxHeartbeats 4000000 in
set_option maxRecDepth 100000 in
theorem sm_two {g : GG} {n : Int} {L : Int32} (hy : Ly g)  {I : pI} {J : pJ} {R : pR} (hr : Rf g R) (hI : MP g n L I) (a : Int32) (b : Int32) (p : Int32) (q : Int32) (k : Int32) (r : Int32) (wh : Int32)  : SP g mX11_two [.ref (ad g 0), .int a, .int b, .int p, .int q, .int k, .int r, .int wh] I J R (fun r I' J' R' => (MP g n L I' ∧ R' = R ∧ fz 49 g [0, 45] I I' ∧ fz 49 g [] J J' ∧ fs g [70] I I') ∧ ∃ v : Int32, r = some (.int v)) := by
  refine SP_of ⟨by decide, rfl⟩ (Nat.le_of_ble_eq_true rfl) ?_
  have e3710 : I (ad g 0) 1 = L := hI.1.2
  have b3711 := BT_get hI.1.1 0 1 2 (0) (0) (900) (by decide) 1 (by decide) (by decide)
  rw [e3710] at b3711
  have fr0 : fz 49 g [0, 45] I I := fz_rf
  have frj0 : fz 49 g [] J J := fz_rf
  have frq0 : fs g [70] I I := fs_rf
  refine WP_iload_n dX11_two_0 rfl ?_
  refine WQ_i2l dX11_two_1 (fun l3712 hl3712 => ?_)
  refine WP_lconst (0) dX11_two_2 rfl ?_
  obtain ⟨l3713, hl3713, el3713⟩ : ∃ v : Int64, v.toInt = 0 ∧ (0 : Int64) = v := ⟨_, rfl, rfl⟩
  rw [el3713]; clear el3713
  refine WP_ldc2 (9) dX11_two_3 klX11_515 ?_
  obtain ⟨l3714, hl3714, el3714⟩ : ∃ v : Int64, v.toInt = (9) ∧ ((9) : Int64) = v := ⟨_, rfl, rfl⟩
  rw [el3714]; clear el3714
  refine WP_callS3 dX11_two_6 ⟨⟨⟨by decide, by decide⟩, zX11_in⟩, lX11_52, tX11_in⟩ (sm_in hy hr hI l3712 l3713 l3714 ) (Nat.le_of_ble_eq_true rfl) ?_
  intro r Ia Ja Ra hq
  obtain ⟨⟨ea, eb, ec⟩, v3715, rfl, av3715, bv3715, cv3715⟩ := hq
  show WP _ _ _ _ (.int _ :: _) _ _ _ _
  rw [ea, eb, ec]
  clear ea eb ec Ia Ja Ra
  refine WQ_if_eq 86 dX11_two_9 rfl (fun c3715 => ?_) (fun c3715 => ?_)
  · refine WQ_bipush (-2) (-2) dX11_two_86 rfl rfl (fun v3717 hv3717 => ?_)
    exact WP_iret dX11_two_88 rfl ⟨⟨hI, rfl, fr0, frj0, frq0⟩, _, rfl⟩
  · refine WP_iload_n dX11_two_12 rfl ?_
    refine WQ_i2l dX11_two_13 (fun l3718 hl3718 => ?_)
    refine WP_lconst (0) dX11_two_14 rfl ?_
    obtain ⟨l3719, hl3719, el3719⟩ : ∃ v : Int64, v.toInt = 0 ∧ (0 : Int64) = v := ⟨_, rfl, rfl⟩
    rw [el3719]; clear el3719
    refine WP_ldc2 (9) dX11_two_15 klX11_515 ?_
    obtain ⟨l3720, hl3720, el3720⟩ : ∃ v : Int64, v.toInt = (9) ∧ ((9) : Int64) = v := ⟨_, rfl, rfl⟩
    rw [el3720]; clear el3720
    refine WP_callS3 dX11_two_18 ⟨⟨⟨by decide, by decide⟩, zX11_in⟩, lX11_52, tX11_in⟩ (sm_in hy hr hI l3718 l3719 l3720 ) (Nat.le_of_ble_eq_true rfl) ?_
    intro r Ia Ja Ra hq
    obtain ⟨⟨ea, eb, ec⟩, v3721, rfl, av3721, bv3721, cv3721⟩ := hq
    show WP _ _ _ _ (.int _ :: _) _ _ _ _
    rw [ea, eb, ec]
    clear ea eb ec Ia Ja Ra
    refine WQ_if_eq 86 dX11_two_21 rfl (fun c3721 => ?_) (fun c3721 => ?_)
    · refine WQ_bipush (-2) (-2) dX11_two_86 rfl rfl (fun v3723 hv3723 => ?_)
      exact WP_iret dX11_two_88 rfl ⟨⟨hI, rfl, fr0, frj0, frq0⟩, _, rfl⟩
    · refine WP_iload_n dX11_two_24 rfl ?_
      refine WQ_i2l dX11_two_25 (fun l3724 hl3724 => ?_)
      refine WP_lconst (0) dX11_two_26 rfl ?_
      obtain ⟨l3725, hl3725, el3725⟩ : ∃ v : Int64, v.toInt = 0 ∧ (0 : Int64) = v := ⟨_, rfl, rfl⟩
      rw [el3725]; clear el3725
      refine WP_ldc2 (100) dX11_two_27 klX11_517 ?_
      obtain ⟨l3726, hl3726, el3726⟩ : ∃ v : Int64, v.toInt = (100) ∧ ((100) : Int64) = v := ⟨_, rfl, rfl⟩
      rw [el3726]; clear el3726
      refine WP_callS3 dX11_two_30 ⟨⟨⟨by decide, by decide⟩, zX11_in⟩, lX11_52, tX11_in⟩ (sm_in hy hr hI l3724 l3725 l3726 ) (Nat.le_of_ble_eq_true rfl) ?_
      intro r Ia Ja Ra hq
      obtain ⟨⟨ea, eb, ec⟩, v3727, rfl, av3727, bv3727, cv3727⟩ := hq
      show WP _ _ _ _ (.int _ :: _) _ _ _ _
      rw [ea, eb, ec]
      clear ea eb ec Ia Ja Ra
      refine WQ_if_eq 86 dX11_two_33 rfl (fun c3727 => ?_) (fun c3727 => ?_)
      · refine WQ_bipush (-2) (-2) dX11_two_86 rfl rfl (fun v3729 hv3729 => ?_)
        exact WP_iret dX11_two_88 rfl ⟨⟨hI, rfl, fr0, frj0, frq0⟩, _, rfl⟩
      · refine WP_iload dX11_two_36 rfl ?_
        refine WQ_i2l dX11_two_38 (fun l3730 hl3730 => ?_)
        refine WP_lconst (0) dX11_two_39 rfl ?_
        obtain ⟨l3731, hl3731, el3731⟩ : ∃ v : Int64, v.toInt = 0 ∧ (0 : Int64) = v := ⟨_, rfl, rfl⟩
        rw [el3731]; clear el3731
        refine WP_ldc2 (100) dX11_two_40 klX11_517 ?_
        obtain ⟨l3732, hl3732, el3732⟩ : ∃ v : Int64, v.toInt = (100) ∧ ((100) : Int64) = v := ⟨_, rfl, rfl⟩
        rw [el3732]; clear el3732
        refine WP_callS3 dX11_two_43 ⟨⟨⟨by decide, by decide⟩, zX11_in⟩, lX11_52, tX11_in⟩ (sm_in hy hr hI l3730 l3731 l3732 ) (Nat.le_of_ble_eq_true rfl) ?_
        intro r Ia Ja Ra hq
        obtain ⟨⟨ea, eb, ec⟩, v3733, rfl, av3733, bv3733, cv3733⟩ := hq
        show WP _ _ _ _ (.int _ :: _) _ _ _ _
        rw [ea, eb, ec]
        clear ea eb ec Ia Ja Ra
        refine WQ_if_eq 86 dX11_two_46 rfl (fun c3733 => ?_) (fun c3733 => ?_)
        · refine WQ_bipush (-2) (-2) dX11_two_86 rfl rfl (fun v3735 hv3735 => ?_)
          exact WP_iret dX11_two_88 rfl ⟨⟨hI, rfl, fr0, frj0, frq0⟩, _, rfl⟩
        · refine WP_iload dX11_two_49 rfl ?_
          refine WQ_i2l dX11_two_51 (fun l3736 hl3736 => ?_)
          refine WP_lconst (0) dX11_two_52 rfl ?_
          obtain ⟨l3737, hl3737, el3737⟩ : ∃ v : Int64, v.toInt = 0 ∧ (0 : Int64) = v := ⟨_, rfl, rfl⟩
          rw [el3737]; clear el3737
          refine WP_ldc2 (20) dX11_two_53 klX11_357 ?_
          obtain ⟨l3738, hl3738, el3738⟩ : ∃ v : Int64, v.toInt = (20) ∧ ((20) : Int64) = v := ⟨_, rfl, rfl⟩
          rw [el3738]; clear el3738
          refine WP_callS3 dX11_two_56 ⟨⟨⟨by decide, by decide⟩, zX11_in⟩, lX11_52, tX11_in⟩ (sm_in hy hr hI l3736 l3737 l3738 ) (Nat.le_of_ble_eq_true rfl) ?_
          intro r Ia Ja Ra hq
          obtain ⟨⟨ea, eb, ec⟩, v3739, rfl, av3739, bv3739, cv3739⟩ := hq
          show WP _ _ _ _ (.int _ :: _) _ _ _ _
          rw [ea, eb, ec]
          clear ea eb ec Ia Ja Ra
          refine WQ_if_eq 86 dX11_two_59 rfl (fun c3739 => ?_) (fun c3739 => ?_)
          · refine WQ_bipush (-2) (-2) dX11_two_86 rfl rfl (fun v3741 hv3741 => ?_)
            exact WP_iret dX11_two_88 rfl ⟨⟨hI, rfl, fr0, frj0, frq0⟩, _, rfl⟩
          · refine WP_iload dX11_two_62 rfl ?_
            refine WQ_i2l dX11_two_64 (fun l3742 hl3742 => ?_)
            refine WP_lconst (1) dX11_two_65 rfl ?_
            obtain ⟨l3743, hl3743, el3743⟩ : ∃ v : Int64, v.toInt = 1 ∧ (1 : Int64) = v := ⟨_, rfl, rfl⟩
            rw [el3743]; clear el3743
            refine WP_ldc2 (20) dX11_two_66 klX11_357 ?_
            obtain ⟨l3744, hl3744, el3744⟩ : ∃ v : Int64, v.toInt = (20) ∧ ((20) : Int64) = v := ⟨_, rfl, rfl⟩
            rw [el3744]; clear el3744
            refine WP_callS3 dX11_two_69 ⟨⟨⟨by decide, by decide⟩, zX11_in⟩, lX11_52, tX11_in⟩ (sm_in hy hr hI l3742 l3743 l3744 ) (Nat.le_of_ble_eq_true rfl) ?_
            intro r Ia Ja Ra hq
            obtain ⟨⟨ea, eb, ec⟩, v3745, rfl, av3745, bv3745, cv3745⟩ := hq
            show WP _ _ _ _ (.int _ :: _) _ _ _ _
            rw [ea, eb, ec]
            clear ea eb ec Ia Ja Ra
            refine WQ_if_eq 86 dX11_two_72 rfl (fun c3745 => ?_) (fun c3745 => ?_)
            · refine WQ_bipush (-2) (-2) dX11_two_86 rfl rfl (fun v3747 hv3747 => ?_)
              exact WP_iret dX11_two_88 rfl ⟨⟨hI, rfl, fr0, frj0, frq0⟩, _, rfl⟩
            · refine WP_iload dX11_two_75 rfl ?_
              refine WQ_i2l dX11_two_77 (fun l3748 hl3748 => ?_)
              refine WP_lconst (0) dX11_two_78 rfl ?_
              obtain ⟨l3749, hl3749, el3749⟩ : ∃ v : Int64, v.toInt = 0 ∧ (0 : Int64) = v := ⟨_, rfl, rfl⟩
              rw [el3749]; clear el3749
              refine WP_lconst (1) dX11_two_79 rfl ?_
              obtain ⟨l3750, hl3750, el3750⟩ : ∃ v : Int64, v.toInt = 1 ∧ (1 : Int64) = v := ⟨_, rfl, rfl⟩
              rw [el3750]; clear el3750
              refine WP_callS3 dX11_two_80 ⟨⟨⟨by decide, by decide⟩, zX11_in⟩, lX11_52, tX11_in⟩ (sm_in hy hr hI l3748 l3749 l3750 ) (Nat.le_of_ble_eq_true rfl) ?_
              intro r Ia Ja Ra hq
              obtain ⟨⟨ea, eb, ec⟩, v3751, rfl, av3751, bv3751, cv3751⟩ := hq
              show WP _ _ _ _ (.int _ :: _) _ _ _ _
              rw [ea, eb, ec]
              clear ea eb ec Ia Ja Ra
              refine WQ_if_ne 89 dX11_two_83 rfl (fun c3751 => ?_) (fun c3751 => ?_)
              · refine WQ_iconst (0) (0) dX11_two_89 rfl rfl (fun v3753 hv3753 => ?_)
                refine WP_istore (ls' := [(0, _), (1, _), (2, _), (3, _), (4, _), (5, _), (6, _), (7, _), (8, _)]) dX11_two_90 (by decide) rfl ?_
                have lp92_3756 : ∀ (mz : Nat) (i3754 : Int32) (I3755 : pI) (J3756 : pJ), MP g n L I3755 → fz 49 g [0, 45] I I3755 → fz 49 g [] J J3756 → fs g [70] I I3755 → 0 ≤ i3754.toInt → i3754.toInt ≤ 100 → (101 - i3754.toInt).toNat < mz → WP g mX11_two 92 [(0, .ref (ad g 0)), (1, .int a), (2, .int b), (3, .int p), (4, .int q), (5, .int k), (6, .int r), (7, .int wh), (8, .int i3754)] [] I3755 J3756 R (fun r I' J' R' => (MP g n L I' ∧ R' = R ∧ fz 49 g [0, 45] I I' ∧ fz 49 g [] J J' ∧ fs g [70] I I') ∧ ∃ v : Int32, r = some (.int v)) := by
                  intro mz
                  induction mz with
                  | zero =>
                    intro i3754 I3755 J3756 hI3755 fiI3755 fjJ3756 fqI3755 ai3754 bi3754 hmlp92_3756
                    exact absurd hmlp92_3756 (Nat.not_lt_zero _)
                  | succ mz ihlp92_3756 =>
                    intro i3754 I3755 J3756 hI3755 fiI3755 fjJ3756 fqI3755 ai3754 bi3754 hmlp92_3756
                    have e3758 : I3755 (ad g 0) 1 = L := hI3755.1.2
                    have b3759 := BT_get hI3755.1.1 0 1 2 (0) (0) (900) (by decide) 1 (by decide) (by decide)
                    rw [e3758] at b3759
                    refine WP_iload dX11_two_92 rfl ?_
                    refine WQ_bipush (100) (100) dX11_two_94 rfl rfl (fun v3760 hv3760 => ?_)
                    refine WQ_icmp_ge 113 dX11_two_96 rfl (fun c3760 => ?_) (fun c3760 => ?_)
                    · refine WQ_iconst (1) (1) dX11_two_113 rfl rfl (fun v3762 hv3762 => ?_)
                      refine WP_istore (ls' := [(0, _), (1, _), (2, _), (3, _), (4, _), (5, _), (6, _), (7, _), (8, _)]) dX11_two_114 (by decide) rfl ?_
                      have lp116_3765 : ∀ (mz : Nat) (i3763 : Int32) (I3764 : pI) (J3765 : pJ), MP g n L I3764 → fz 49 g [0, 45] I I3764 → fz 49 g [] J J3765 → fs g [70] I I3764 → 1 ≤ i3763.toInt → i3763.toInt ≤ 21 → (22 - i3763.toInt).toNat < mz → WP g mX11_two 116 [(0, .ref (ad g 0)), (1, .int a), (2, .int b), (3, .int p), (4, .int q), (5, .int k), (6, .int r), (7, .int wh), (8, .int i3763)] [] I3764 J3765 R (fun r I' J' R' => (MP g n L I' ∧ R' = R ∧ fz 49 g [0, 45] I I' ∧ fz 49 g [] J J' ∧ fs g [70] I I') ∧ ∃ v : Int32, r = some (.int v)) := by
                        intro mz
                        induction mz with
                        | zero =>
                          intro i3763 I3764 J3765 hI3764 fiI3764 fjJ3765 fqI3764 ai3763 bi3763 hmlp116_3765
                          exact absurd hmlp116_3765 (Nat.not_lt_zero _)
                        | succ mz ihlp116_3765 =>
                          intro i3763 I3764 J3765 hI3764 fiI3764 fjJ3765 fqI3764 ai3763 bi3763 hmlp116_3765
                          have e3767 : I3764 (ad g 0) 1 = L := hI3764.1.2
                          have b3768 := BT_get hI3764.1.1 0 1 2 (0) (0) (900) (by decide) 1 (by decide) (by decide)
                          rw [e3767] at b3768
                          refine WP_iload dX11_two_116 rfl ?_
                          refine WP_iload dX11_two_118 rfl ?_
                          refine WQ_icmp_gt 179 dX11_two_120 rfl (fun c3768 => ?_) (fun c3768 => ?_)
                          · refine WP_iload dX11_two_179 rfl ?_
                            refine WQ_if_ne 202 dX11_two_181 rfl (fun c3769 => ?_) (fun c3769 => ?_)
                            · refine WP_iload dX11_two_202 rfl ?_
                              refine WQ_if_eq 213 dX11_two_204 rfl (fun c3770 => ?_) (fun c3770 => ?_)
                              · refine WQ_iconst (-1) (-1) dX11_two_213 rfl rfl (fun v3772 hv3772 => ?_)
                                exact WP_iret dX11_two_214 rfl ⟨⟨hI3764, rfl, fiI3764, fjJ3765, fqI3764⟩, _, rfl⟩
                              · refine WP_iload_n dX11_two_207 rfl ?_
                                refine WP_iload_n dX11_two_208 rfl ?_
                                refine WQ_iadd dX11_two_209 (by omega) (by omega) (fun v3773 hv3773 => ?_)
                                refine WQ_if_ne 215 dX11_two_210 rfl (fun c3773 => ?_) (fun c3773 => ?_)
                                · refine WP_aload_n dX11_two_215 rfl ?_
                                  refine WP_iload dX11_two_216 rfl ?_
                                  refine WP_iload_n dX11_two_218 rfl ?_
                                  refine WP_iload_n dX11_two_219 rfl ?_
                                  refine WP_iload_n dX11_two_220 rfl ?_
                                  refine WP_iload dX11_two_221 rfl ?_
                                  refine WP_iload dX11_two_223 rfl ?_
                                  refine WP_callV6 (k := 11) dX11_two_225 ⟨⟨⟨by decide, by decide⟩, zX11_offer⟩, lX11_519, by decide, rfl, vX11_offer.1, vX11_offer.2⟩ (ly_is hy 0 11 rfl) (sm_offer hy hr hI3764 k a b p q r (by omega) (by omega) (by omega) (by omega) (by omega) (by omega)   (by omega) (by omega)) (Nat.le_of_ble_eq_true rfl) ?_
                                  intro r I3775 J3776 Ra hq
                                  obtain ⟨⟨hI3775, ec, fiI3775, fjI3775, fqI3775⟩, v3777, rfl⟩ := hq
                                  show WP _ _ _ _ (.int _ :: _) _ _ _ _
                                  rw [ec]
                                  clear ec Ra
                                  have fr3778 : fz 49 g [0, 45] I I3775 := fz_tr fiI3764 (fz_mono fiI3775 (by decide))
                                  have fr3779 : fs g [70] I I3775 := fs_tr fqI3764 (fs_mono fqI3775 (by decide))
                                  have fr3780 : fz 49 g [] J J3776 := fz_tr fjJ3765 (fz_mono fjI3775 (by decide))
                                  have e3781 : I3775 (ad g 0) 1 = L := hI3775.1.2
                                  have b3782 := BT_get hI3775.1.1 0 1 2 (0) (0) (900) (by decide) 1 (by decide) (by decide)
                                  rw [e3781] at b3782
                                  refine WP_pop dX11_two_228 rfl ?_
                                  refine WP_aload_n dX11_two_229 rfl ?_
                                  refine WQ_geti dX11_two_230 fX11_512 rfl (ly_is hy 0 11 rfl) (BT_get hI3775.1.1 0 70 71 (0) (0) (1) (by decide) 70 (by decide) (by decide)) (fun v3783 ev3783 av3783 bv3783 => ?_)
                                  have jn241_3786 : ∀ (v3786 : Int32), 0 ≤ v3786.toInt → v3786.toInt ≤ 1 → WP g mX11_two 241 [(0, .ref (ad g 0)), (1, .int a), (2, .int b), (3, .int p), (4, .int q), (5, .int k), (6, .int r), (7, .int wh), (8, .int i3763)] [.int v3786] I3775 J3776 R (fun r I' J' R' => (MP g n L I' ∧ R' = R ∧ fz 49 g [0, 45] I I' ∧ fz 49 g [] J J' ∧ fs g [70] I I') ∧ ∃ v : Int32, r = some (.int v)) := by
                                    intro v3786 av3786 bv3786
                                    exact WP_iret dX11_two_241 rfl ⟨⟨hI3775, rfl, fr3778, fr3780, fr3779⟩, _, rfl⟩
                                  refine WQ_if_eq 240 dX11_two_233 rfl (fun c3787 => ?_) (fun c3787 => ?_)
                                  · refine WQ_iconst (1) (1) dX11_two_240 rfl rfl (fun v3789 hv3789 => ?_)
                                    exact WP_sub (fc rfl (fc rfl (fc rfl (fc rfl (fc rfl (fc rfl (fc rfl (fc rfl (fc rfl fn))))))))) (jn241_3786 v3789 (by omega) (by omega))
                                  · refine WQ_iconst (0) (0) dX11_two_236 rfl rfl (fun v3790 hv3790 => ?_)
                                    refine WP_goto 241 dX11_two_237 rfl ?_
                                    exact WP_sub (fc rfl (fc rfl (fc rfl (fc rfl (fc rfl (fc rfl (fc rfl (fc rfl (fc rfl fn))))))))) (jn241_3786 v3790 (by omega) (by omega))
                                · refine WQ_iconst (-1) (-1) dX11_two_213 rfl rfl (fun v3791 hv3791 => ?_)
                                  exact WP_iret dX11_two_214 rfl ⟨⟨hI3764, rfl, fiI3764, fjJ3765, fqI3764⟩, _, rfl⟩
                            · refine WP_aload_n dX11_two_184 rfl ?_
                              refine WP_getr dX11_two_185 fX11_307 rfl (ly_is hy 0 11 rfl) (rf hr 0 69 45 (by decide)) ?_
                              refine WQ_bipush (100) (100) dX11_two_188 rfl rfl (fun v3792 hv3792 => ?_)
                              refine WP_iload dX11_two_190 rfl ?_
                              refine WQ_imulK (100) dX11_two_192 hv3792 (by omega) (by omega) (fun v3793 hv3793 => ?_)
                              refine WQ_bipush (10) (10) dX11_two_193 rfl rfl (fun v3794 hv3794 => ?_)
                              refine WP_iload_n dX11_two_195 rfl ?_
                              refine WQ_imulK (10) dX11_two_196 hv3794 (by omega) (by omega) (fun v3795 hv3795 => ?_)
                              refine WQ_iadd dX11_two_197 (by omega) (by omega) (fun v3796 hv3796 => ?_)
                              refine WP_iload_n dX11_two_198 rfl ?_
                              refine WQ_iadd dX11_two_199 (by omega) (by omega) (fun v3797 hv3797 => ?_)
                              refine WQ_ialdu dX11_two_200 (ly_is hy 45 13 rfl) (ly_n hy 45 2100 rfl) (by omega) (by omega) (fun v3798 => ?_)
                              exact WP_iret dX11_two_201 rfl ⟨⟨hI3764, rfl, fiI3764, fjJ3765, fqI3764⟩, _, rfl⟩
                          · refine WQ_iconst (0) (0) dX11_two_123 rfl rfl (fun v3799 hv3799 => ?_)
                            refine WP_istore (ls' := [(0, _), (1, _), (2, _), (3, _), (4, _), (5, _), (6, _), (7, _), (8, _), (9, _)]) dX11_two_124 (by decide) rfl ?_
                            have lp126_3802 : ∀ (mz : Nat) (i3800 : Int32) (I3801 : pI) (J3802 : pJ), MP g n L I3801 → fz 49 g [0, 45] I I3801 → fz 49 g [] J J3802 → fs g [70] I I3801 → 0 ≤ i3800.toInt → i3800.toInt ≤ 100 → (101 - i3800.toInt).toNat < mz → WP g mX11_two 126 [(0, .ref (ad g 0)), (1, .int a), (2, .int b), (3, .int p), (4, .int q), (5, .int k), (6, .int r), (7, .int wh), (8, .int i3763), (9, .int i3800)] [] I3801 J3802 R (fun r I' J' R' => (MP g n L I' ∧ R' = R ∧ fz 49 g [0, 45] I I' ∧ fz 49 g [] J J' ∧ fs g [70] I I') ∧ ∃ v : Int32, r = some (.int v)) := by
                              intro mz
                              induction mz with
                              | zero =>
                                intro i3800 I3801 J3802 hI3801 fiI3801 fjJ3802 fqI3801 ai3800 bi3800 hmlp126_3802
                                exact absurd hmlp126_3802 (Nat.not_lt_zero _)
                              | succ mz ihlp126_3802 =>
                                intro i3800 I3801 J3802 hI3801 fiI3801 fjJ3802 fqI3801 ai3800 bi3800 hmlp126_3802
                                have e3804 : I3801 (ad g 0) 1 = L := hI3801.1.2
                                have b3805 := BT_get hI3801.1.1 0 1 2 (0) (0) (900) (by decide) 1 (by decide) (by decide)
                                rw [e3804] at b3805
                                refine WP_iload dX11_two_126 rfl ?_
                                refine WQ_bipush (100) (100) dX11_two_128 rfl rfl (fun v3806 hv3806 => ?_)
                                refine WQ_icmp_ge 173 dX11_two_130 rfl (fun c3806 => ?_) (fun c3806 => ?_)
                                · refine WP_iinc (ls' := [(0, _), (1, _), (2, _), (3, _), (4, _), (5, _), (6, _), (7, _), (8, _), (9, _)]) dX11_two_173 rfl (by decide) rfl ?_
                                  have hv3808 : (i3763 + Int32.ofInt (1)).toInt = i3763.toInt + (1) := ia_n rfl (by omega) (by omega)
                                  generalize i3763 + Int32.ofInt (1) = v3808 at hv3808 ⊢
                                  refine WP_goto 116 dX11_two_176 rfl ?_
                                  exact WP_sub (fc rfl (fc rfl (fc rfl (fc rfl (fc rfl (fc rfl (fc rfl (fc rfl (fc rfl fn))))))))) (ihlp116_3765 v3808 I3801 J3802 hI3801 fiI3801 fjJ3802 fqI3801 (by omega) (by omega) (by omega))
                                · refine WP_aload_n dX11_two_133 rfl ?_
                                  refine WP_getr dX11_two_134 fX11_307 rfl (ly_is hy 0 11 rfl) (rf hr 0 69 45 (by decide)) ?_
                                  refine WQ_bipush (100) (100) dX11_two_137 rfl rfl (fun v3809 hv3809 => ?_)
                                  refine WP_iload dX11_two_139 rfl ?_
                                  refine WQ_imulK (100) dX11_two_141 hv3809 (by omega) (by omega) (fun v3810 hv3810 => ?_)
                                  refine WP_iload dX11_two_142 rfl ?_
                                  refine WQ_iadd dX11_two_144 (by omega) (by omega) (fun v3811 hv3811 => ?_)
                                  refine WP_aload_n dX11_two_145 rfl ?_
                                  refine WP_iload dX11_two_146 rfl ?_
                                  refine WP_iload dX11_two_148 rfl ?_
                                  refine WQ_bipush (10) (10) dX11_two_150 rfl rfl (fun v3812 hv3812 => ?_)
                                  refine WQ_idivk (10) dX11_two_152 hv3812 (by decide) (by omega) (fun v3813 hv3813 => ?_)
                                  refine WP_iload dX11_two_153 rfl ?_
                                  refine WQ_bipush (10) (10) dX11_two_155 rfl rfl (fun v3814 hv3814 => ?_)
                                  refine WQ_iremk (10) dX11_two_157 hv3814 (by decide) (by omega) (fun v3815 hv3815 => ?_)
                                  refine WP_iload_n dX11_two_158 rfl ?_
                                  refine WP_iload dX11_two_159 rfl ?_
                                  refine WP_iload dX11_two_161 rfl ?_
                                  refine WP_callV6 (k := 11) dX11_two_163 ⟨⟨⟨by decide, by decide⟩, zX11_offer⟩, lX11_519, by decide, rfl, vX11_offer.1, vX11_offer.2⟩ (ly_is hy 0 11 rfl) (sm_offer hy hr hI3801 i3763 v3813 v3815 p q r (by omega) (by omega) (by omega) (by omega) (by omega) (by omega)   (by omega) (by omega)) (Nat.le_of_ble_eq_true rfl) ?_
                                  intro r I3816 J3817 Ra hq
                                  obtain ⟨⟨hI3816, ec, fiI3816, fjI3816, fqI3816⟩, v3818, rfl⟩ := hq
                                  show WP _ _ _ _ (.int _ :: _) _ _ _ _
                                  rw [ec]
                                  clear ec Ra
                                  have fr3819 : fz 49 g [0, 45] I I3816 := fz_tr fiI3801 (fz_mono fiI3816 (by decide))
                                  have fr3820 : fs g [70] I I3816 := fs_tr fqI3801 (fs_mono fqI3816 (by decide))
                                  have fr3821 : fz 49 g [] J J3817 := fz_tr fjJ3802 (fz_mono fjI3816 (by decide))
                                  have e3822 : I3816 (ad g 0) 1 = L := hI3816.1.2
                                  have b3823 := BT_get hI3816.1.1 0 1 2 (0) (0) (900) (by decide) 1 (by decide) (by decide)
                                  rw [e3822] at b3823
                                  refine WQ_iast dX11_two_166 (ly_is hy 45 13 rfl) (ly_n hy 45 2100 rfl) (by omega) (by omega) (fun I3824 eI3824 => ?_)
                                  have hI3824 : MP g n L I3824 := by rw [eI3824]; exact (mp_w hy hI3816 (c := 45) (mi_r0 hy hI3816.1 (c := 45) (by decide) (Or.inl (by decide)) (by decide)) (by decide) (by decide) (Or.inl (by decide)))
                                  have e3825 : I3824 (ad g 0) 1 = L := by rw [eI3824, pp_ne _ _ (Or.inl (ly_ne hy (by decide) (by decide) (by decide)))]; exact e3822
                                  have fr3826 : fs g [70] I I3824 := by rw [eI3824]; exact fs_ppn hy fr3820 (by decide) (by decide)
                                  have fr3827 : fz 49 g [0, 45] I I3824 := by rw [eI3824]; exact fzm_pp hy fr3819 (by decide) (by decide)
                                  clear eI3824
                                  refine WP_iinc (ls' := [(0, _), (1, _), (2, _), (3, _), (4, _), (5, _), (6, _), (7, _), (8, _), (9, _)]) dX11_two_167 rfl (by decide) rfl ?_
                                  have hv3828 : (i3800 + Int32.ofInt (1)).toInt = i3800.toInt + (1) := ia_n rfl (by omega) (by omega)
                                  generalize i3800 + Int32.ofInt (1) = v3828 at hv3828 ⊢
                                  refine WP_goto 126 dX11_two_170 rfl ?_
                                  exact WP_sub (fc rfl (fc rfl (fc rfl (fc rfl (fc rfl (fc rfl (fc rfl (fc rfl (fc rfl (fc rfl fn)))))))))) (ihlp126_3802 v3828 I3824 J3817 hI3824 fr3827 fr3821 fr3826 (by omega) (by omega) (by omega))
                            exact WP_sub (fc rfl (fc rfl (fc rfl (fc rfl (fc rfl (fc rfl (fc rfl (fc rfl (fc rfl (fc rfl fn)))))))))) (lp126_3802 _ v3799 I3764 J3765 hI3764 fiI3764 fjJ3765 fqI3764 (by omega) (by omega) (Nat.lt_succ_self _))
                      exact WP_sub (fc rfl (fc rfl (fc rfl (fc rfl (fc rfl (fc rfl (fc rfl (fc rfl (fc rfl fn))))))))) (lp116_3765 _ v3762 I3755 J3756 hI3755 fiI3755 fjJ3756 fqI3755 (by omega) (by omega) (Nat.lt_succ_self _))
                    · refine WP_aload_n dX11_two_99 rfl ?_
                      refine WP_getr dX11_two_100 fX11_307 rfl (ly_is hy 0 11 rfl) (rf hr 0 69 45 (by decide)) ?_
                      refine WP_iload dX11_two_103 rfl ?_
                      refine WQ_iconst (0) (0) dX11_two_105 rfl rfl (fun v3829 hv3829 => ?_)
                      refine WQ_iast dX11_two_106 (ly_is hy 45 13 rfl) (ly_n hy 45 2100 rfl) (by omega) (by omega) (fun I3830 eI3830 => ?_)
                      have hI3830 : MP g n L I3830 := by rw [eI3830]; exact (mp_w hy hI3755 (c := 45) (mi_r0 hy hI3755.1 (c := 45) (by decide) (Or.inl (by decide)) (by decide)) (by decide) (by decide) (Or.inl (by decide)))
                      have e3831 : I3830 (ad g 0) 1 = L := by rw [eI3830, pp_ne _ _ (Or.inl (ly_ne hy (by decide) (by decide) (by decide)))]; exact e3758
                      have fr3832 : fs g [70] I I3830 := by rw [eI3830]; exact fs_ppn hy fqI3755 (by decide) (by decide)
                      have fr3833 : fz 49 g [0, 45] I I3830 := by rw [eI3830]; exact fzm_pp hy fiI3755 (by decide) (by decide)
                      clear eI3830
                      refine WP_iinc (ls' := [(0, _), (1, _), (2, _), (3, _), (4, _), (5, _), (6, _), (7, _), (8, _)]) dX11_two_107 rfl (by decide) rfl ?_
                      have hv3834 : (i3754 + Int32.ofInt (1)).toInt = i3754.toInt + (1) := ia_n rfl (by omega) (by omega)
                      generalize i3754 + Int32.ofInt (1) = v3834 at hv3834 ⊢
                      refine WP_goto 92 dX11_two_110 rfl ?_
                      exact WP_sub (fc rfl (fc rfl (fc rfl (fc rfl (fc rfl (fc rfl (fc rfl (fc rfl (fc rfl fn))))))))) (ihlp92_3756 v3834 I3830 J3756 hI3830 fr3833 fjJ3756 fr3832 (by omega) (by omega) (by omega))
                exact WP_sub (fc rfl (fc rfl (fc rfl (fc rfl (fc rfl (fc rfl (fc rfl (fc rfl (fc rfl fn))))))))) (lp92_3756 _ v3753 I J hI fr0 frj0 frq0 (by omega) (by omega) (Nat.lt_succ_self _))
              · refine WQ_bipush (-2) (-2) dX11_two_86 rfl rfl (fun v3835 hv3835 => ?_)
                exact WP_iret dX11_two_88 rfl ⟨⟨hI, rfl, fr0, frj0, frq0⟩, _, rfl⟩
set_option maxHeartbeats 4000000 in
set_option maxRecDepth 100000 in
theorem sm_values {g : GG} {n : Int} {L : Int32} (hy : Ly g)  {I : pI} {J : pJ} {R : pR} (hr : Rf g R) (hI : MP g n L I)   : SP g mX11_values [.ref (ad g 0)] I J R (fun r I' J' R' => ((∃ L2 : Int32, MP g n L2 I' ∧ L2.toInt = 0) ∧ R' = R ∧ fz 49 g [0, 46, 47, 48] I I' ∧ fz 49 g [] J J' ∧ fs g [1, 2, 3, 4, 5, 6, 7, 8, 9] I I') ∧ ∃ v : Int32, r = some (.int v)) := by
  refine SP_of ⟨by decide, rfl⟩ (Nat.le_of_ble_eq_true rfl) ?_
  have e3865 : I (ad g 0) 1 = L := hI.1.2
  have b3866 := BT_get hI.1.1 0 1 2 (0) (0) (900) (by decide) 1 (by decide) (by decide)
  rw [e3865] at b3866
  have fr0 : fz 49 g [0, 46, 47, 48] I I := fz_rf
  have frj0 : fz 49 g [] J J := fz_rf
  have frq0 : fs g [1, 2, 3, 4, 5, 6, 7, 8, 9] I I := fs_rf
  refine WP_aload_n dX11_values_0 rfl ?_
  refine WQ_getiu dX11_values_1 fX11_3 rfl (ly_is hy 0 11 rfl) (fun v3867 ev3867 => ?_)
  refine WP_istore_n (ls' := [(0, _), (1, _)]) dX11_values_4 (by decide) rfl ?_
  refine WP_aload_n dX11_values_5 rfl ?_
  refine WQ_getiu dX11_values_6 fX11_10 rfl (ly_is hy 0 11 rfl) (fun v3868 ev3868 => ?_)
  refine WP_istore_n (ls' := [(0, _), (1, _), (2, _)]) dX11_values_9 (by decide) rfl ?_
  refine WP_aload_n dX11_values_10 rfl ?_
  refine WP_callV0 (k := 11) dX11_values_11 ⟨⟨⟨by decide, by decide⟩, zX11_open⟩, lX11_323, by decide, rfl, vX11_open.1, vX11_open.2⟩ (ly_is hy 0 11 rfl) (sm_open hy hr hI  ) (Nat.le_of_ble_eq_true rfl) ?_
  intro r I3869 J3870 Ra hq
  obtain ⟨⟨⟨L3871, hI3869, qL3871⟩, ec, fiI3869, fjI3869, fqI3869, pI3869⟩, rfl⟩ := hq
  rw [ec]
  clear ec Ra
  have fr3872 : fz 49 g [0, 46, 47, 48] I I3869 := fz_tr fr0 (fz_mono fiI3869 (by decide))
  have fr3873 : fs g [1, 2, 3, 4, 5, 6, 7, 8, 9] I I3869 := fs_tr frq0 (fs_mono fqI3869 (by decide))
  have fr3874 : fz 49 g [] J J3870 := fz_tr frj0 (fz_mono fjI3869 (by decide))
  have e3875 : I3869 (ad g 0) 1 = L3871 := hI3869.1.2
  have b3876 := BT_get hI3869.1.1 0 1 2 (0) (0) (900) (by decide) 1 (by decide) (by decide)
  rw [e3875] at b3876
  obtain ⟨w3877, ew3877⟩ : ∃ w : Int32, I3869 (ad g 0) 4 = w := ⟨_, rfl⟩
  have bw3877 := BT_get hI3869.1.1 0 4 5 (0) (0) (900) (by decide) 4 (by decide) (by decide)
  rw [ew3877] at bw3877
  obtain ⟨w3878, ew3878⟩ : ∃ w : Int32, I3869 (ad g 0) 2 = w := ⟨_, rfl⟩
  have bw3878 := BT_get hI3869.1.1 0 2 3 (0) (0) (900) (by decide) 2 (by decide) (by decide)
  rw [ew3878] at bw3878
  rw [ew3877, ew3878] at pI3869
  refine WQ_iconst (1) (1) dX11_values_14 rfl rfl (fun v3879 hv3879 => ?_)
  refine WP_istore_n (ls' := [(0, _), (1, _), (2, _), (3, _)]) dX11_values_15 (by decide) rfl ?_
  refine WQ_iconst (0) (0) dX11_values_16 rfl rfl (fun v3880 hv3880 => ?_)
  refine WP_istore (ls' := [(0, _), (1, _), (2, _), (3, _), (4, _)]) dX11_values_17 (by decide) rfl ?_
  have lp19_3886 : ∀ (mz : Nat) (i3881 : Int32) (i3882 : Int32) (I3883 : pI) (J3884 : pJ), MP g n L3871 I3883 → fz 49 g [0, 46, 47, 48] I I3883 → fz 49 g [] J J3884 → fs g [1, 2, 3, 4, 5, 6, 7, 8, 9] I I3883 → ∀ (w3885 : Int32), I3883 (ad g 0) 4 = w3885 → ∀ (w3886 : Int32), I3883 (ad g 0) 2 = w3886 → 0 ≤ i3881.toInt → i3881.toInt ≤ 1 → 0 ≤ i3882.toInt → i3882.toInt ≤ 4 → w3885.toInt ≤ w3886.toInt → (5 - i3882.toInt).toNat < mz → WP g mX11_values 19 [(0, .ref (ad g 0)), (1, .int v3867), (2, .int v3868), (3, .int i3881), (4, .int i3882)] [] I3883 J3884 R (fun r I' J' R' => ((∃ L2 : Int32, MP g n L2 I' ∧ L2.toInt = 0) ∧ R' = R ∧ fz 49 g [0, 46, 47, 48] I I' ∧ fz 49 g [] J J' ∧ fs g [1, 2, 3, 4, 5, 6, 7, 8, 9] I I') ∧ ∃ v : Int32, r = some (.int v)) := by
    intro mz
    induction mz with
    | zero =>
      intro i3881 i3882 I3883 J3884 hI3883 fiI3883 fjJ3884 fqI3883 w3885 ew3885 w3886 ew3886 ai3881 bi3881 ai3882 bi3882 j0_I3883 hmlp19_3886
      exact absurd hmlp19_3886 (Nat.not_lt_zero _)
    | succ mz ihlp19_3886 =>
      intro i3881 i3882 I3883 J3884 hI3883 fiI3883 fjJ3884 fqI3883 w3885 ew3885 w3886 ew3886 ai3881 bi3881 ai3882 bi3882 j0_I3883 hmlp19_3886
      have bw3885 := BT_get hI3883.1.1 0 4 5 (0) (0) (900) (by decide) 4 (by decide) (by decide)
      rw [ew3885] at bw3885
      have bw3886 := BT_get hI3883.1.1 0 2 3 (0) (0) (900) (by decide) 2 (by decide) (by decide)
      rw [ew3886] at bw3886
      have e3888 : I3883 (ad g 0) 1 = L3871 := hI3883.1.2
      have b3889 := BT_get hI3883.1.1 0 1 2 (0) (0) (900) (by decide) 1 (by decide) (by decide)
      rw [e3888] at b3889
      refine WP_iload dX11_values_19 rfl ?_
      refine WP_aload_n dX11_values_21 rfl ?_
      refine WQ_geti dX11_values_22 fX11_329 rfl (ly_is hy 0 11 rfl) (BT_get hI3883.1.1 0 10 11 (0) (0) (4) (by decide) 10 (by decide) (by decide)) (fun v3890 ev3890 av3890 bv3890 => ?_)
      refine WQ_icmp_ge 98 dX11_values_25 rfl (fun c3890 => ?_) (fun c3890 => ?_)
      · refine WP_iload_n dX11_values_98 rfl ?_
        have jn114_3897 : ∀ (v3897 : Int32), 0 ≤ v3897.toInt → v3897.toInt ≤ 1 → WP g mX11_values 114 [(0, .ref (ad g 0)), (1, .int v3867), (2, .int v3868), (3, .int i3881), (4, .int i3882)] [.int v3897] I3883 J3884 R (fun r I' J' R' => ((∃ L2 : Int32, MP g n L2 I' ∧ L2.toInt = 0) ∧ R' = R ∧ fz 49 g [0, 46, 47, 48] I I' ∧ fz 49 g [] J J' ∧ fs g [1, 2, 3, 4, 5, 6, 7, 8, 9] I I') ∧ ∃ v : Int32, r = some (.int v)) := by
          intro v3897 av3897 bv3897
          refine WP_istore_n (ls' := [(0, _), (1, _), (2, _), (3, _), (4, _)]) dX11_values_114 (by decide) rfl ?_
          refine WP_aload_n dX11_values_115 rfl ?_
          refine WP_iload_n dX11_values_116 rfl ?_
          refine WQ_puti dX11_values_117 fX11_3 rfl rfl (ly_is hy 0 11 rfl) (fun I3899 eI3899 => ?_)
          have hI3899 : MP g n L3871 I3899 := by rw [eI3899]; exact (mp_w hy hI3883 (c := 0) (mi_f0 hy hI3883.1 (c := 0) (by decide) (Or.inr (by decide)) (by decide)) (by decide) (by decide) (Or.inr (by decide)))
          have e3900 : I3899 (ad g 0) 4 = w3885 := by rw [eI3899, pp_ne _ _ (Or.inr (by decide))]; exact ew3885
          have e3901 : I3899 (ad g 0) 2 = w3886 := by rw [eI3899, pp_ne _ _ (Or.inr (by decide))]; exact ew3886
          have e3902 : I3899 (ad g 0) 1 = L3871 := by rw [eI3899, pp_ne _ _ (Or.inr (by decide))]; exact e3888
          have e3903 : I3899 (ad g 0) 10 = v3890 := by rw [eI3899, pp_ne _ _ (Or.inr (by decide))]; exact ev3890
          have e3904 : I3899 (ad g 0) 8 = v3867 := by rw [eI3899, pp_self]
          have fr3905 : fs g [1, 2, 3, 4, 5, 6, 7, 8, 9] I I3899 := by rw [eI3899]; exact fs_pp0 fqI3883 (by decide)
          have fr3906 : fz 49 g [0, 46, 47, 48] I I3899 := by rw [eI3899]; exact fzm_pp hy fiI3883 (by decide) (by decide)
          clear eI3899
          refine WP_aload_n dX11_values_120 rfl ?_
          refine WP_iload_n dX11_values_121 rfl ?_
          refine WQ_puti dX11_values_122 fX11_10 rfl rfl (ly_is hy 0 11 rfl) (fun I3907 eI3907 => ?_)
          have hI3907 : MP g n L3871 I3907 := by rw [eI3907]; exact (mp_w hy hI3899 (c := 0) (mi_f0 hy hI3899.1 (c := 0) (by decide) (Or.inr (by decide)) (by decide)) (by decide) (by decide) (Or.inr (by decide)))
          have e3908 : I3907 (ad g 0) 4 = w3885 := by rw [eI3907, pp_ne _ _ (Or.inr (by decide))]; exact e3900
          have e3909 : I3907 (ad g 0) 2 = w3886 := by rw [eI3907, pp_ne _ _ (Or.inr (by decide))]; exact e3901
          have e3910 : I3907 (ad g 0) 1 = L3871 := by rw [eI3907, pp_ne _ _ (Or.inr (by decide))]; exact e3902
          have e3911 : I3907 (ad g 0) 10 = v3890 := by rw [eI3907, pp_ne _ _ (Or.inr (by decide))]; exact e3903
          have e3912 : I3907 (ad g 0) 8 = v3867 := by rw [eI3907, pp_ne _ _ (Or.inr (by decide))]; exact e3904
          have e3913 : I3907 (ad g 0) 9 = v3868 := by rw [eI3907, pp_self]
          have fr3914 : fs g [1, 2, 3, 4, 5, 6, 7, 8, 9] I I3907 := by rw [eI3907]; exact fs_pp0 fr3905 (by decide)
          have fr3915 : fz 49 g [0, 46, 47, 48] I I3907 := by rw [eI3907]; exact fzm_pp hy fr3906 (by decide) (by decide)
          clear eI3907
          refine WP_iload_n dX11_values_125 rfl ?_
          refine WQ_if_ne 131 dX11_values_126 rfl (fun c3915 => ?_) (fun c3915 => ?_)
          · refine WQ_iconst (0) (0) dX11_values_131 rfl rfl (fun v3917 hv3917 => ?_)
            refine WP_istore (ls' := [(0, _), (1, _), (2, _), (3, _), (4, _)]) dX11_values_132 (by decide) rfl ?_
            have lp134_3920 : ∀ (mz : Nat) (i3918 : Int32) (I3919 : pI) (J3920 : pJ), MP g n L3871 I3919 → fz 49 g [0, 46, 47, 48] I I3919 → fz 49 g [] J J3920 → fs g [1, 2, 3, 4, 5, 6, 7, 8, 9] I I3919 → 0 ≤ i3918.toInt → i3918.toInt ≤ 4 → (5 - i3918.toInt).toNat < mz → WP g mX11_values 134 [(0, .ref (ad g 0)), (1, .int v3867), (2, .int v3868), (3, .int v3897), (4, .int i3918)] [] I3919 J3920 R (fun r I' J' R' => ((∃ L2 : Int32, MP g n L2 I' ∧ L2.toInt = 0) ∧ R' = R ∧ fz 49 g [0, 46, 47, 48] I I' ∧ fz 49 g [] J J' ∧ fs g [1, 2, 3, 4, 5, 6, 7, 8, 9] I I') ∧ ∃ v : Int32, r = some (.int v)) := by
              intro mz
              induction mz with
              | zero =>
                intro i3918 I3919 J3920 hI3919 fiI3919 fjJ3920 fqI3919 ai3918 bi3918 hmlp134_3920
                exact absurd hmlp134_3920 (Nat.not_lt_zero _)
              | succ mz ihlp134_3920 =>
                intro i3918 I3919 J3920 hI3919 fiI3919 fjJ3920 fqI3919 ai3918 bi3918 hmlp134_3920
                have e3922 : I3919 (ad g 0) 1 = L3871 := hI3919.1.2
                have b3923 := BT_get hI3919.1.1 0 1 2 (0) (0) (900) (by decide) 1 (by decide) (by decide)
                rw [e3922] at b3923
                refine WP_iload dX11_values_134 rfl ?_
                refine WP_aload_n dX11_values_136 rfl ?_
                refine WQ_geti dX11_values_137 fX11_329 rfl (ly_is hy 0 11 rfl) (BT_get hI3919.1.1 0 10 11 (0) (0) (4) (by decide) 10 (by decide) (by decide)) (fun v3924 ev3924 av3924 bv3924 => ?_)
                refine WQ_icmp_ge 183 dX11_values_140 rfl (fun c3924 => ?_) (fun c3924 => ?_)
                · refine WQ_iconst (1) (1) dX11_values_183 rfl rfl (fun v3926 hv3926 => ?_)
                  exact WP_iret dX11_values_184 rfl ⟨⟨⟨_, hI3919, by omega⟩, rfl, fiI3919, fjJ3920, fqI3919⟩, _, rfl⟩
                · refine WP_aload_n dX11_values_143 rfl ?_
                  refine WP_getr dX11_values_144 fX11_310 rfl (ly_is hy 0 11 rfl) (rf hr 0 71 46 (by decide)) ?_
                  refine WP_iload dX11_values_147 rfl ?_
                  refine WP_aload_n dX11_values_149 rfl ?_
                  refine WP_getr dX11_values_150 fX11_316 rfl (ly_is hy 0 11 rfl) (rf hr 0 73 48 (by decide)) ?_
                  refine WQ_iconst (2) (2) dX11_values_153 rfl rfl (fun v3927 hv3927 => ?_)
                  refine WP_iload dX11_values_154 rfl ?_
                  refine WQ_imulK (2) dX11_values_156 hv3927 (by omega) (by omega) (fun v3928 hv3928 => ?_)
                  refine WQ_ialdu dX11_values_157 (ly_is hy 48 13 rfl) (ly_n hy 48 8 rfl) (by omega) (by omega) (fun v3929 => ?_)
                  refine WQ_iast dX11_values_158 (ly_is hy 46 13 rfl) (ly_n hy 46 4 rfl) (by omega) (by omega) (fun I3930 eI3930 => ?_)
                  have hI3930 : MP g n L3871 I3930 := by rw [eI3930]; exact (mp_w hy hI3919 (c := 46) (mi_r0 hy hI3919.1 (c := 46) (by decide) (Or.inl (by decide)) (by decide)) (by decide) (by decide) (Or.inl (by decide)))
                  have e3931 : I3930 (ad g 0) 1 = L3871 := by rw [eI3930, pp_ne _ _ (Or.inl (ly_ne hy (by decide) (by decide) (by decide)))]; exact e3922
                  have e3932 : I3930 (ad g 0) 10 = v3924 := by rw [eI3930, pp_ne _ _ (Or.inl (ly_ne hy (by decide) (by decide) (by decide)))]; exact ev3924
                  have fr3933 : fs g [1, 2, 3, 4, 5, 6, 7, 8, 9] I I3930 := by rw [eI3930]; exact fs_ppn hy fqI3919 (by decide) (by decide)
                  have fr3934 : fz 49 g [0, 46, 47, 48] I I3930 := by rw [eI3930]; exact fzm_pp hy fiI3919 (by decide) (by decide)
                  clear eI3930
                  refine WP_aload_n dX11_values_159 rfl ?_
                  refine WP_getr dX11_values_160 fX11_313 rfl (ly_is hy 0 11 rfl) (rf hr 0 72 47 (by decide)) ?_
                  refine WP_iload dX11_values_163 rfl ?_
                  refine WP_aload_n dX11_values_165 rfl ?_
                  refine WP_getr dX11_values_166 fX11_316 rfl (ly_is hy 0 11 rfl) (rf hr 0 73 48 (by decide)) ?_
                  refine WQ_iconst (2) (2) dX11_values_169 rfl rfl (fun v3935 hv3935 => ?_)
                  refine WP_iload dX11_values_170 rfl ?_
                  refine WQ_imulK (2) dX11_values_172 hv3935 (by omega) (by omega) (fun v3936 hv3936 => ?_)
                  refine WQ_iconst (1) (1) dX11_values_173 rfl rfl (fun v3937 hv3937 => ?_)
                  refine WQ_iadd dX11_values_174 (by omega) (by omega) (fun v3938 hv3938 => ?_)
                  refine WQ_ialdu dX11_values_175 (ly_is hy 48 13 rfl) (ly_n hy 48 8 rfl) (by omega) (by omega) (fun v3939 => ?_)
                  refine WQ_iast dX11_values_176 (ly_is hy 47 13 rfl) (ly_n hy 47 4 rfl) (by omega) (by omega) (fun I3940 eI3940 => ?_)
                  have hI3940 : MP g n L3871 I3940 := by rw [eI3940]; exact (mp_w hy hI3930 (c := 47) (mi_r0 hy hI3930.1 (c := 47) (by decide) (Or.inl (by decide)) (by decide)) (by decide) (by decide) (Or.inl (by decide)))
                  have e3941 : I3940 (ad g 0) 1 = L3871 := by rw [eI3940, pp_ne _ _ (Or.inl (ly_ne hy (by decide) (by decide) (by decide)))]; exact e3931
                  have e3942 : I3940 (ad g 0) 10 = v3924 := by rw [eI3940, pp_ne _ _ (Or.inl (ly_ne hy (by decide) (by decide) (by decide)))]; exact e3932
                  have fr3943 : fs g [1, 2, 3, 4, 5, 6, 7, 8, 9] I I3940 := by rw [eI3940]; exact fs_ppn hy fr3933 (by decide) (by decide)
                  have fr3944 : fz 49 g [0, 46, 47, 48] I I3940 := by rw [eI3940]; exact fzm_pp hy fr3934 (by decide) (by decide)
                  clear eI3940
                  refine WP_iinc (ls' := [(0, _), (1, _), (2, _), (3, _), (4, _)]) dX11_values_177 rfl (by decide) rfl ?_
                  have hv3945 : (i3918 + Int32.ofInt (1)).toInt = i3918.toInt + (1) := ia_n rfl (by omega) (by omega)
                  generalize i3918 + Int32.ofInt (1) = v3945 at hv3945 ⊢
                  refine WP_goto 134 dX11_values_180 rfl ?_
                  exact WP_sub (fc rfl (fc rfl (fc rfl (fc rfl (fc rfl fn))))) (ihlp134_3920 v3945 I3940 J3920 hI3940 fr3944 fjJ3920 fr3943 (by omega) (by omega) (by omega))
            exact WP_sub (fc rfl (fc rfl (fc rfl (fc rfl (fc rfl fn))))) (lp134_3920 _ v3917 I3907 J3884 hI3907 fr3915 fjJ3884 fr3914 (by omega) (by omega) (Nat.lt_succ_self _))
          · refine WQ_iconst (-1) (-1) dX11_values_129 rfl rfl (fun v3946 hv3946 => ?_)
            exact WP_iret dX11_values_130 rfl ⟨⟨⟨_, hI3907, by omega⟩, rfl, fr3915, fjJ3884, fr3914⟩, _, rfl⟩
        refine WQ_if_eq 113 dX11_values_99 rfl (fun c3946 => ?_) (fun c3946 => ?_)
        · refine WQ_iconst (0) (0) dX11_values_113 rfl rfl (fun v3948 hv3948 => ?_)
          exact WP_sub (fc rfl (fc rfl (fc rfl (fc rfl (fc rfl fn))))) (jn114_3897 v3948 (by omega) (by omega))
        · refine WP_aload_n dX11_values_102 rfl ?_
          refine WQ_geti dX11_values_103 fX11_27 rfl (ly_is hy 0 11 rfl) (BT_get hI3883.1.1 0 5 6 (0) (0) (4) (by decide) 5 (by decide) (by decide)) (fun v3949 ev3949 av3949 bv3949 => ?_)
          refine WQ_if_ne 113 dX11_values_106 rfl (fun c3949 => ?_) (fun c3949 => ?_)
          · refine WQ_iconst (0) (0) dX11_values_113 rfl rfl (fun v3951 hv3951 => ?_)
            exact WP_sub (fc rfl (fc rfl (fc rfl (fc rfl (fc rfl fn))))) (jn114_3897 v3951 (by omega) (by omega))
          · refine WQ_iconst (1) (1) dX11_values_109 rfl rfl (fun v3952 hv3952 => ?_)
            refine WP_goto 114 dX11_values_110 rfl ?_
            exact WP_sub (fc rfl (fc rfl (fc rfl (fc rfl (fc rfl fn))))) (jn114_3897 v3952 (by omega) (by omega))
      · refine WP_iload_n dX11_values_28 rfl ?_
        refine WQ_if_eq 98 dX11_values_29 rfl (fun c3952 => ?_) (fun c3952 => ?_)
        · refine WP_iload_n dX11_values_98 rfl ?_
          have jn114_3955 : ∀ (v3955 : Int32), 0 ≤ v3955.toInt → v3955.toInt ≤ 0 → WP g mX11_values 114 [(0, .ref (ad g 0)), (1, .int v3867), (2, .int v3868), (3, .int i3881), (4, .int i3882)] [.int v3955] I3883 J3884 R (fun r I' J' R' => ((∃ L2 : Int32, MP g n L2 I' ∧ L2.toInt = 0) ∧ R' = R ∧ fz 49 g [0, 46, 47, 48] I I' ∧ fz 49 g [] J J' ∧ fs g [1, 2, 3, 4, 5, 6, 7, 8, 9] I I') ∧ ∃ v : Int32, r = some (.int v)) := by
            intro v3955 av3955 bv3955
            refine WP_istore_n (ls' := [(0, _), (1, _), (2, _), (3, _), (4, _)]) dX11_values_114 (by decide) rfl ?_
            refine WP_aload_n dX11_values_115 rfl ?_
            refine WP_iload_n dX11_values_116 rfl ?_
            refine WQ_puti dX11_values_117 fX11_3 rfl rfl (ly_is hy 0 11 rfl) (fun I3957 eI3957 => ?_)
            have hI3957 : MP g n L3871 I3957 := by rw [eI3957]; exact (mp_w hy hI3883 (c := 0) (mi_f0 hy hI3883.1 (c := 0) (by decide) (Or.inr (by decide)) (by decide)) (by decide) (by decide) (Or.inr (by decide)))
            have e3958 : I3957 (ad g 0) 4 = w3885 := by rw [eI3957, pp_ne _ _ (Or.inr (by decide))]; exact ew3885
            have e3959 : I3957 (ad g 0) 2 = w3886 := by rw [eI3957, pp_ne _ _ (Or.inr (by decide))]; exact ew3886
            have e3960 : I3957 (ad g 0) 1 = L3871 := by rw [eI3957, pp_ne _ _ (Or.inr (by decide))]; exact e3888
            have e3961 : I3957 (ad g 0) 10 = v3890 := by rw [eI3957, pp_ne _ _ (Or.inr (by decide))]; exact ev3890
            have e3962 : I3957 (ad g 0) 8 = v3867 := by rw [eI3957, pp_self]
            have fr3963 : fs g [1, 2, 3, 4, 5, 6, 7, 8, 9] I I3957 := by rw [eI3957]; exact fs_pp0 fqI3883 (by decide)
            have fr3964 : fz 49 g [0, 46, 47, 48] I I3957 := by rw [eI3957]; exact fzm_pp hy fiI3883 (by decide) (by decide)
            clear eI3957
            refine WP_aload_n dX11_values_120 rfl ?_
            refine WP_iload_n dX11_values_121 rfl ?_
            refine WQ_puti dX11_values_122 fX11_10 rfl rfl (ly_is hy 0 11 rfl) (fun I3965 eI3965 => ?_)
            have hI3965 : MP g n L3871 I3965 := by rw [eI3965]; exact (mp_w hy hI3957 (c := 0) (mi_f0 hy hI3957.1 (c := 0) (by decide) (Or.inr (by decide)) (by decide)) (by decide) (by decide) (Or.inr (by decide)))
            have e3966 : I3965 (ad g 0) 4 = w3885 := by rw [eI3965, pp_ne _ _ (Or.inr (by decide))]; exact e3958
            have e3967 : I3965 (ad g 0) 2 = w3886 := by rw [eI3965, pp_ne _ _ (Or.inr (by decide))]; exact e3959
            have e3968 : I3965 (ad g 0) 1 = L3871 := by rw [eI3965, pp_ne _ _ (Or.inr (by decide))]; exact e3960
            have e3969 : I3965 (ad g 0) 10 = v3890 := by rw [eI3965, pp_ne _ _ (Or.inr (by decide))]; exact e3961
            have e3970 : I3965 (ad g 0) 8 = v3867 := by rw [eI3965, pp_ne _ _ (Or.inr (by decide))]; exact e3962
            have e3971 : I3965 (ad g 0) 9 = v3868 := by rw [eI3965, pp_self]
            have fr3972 : fs g [1, 2, 3, 4, 5, 6, 7, 8, 9] I I3965 := by rw [eI3965]; exact fs_pp0 fr3963 (by decide)
            have fr3973 : fz 49 g [0, 46, 47, 48] I I3965 := by rw [eI3965]; exact fzm_pp hy fr3964 (by decide) (by decide)
            clear eI3965
            refine WP_iload_n dX11_values_125 rfl ?_
            refine WQ_if_ne 131 dX11_values_126 rfl (fun c3973 => False.elim (by omega)) (fun c3973 => ?_)
            refine WQ_iconst (-1) (-1) dX11_values_129 rfl rfl (fun v3975 hv3975 => ?_)
            exact WP_iret dX11_values_130 rfl ⟨⟨⟨_, hI3965, by omega⟩, rfl, fr3973, fjJ3884, fr3972⟩, _, rfl⟩
          refine WQ_if_eq 113 dX11_values_99 rfl (fun c3975 => ?_) (fun c3975 => False.elim (by omega))
          refine WQ_iconst (0) (0) dX11_values_113 rfl rfl (fun v3977 hv3977 => ?_)
          exact WP_sub (fc rfl (fc rfl (fc rfl (fc rfl (fc rfl fn))))) (jn114_3955 v3977 (by omega) (by omega))
        · refine WQ_iconst (0) (0) dX11_values_32 rfl rfl (fun v3978 hv3978 => ?_)
          refine WP_istore (ls' := [(0, _), (1, _), (2, _), (3, _), (4, _), (5, _)]) dX11_values_33 (by decide) rfl ?_
          have lp35_3984 : ∀ (mz : Nat) (i3979 : Int32) (i3980 : Int32) (I3981 : pI) (J3982 : pJ), MP g n L3871 I3981 → fz 49 g [0, 46, 47, 48] I I3981 → fz 49 g [] J J3982 → fs g [1, 2, 3, 4, 5, 6, 7, 8, 9] I I3981 → ∀ (w3983 : Int32), I3981 (ad g 0) 4 = w3983 → ∀ (w3984 : Int32), I3981 (ad g 0) 2 = w3984 → 0 ≤ i3979.toInt → i3979.toInt ≤ 1 → 0 ≤ i3980.toInt → i3980.toInt ≤ 2 → w3983.toInt ≤ w3984.toInt → (3 - i3980.toInt).toNat < mz → WP g mX11_values 35 [(0, .ref (ad g 0)), (1, .int v3867), (2, .int v3868), (3, .int i3979), (4, .int i3882), (5, .int i3980)] [] I3981 J3982 R (fun r I' J' R' => ((∃ L2 : Int32, MP g n L2 I' ∧ L2.toInt = 0) ∧ R' = R ∧ fz 49 g [0, 46, 47, 48] I I' ∧ fz 49 g [] J J' ∧ fs g [1, 2, 3, 4, 5, 6, 7, 8, 9] I I') ∧ ∃ v : Int32, r = some (.int v)) := by
            intro mz
            induction mz with
            | zero =>
              intro i3979 i3980 I3981 J3982 hI3981 fiI3981 fjJ3982 fqI3981 w3983 ew3983 w3984 ew3984 ai3979 bi3979 ai3980 bi3980 j0_I3981 hmlp35_3984
              exact absurd hmlp35_3984 (Nat.not_lt_zero _)
            | succ mz ihlp35_3984 =>
              intro i3979 i3980 I3981 J3982 hI3981 fiI3981 fjJ3982 fqI3981 w3983 ew3983 w3984 ew3984 ai3979 bi3979 ai3980 bi3980 j0_I3981 hmlp35_3984
              have bw3983 := BT_get hI3981.1.1 0 4 5 (0) (0) (900) (by decide) 4 (by decide) (by decide)
              rw [ew3983] at bw3983
              have bw3984 := BT_get hI3981.1.1 0 2 3 (0) (0) (900) (by decide) 2 (by decide) (by decide)
              rw [ew3984] at bw3984
              have e3986 : I3981 (ad g 0) 1 = L3871 := hI3981.1.2
              have b3987 := BT_get hI3981.1.1 0 1 2 (0) (0) (900) (by decide) 1 (by decide) (by decide)
              rw [e3986] at b3987
              refine WP_iload dX11_values_35 rfl ?_
              refine WQ_iconst (2) (2) dX11_values_37 rfl rfl (fun v3988 hv3988 => ?_)
              refine WQ_icmp_ge 75 dX11_values_38 rfl (fun c3988 => ?_) (fun c3988 => ?_)
              · refine WP_iload_n dX11_values_75 rfl ?_
                refine WQ_if_eq 90 dX11_values_76 rfl (fun c3989 => ?_) (fun c3989 => ?_)
                · refine WQ_iconst (0) (0) dX11_values_90 rfl rfl (fun v3991 hv3991 => ?_)
                  refine WP_istore_n (ls' := [(0, _), (1, _), (2, _), (3, _), (4, _), (5, _)]) dX11_values_91 (by decide) rfl ?_
                  refine WP_iinc (ls' := [(0, _), (1, _), (2, _), (3, _), (4, _), (5, _)]) dX11_values_92 rfl (by decide) rfl ?_
                  have hv3992 : (i3882 + Int32.ofInt (1)).toInt = i3882.toInt + (1) := ia_n rfl (by omega) (by omega)
                  generalize i3882 + Int32.ofInt (1) = v3992 at hv3992 ⊢
                  refine WP_goto 19 dX11_values_95 rfl ?_
                  exact WP_sub (fc rfl (fc rfl (fc rfl (fc rfl (fc rfl fn))))) (ihlp19_3886 v3991 v3992 I3981 J3982 hI3981 fiI3981 fjJ3982 fqI3981 w3983 ew3983 w3984 ew3984 (by omega) (by omega) (by omega) (by omega) (by omega) (by omega))
                · refine WP_aload_n dX11_values_79 rfl ?_
                  refine WP_callV0 (k := 11) dX11_values_80 ⟨⟨⟨by decide, by decide⟩, zX11_close⟩, lX11_213, by decide, rfl, vX11_close.1, vX11_close.2⟩ (ly_is hy 0 11 rfl) (sm_close hy hr hI3981   (by rw [ew3983, ew3984]; omega)) (Nat.le_of_ble_eq_true rfl) ?_
                  intro r I3993 J3994 Ra hq
                  obtain ⟨⟨hI3993, ec, fiI3993, fjI3993, fqI3993, ⟨pI3993, sI3993_0_15, sI3993_0_16⟩⟩, v3995, rfl, av3995, bv3995⟩ := hq
                  show WP _ _ _ _ (.int _ :: _) _ _ _ _
                  rw [ec]
                  clear ec Ra
                  have fr3996 : fz 49 g [0, 46, 47, 48] I I3993 := fz_tr fiI3981 (fz_mono fiI3993 (by decide))
                  have fr3997 : fs g [1, 2, 3, 4, 5, 6, 7, 8, 9] I I3993 := fs_tr fqI3981 (fs_mono fqI3993 (by decide))
                  have fr3998 : fz 49 g [] J J3994 := fz_tr fjJ3982 (fz_mono fjI3993 (by decide))
                  have e3999 : I3993 (ad g 0) 1 = L3871 := hI3993.1.2
                  have b4000 := BT_get hI3993.1.1 0 1 2 (0) (0) (900) (by decide) 1 (by decide) (by decide)
                  rw [e3999] at b4000
                  obtain ⟨w4001, ew4001⟩ : ∃ w : Int32, I3993 (ad g 0) 4 = w := ⟨_, rfl⟩
                  have bw4001 := BT_get hI3993.1.1 0 4 5 (0) (0) (900) (by decide) 4 (by decide) (by decide)
                  rw [ew4001] at bw4001
                  obtain ⟨w4002, ew4002⟩ : ∃ w : Int32, I3993 (ad g 0) 2 = w := ⟨_, rfl⟩
                  have bw4002 := BT_get hI3993.1.1 0 2 3 (0) (0) (900) (by decide) 2 (by decide) (by decide)
                  rw [ew4002] at bw4002
                  rw [ew4001, ew4002] at pI3993
                  have jn91_4005 : ∀ (v4005 : Int32), 0 ≤ v4005.toInt → v4005.toInt ≤ 1 → WP g mX11_values 91 [(0, .ref (ad g 0)), (1, .int v3867), (2, .int v3868), (3, .int i3979), (4, .int i3882), (5, .int i3980)] [.int v4005] I3993 J3994 R (fun r I' J' R' => ((∃ L2 : Int32, MP g n L2 I' ∧ L2.toInt = 0) ∧ R' = R ∧ fz 49 g [0, 46, 47, 48] I I' ∧ fz 49 g [] J J' ∧ fs g [1, 2, 3, 4, 5, 6, 7, 8, 9] I I') ∧ ∃ v : Int32, r = some (.int v)) := by
                    intro v4005 av4005 bv4005
                    refine WP_istore_n (ls' := [(0, _), (1, _), (2, _), (3, _), (4, _), (5, _)]) dX11_values_91 (by decide) rfl ?_
                    refine WP_iinc (ls' := [(0, _), (1, _), (2, _), (3, _), (4, _), (5, _)]) dX11_values_92 rfl (by decide) rfl ?_
                    have hv4007 : (i3882 + Int32.ofInt (1)).toInt = i3882.toInt + (1) := ia_n rfl (by omega) (by omega)
                    generalize i3882 + Int32.ofInt (1) = v4007 at hv4007 ⊢
                    refine WP_goto 19 dX11_values_95 rfl ?_
                    exact WP_sub (fc rfl (fc rfl (fc rfl (fc rfl (fc rfl fn))))) (ihlp19_3886 v4005 v4007 I3993 J3994 hI3993 fr3996 fr3998 fr3997 w4001 ew4001 w4002 ew4002 (by omega) (by omega) (by omega) (by omega) (by omega) (by omega))
                  refine WQ_if_eq 90 dX11_values_83 rfl (fun c4007 => ?_) (fun c4007 => ?_)
                  · refine WQ_iconst (0) (0) dX11_values_90 rfl rfl (fun v4009 hv4009 => ?_)
                    exact WP_sub (fc rfl (fc rfl (fc rfl (fc rfl (fc rfl (fc rfl fn)))))) (jn91_4005 v4009 (by omega) (by omega))
                  · refine WQ_iconst (1) (1) dX11_values_86 rfl rfl (fun v4010 hv4010 => ?_)
                    refine WP_goto 91 dX11_values_87 rfl ?_
                    exact WP_sub (fc rfl (fc rfl (fc rfl (fc rfl (fc rfl (fc rfl fn)))))) (jn91_4005 v4010 (by omega) (by omega))
              · refine WP_iload_n dX11_values_41 rfl ?_
                refine WQ_if_eq 75 dX11_values_42 rfl (fun c4010 => ?_) (fun c4010 => ?_)
                · refine WP_iload_n dX11_values_75 rfl ?_
                  refine WQ_if_eq 90 dX11_values_76 rfl (fun c4011 => ?_) (fun c4011 => False.elim (by omega))
                  refine WQ_iconst (0) (0) dX11_values_90 rfl rfl (fun v4013 hv4013 => ?_)
                  refine WP_istore_n (ls' := [(0, _), (1, _), (2, _), (3, _), (4, _), (5, _)]) dX11_values_91 (by decide) rfl ?_
                  refine WP_iinc (ls' := [(0, _), (1, _), (2, _), (3, _), (4, _), (5, _)]) dX11_values_92 rfl (by decide) rfl ?_
                  have hv4014 : (i3882 + Int32.ofInt (1)).toInt = i3882.toInt + (1) := ia_n rfl (by omega) (by omega)
                  generalize i3882 + Int32.ofInt (1) = v4014 at hv4014 ⊢
                  refine WP_goto 19 dX11_values_95 rfl ?_
                  exact WP_sub (fc rfl (fc rfl (fc rfl (fc rfl (fc rfl fn))))) (ihlp19_3886 v4013 v4014 I3981 J3982 hI3981 fiI3981 fjJ3982 fqI3981 w3983 ew3983 w3984 ew3984 (by omega) (by omega) (by omega) (by omega) (by omega) (by omega))
                · refine WP_aload_n dX11_values_45 rfl ?_
                  refine WQ_iconst (0) (0) dX11_values_46 rfl rfl (fun v4015 hv4015 => ?_)
                  refine WQ_bipush (99) (99) dX11_values_47 rfl rfl (fun v4016 hv4016 => ?_)
                  refine WP_callV2 (k := 11) dX11_values_49 ⟨⟨⟨by decide, by decide⟩, zX11_number⟩, lX11_81, by decide, rfl, vX11_number.1, vX11_number.2⟩ (ly_is hy 0 11 rfl) (sm_number hy hr hI3981 v4015 v4016 (by omega) (by omega) (by omega) (by omega) (by rw [ew3983, ew3984]; omega)) (Nat.le_of_ble_eq_true rfl) ?_
                  intro r I4017 J4018 Ra hq
                  obtain ⟨⟨hI4017, ec, fiI4017, fjI4017, fqI4017, ⟨pI4017, sI4017_0_15, sI4017_0_16⟩⟩, v4019, rfl, av4019, bv4019, cv4019⟩ := hq
                  show WP _ _ _ _ (.int _ :: _) _ _ _ _
                  rw [ec]
                  clear ec Ra
                  have fr4020 : fz 49 g [0, 46, 47, 48] I I4017 := fz_tr fiI3981 (fz_mono fiI4017 (by decide))
                  have fr4021 : fs g [1, 2, 3, 4, 5, 6, 7, 8, 9] I I4017 := fs_tr fqI3981 (fs_mono fqI4017 (by decide))
                  have fr4022 : fz 49 g [] J J4018 := fz_tr fjJ3982 (fz_mono fjI4017 (by decide))
                  have e4023 : I4017 (ad g 0) 1 = L3871 := hI4017.1.2
                  have b4024 := BT_get hI4017.1.1 0 1 2 (0) (0) (900) (by decide) 1 (by decide) (by decide)
                  rw [e4023] at b4024
                  obtain ⟨w4025, ew4025⟩ : ∃ w : Int32, I4017 (ad g 0) 4 = w := ⟨_, rfl⟩
                  have bw4025 := BT_get hI4017.1.1 0 4 5 (0) (0) (900) (by decide) 4 (by decide) (by decide)
                  rw [ew4025] at bw4025
                  obtain ⟨w4026, ew4026⟩ : ∃ w : Int32, I4017 (ad g 0) 2 = w := ⟨_, rfl⟩
                  have bw4026 := BT_get hI4017.1.1 0 2 3 (0) (0) (900) (by decide) 2 (by decide) (by decide)
                  rw [ew4026] at bw4026
                  rw [ew4025, ew4026] at pI4017
                  obtain ⟨w4027, ew4027⟩ : ∃ w : Int32, I4017 (ad g 0) 7 = w := ⟨_, rfl⟩
                  have bw4027 := BT_get hI4017.1.1 0 7 8 (-1) (0) (1000) (by decide) 7 (by decide) (by decide)
                  rw [ew4027] at bw4027
                  rw [ew4027] at cv4019
                  refine WP_istore_n (ls' := [(0, _), (1, _), (2, _), (3, _), (4, _), (5, _)]) dX11_values_52 (by decide) rfl ?_
                  refine WP_aload_n dX11_values_53 rfl ?_
                  refine WP_getr dX11_values_54 fX11_316 rfl (ly_is hy 0 11 rfl) (rf hr 0 73 48 (by decide)) ?_
                  refine WQ_iconst (2) (2) dX11_values_57 rfl rfl (fun v4028 hv4028 => ?_)
                  refine WP_iload dX11_values_58 rfl ?_
                  refine WQ_imulK (2) dX11_values_60 hv4028 (by omega) (by omega) (fun v4029 hv4029 => ?_)
                  refine WP_iload dX11_values_61 rfl ?_
                  refine WQ_iadd dX11_values_63 (by omega) (by omega) (fun v4030 hv4030 => ?_)
                  refine WP_aload_n dX11_values_64 rfl ?_
                  refine WQ_getim dX11_values_65 fX11_56 rfl (ly_is hy 0 11 rfl) ew4027 ?_
                  refine WQ_iast dX11_values_68 (ly_is hy 48 13 rfl) (ly_n hy 48 8 rfl) (by omega) (by omega) (fun I4031 eI4031 => ?_)
                  have hI4031 : MP g n L3871 I4031 := by rw [eI4031]; exact (mp_w hy hI4017 (c := 48) (mi_r0 hy hI4017.1 (c := 48) (by decide) (Or.inl (by decide)) (by decide)) (by decide) (by decide) (Or.inl (by decide)))
                  have e4032 : I4031 (ad g 0) 1 = L3871 := by rw [eI4031, pp_ne _ _ (Or.inl (ly_ne hy (by decide) (by decide) (by decide)))]; exact e4023
                  have e4033 : I4031 (ad g 0) 4 = w4025 := by rw [eI4031, pp_ne _ _ (Or.inl (ly_ne hy (by decide) (by decide) (by decide)))]; exact ew4025
                  have e4034 : I4031 (ad g 0) 2 = w4026 := by rw [eI4031, pp_ne _ _ (Or.inl (ly_ne hy (by decide) (by decide) (by decide)))]; exact ew4026
                  have e4035 : I4031 (ad g 0) 7 = w4027 := by rw [eI4031, pp_ne _ _ (Or.inl (ly_ne hy (by decide) (by decide) (by decide)))]; exact ew4027
                  have fr4036 : fs g [1, 2, 3, 4, 5, 6, 7, 8, 9] I I4031 := by rw [eI4031]; exact fs_ppn hy fr4021 (by decide) (by decide)
                  have fr4037 : fz 49 g [0, 46, 47, 48] I I4031 := by rw [eI4031]; exact fzm_pp hy fr4020 (by decide) (by decide)
                  clear eI4031
                  refine WP_iinc (ls' := [(0, _), (1, _), (2, _), (3, _), (4, _), (5, _)]) dX11_values_69 rfl (by decide) rfl ?_
                  have hv4038 : (i3980 + Int32.ofInt (1)).toInt = i3980.toInt + (1) := ia_n rfl (by omega) (by omega)
                  generalize i3980 + Int32.ofInt (1) = v4038 at hv4038 ⊢
                  refine WP_goto 35 dX11_values_72 rfl ?_
                  exact WP_sub (fc rfl (fc rfl (fc rfl (fc rfl (fc rfl (fc rfl fn)))))) (ihlp35_3984 v4019 v4038 I4031 J4018 hI4031 fr4037 fr4022 fr4036 w4025 e4033 w4026 e4034 (by omega) (by omega) (by omega) (by omega) (by omega) (by omega))
          exact WP_sub (fc rfl (fc rfl (fc rfl (fc rfl (fc rfl (fc rfl fn)))))) (lp35_3984 _ i3881 v3978 I3883 J3884 hI3883 fiI3883 fjJ3884 fqI3883 w3885 ew3885 w3886 ew3886 (by omega) (by omega) (by omega) (by omega) (by omega) (Nat.lt_succ_self _))
  exact WP_sub (fc rfl (fc rfl (fc rfl (fc rfl (fc rfl fn))))) (lp19_3886 _ v3879 v3880 I3869 J3870 hI3869 fr3872 fr3874 fr3873 w3877 ew3877 w3878 ew3878 (by omega) (by omega) (by omega) (by omega) (by omega) (Nat.lt_succ_self _))
set_option maxHeartbeats 4000000 in
set_option maxRecDepth 100000 in
theorem sm_isBest {g : GG} {n : Int} {L : Int32} (hy : Ly g)  {I : pI} {J : pJ} {R : pR} (hr : Rf g R) (hI : MP g n L I) (a : Int32) (b : Int32) (c : Int32) (e : Int32) (k : Int32)  : SP g mX11_isBest [.ref (ad g 0), .int a, .int b, .int c, .int e, .int k] I J R (fun r I' J' R' => (I' = I ∧ J' = J ∧ R' = R) ∧ ∃ v : Int32, r = some (.int v) ∧ 0 ≤ v.toInt ∧ v.toInt ≤ 1 ∧ (v.toInt = 1 → (0 ≤ a.toInt ∧ a.toInt ≤ 3 ∧ a.toInt < (I (ad g 0) 10).toInt) ∧ (0 ≤ b.toInt ∧ b.toInt ≤ 6) ∧ (0 ≤ c.toInt ∧ c.toInt ≤ 60) ∧ (0 ≤ e.toInt ∧ e.toInt ≤ 5) ∧ (0 ≤ k.toInt ∧ k.toInt ≤ 28))) := by
  refine SP_of ⟨by decide, rfl⟩ (Nat.le_of_ble_eq_true rfl) ?_
  have e4039 : I (ad g 0) 1 = L := hI.1.2
  have b4040 := BT_get hI.1.1 0 1 2 (0) (0) (900) (by decide) 1 (by decide) (by decide)
  rw [e4039] at b4040
  refine WP_aload_n dX11_isBest_0 rfl ?_
  refine WP_iload_n dX11_isBest_1 rfl ?_
  refine WP_callV1 (k := 11) dX11_isBest_2 ⟨⟨⟨by decide, by decide⟩, zX11_isSort⟩, lX11_367, by decide, rfl, vX11_isSort.1, vX11_isSort.2⟩ (ly_is hy 0 11 rfl) (sm_isSort hy hr hI a ) (Nat.le_of_ble_eq_true rfl) ?_
  intro r Ia Ja Ra hq
  obtain ⟨⟨ea, eb, ec⟩, v4041, rfl, av4041, bv4041, cv4041⟩ := hq
  show WP _ _ _ _ (.int _ :: _) _ _ _ _
  rw [ea, eb, ec]
  clear ea eb ec Ia Ja Ra
  obtain ⟨w4042, ew4042⟩ : ∃ w : Int32, I (ad g 0) 10 = w := ⟨_, rfl⟩
  have bw4042 := BT_get hI.1.1 0 10 11 (0) (0) (4) (by decide) 10 (by decide) (by decide)
  rw [ew4042] at bw4042
  rw [ew4042] at cv4041
  refine WQ_if_eq 47 dX11_isBest_5 rfl (fun c4042 => ?_) (fun c4042 => ?_)
  · refine WQ_iconst (0) (0) dX11_isBest_47 rfl rfl (fun v4044 hv4044 => ?_)
    exact WP_zret dX11_isBest_48 rfl (nar_z (by omega)) ⟨⟨rfl, rfl, rfl⟩, _, rfl, by omega, by omega, by (try rw [ew4042]); omega⟩
  · refine WP_iload_n dX11_isBest_8 rfl ?_
    refine WP_callS1 dX11_isBest_9 ⟨⟨⟨by decide, by decide⟩, zX11_isDay⟩, lX11_370, tX11_isDay⟩ (sm_isDay hy hr hI b ) (Nat.le_of_ble_eq_true rfl) ?_
    intro r Ia Ja Ra hq
    obtain ⟨⟨ea, eb, ec⟩, v4045, rfl, av4045, bv4045, cv4045⟩ := hq
    show WP _ _ _ _ (.int _ :: _) _ _ _ _
    rw [ea, eb, ec]
    clear ea eb ec Ia Ja Ra
    refine WQ_if_eq 47 dX11_isBest_12 rfl (fun c4045 => ?_) (fun c4045 => ?_)
    · refine WQ_iconst (0) (0) dX11_isBest_47 rfl rfl (fun v4047 hv4047 => ?_)
      exact WP_zret dX11_isBest_48 rfl (nar_z (by omega)) ⟨⟨rfl, rfl, rfl⟩, _, rfl, by omega, by omega, by (try rw [ew4042]); omega⟩
    · refine WP_iload_n dX11_isBest_15 rfl ?_
      refine WP_callS1 dX11_isBest_16 ⟨⟨⟨by decide, by decide⟩, zX11_areCoins⟩, lX11_392, tX11_areCoins⟩ (sm_areCoins hy hr hI c ) (Nat.le_of_ble_eq_true rfl) ?_
      intro r Ia Ja Ra hq
      obtain ⟨⟨ea, eb, ec⟩, v4048, rfl, av4048, bv4048, cv4048⟩ := hq
      show WP _ _ _ _ (.int _ :: _) _ _ _ _
      rw [ea, eb, ec]
      clear ea eb ec Ia Ja Ra
      refine WQ_if_eq 47 dX11_isBest_19 rfl (fun c4048 => ?_) (fun c4048 => ?_)
      · refine WQ_iconst (0) (0) dX11_isBest_47 rfl rfl (fun v4050 hv4050 => ?_)
        exact WP_zret dX11_isBest_48 rfl (nar_z (by omega)) ⟨⟨rfl, rfl, rfl⟩, _, rfl, by omega, by omega, by (try rw [ew4042]); omega⟩
      · refine WP_iload dX11_isBest_22 rfl ?_
        refine WP_callS1 dX11_isBest_24 ⟨⟨⟨by decide, by decide⟩, zX11_isStore⟩, lX11_395, tX11_isStore⟩ (sm_isStore hy hr hI e ) (Nat.le_of_ble_eq_true rfl) ?_
        intro r Ia Ja Ra hq
        obtain ⟨⟨ea, eb, ec⟩, v4051, rfl, av4051, bv4051, cv4051⟩ := hq
        show WP _ _ _ _ (.int _ :: _) _ _ _ _
        rw [ea, eb, ec]
        clear ea eb ec Ia Ja Ra
        refine WQ_if_eq 47 dX11_isBest_27 rfl (fun c4051 => ?_) (fun c4051 => ?_)
        · refine WQ_iconst (0) (0) dX11_isBest_47 rfl rfl (fun v4053 hv4053 => ?_)
          exact WP_zret dX11_isBest_48 rfl (nar_z (by omega)) ⟨⟨rfl, rfl, rfl⟩, _, rfl, by omega, by omega, by (try rw [ew4042]); omega⟩
        · refine WP_iload dX11_isBest_30 rfl ?_
          refine WQ_i2l dX11_isBest_32 (fun l4054 hl4054 => ?_)
          refine WP_lconst (0) dX11_isBest_33 rfl ?_
          obtain ⟨l4055, hl4055, el4055⟩ : ∃ v : Int64, v.toInt = 0 ∧ (0 : Int64) = v := ⟨_, rfl, rfl⟩
          rw [el4055]; clear el4055
          refine WP_ldc2 (28) dX11_isBest_34 klX11_433 ?_
          obtain ⟨l4056, hl4056, el4056⟩ : ∃ v : Int64, v.toInt = (28) ∧ ((28) : Int64) = v := ⟨_, rfl, rfl⟩
          rw [el4056]; clear el4056
          refine WP_callS3 dX11_isBest_37 ⟨⟨⟨by decide, by decide⟩, zX11_in⟩, lX11_52, tX11_in⟩ (sm_in hy hr hI l4054 l4055 l4056 ) (Nat.le_of_ble_eq_true rfl) ?_
          intro r Ia Ja Ra hq
          obtain ⟨⟨ea, eb, ec⟩, v4057, rfl, av4057, bv4057, cv4057⟩ := hq
          show WP _ _ _ _ (.int _ :: _) _ _ _ _
          rw [ea, eb, ec]
          clear ea eb ec Ia Ja Ra
          refine WQ_if_eq 47 dX11_isBest_40 rfl (fun c4057 => ?_) (fun c4057 => ?_)
          · refine WQ_iconst (0) (0) dX11_isBest_47 rfl rfl (fun v4059 hv4059 => ?_)
            exact WP_zret dX11_isBest_48 rfl (nar_z (by omega)) ⟨⟨rfl, rfl, rfl⟩, _, rfl, by omega, by omega, by (try rw [ew4042]); omega⟩
          · refine WQ_iconst (1) (1) dX11_isBest_43 rfl rfl (fun v4060 hv4060 => ?_)
            refine WP_goto 48 dX11_isBest_44 rfl ?_
            exact WP_zret dX11_isBest_48 rfl (nar_z (by omega)) ⟨⟨rfl, rfl, rfl⟩, _, rfl, by omega, by omega, by (try rw [ew4042]); omega⟩
set_option maxHeartbeats 4000000 in
set_option maxRecDepth 100000 in
theorem sm_earned {g : GG} {n : Int} {L : Int32} (hy : Ly g)  {I : pI} {J : pJ} {R : pR} (hr : Rf g R) (hI : MP g n L I) (so : Int32) (da : Int32) (co : Int32) (so_lo : 0 ≤ so.toInt) (so_hi : so.toInt ≤ 3) (da_lo : 0 ≤ da.toInt) (da_hi : da.toInt ≤ 6) (co_lo : 0 ≤ co.toInt) (co_hi : co.toInt ≤ 60) : SP g mX11_earned [.ref (ad g 0), .int so, .int da, .int co] I J R (fun r I' J' R' => (I' = I ∧ J' = J ∧ R' = R) ∧ ∃ v : Int32, r = some (.int v) ∧ 0 ≤ v.toInt ∧ v.toInt ≤ 60) := by
  refine SP_of ⟨by decide, rfl⟩ (Nat.le_of_ble_eq_true rfl) ?_
  have e4061 : I (ad g 0) 1 = L := hI.1.2
  have b4062 := BT_get hI.1.1 0 1 2 (0) (0) (900) (by decide) 1 (by decide) (by decide)
  rw [e4061] at b4062
  refine WQ_bipush (60) (60) dX11_earned_0 rfl rfl (fun v4063 hv4063 => ?_)
  refine WP_iload_n dX11_earned_2 rfl ?_
  refine WP_aload_n dX11_earned_3 rfl ?_
  refine WP_getr dX11_earned_4 fX11_252 rfl (ly_is hy 0 11 rfl) (rf hr 0 38 20 (by decide)) ?_
  refine WQ_bipush (7) (7) dX11_earned_7 rfl rfl (fun v4064 hv4064 => ?_)
  refine WP_iload_n dX11_earned_9 rfl ?_
  refine WQ_imulK (7) dX11_earned_10 hv4064 (by omega) (by omega) (fun v4065 hv4065 => ?_)
  refine WP_iload_n dX11_earned_11 rfl ?_
  refine WQ_iadd dX11_earned_12 (by omega) (by omega) (fun v4066 hv4066 => ?_)
  refine WQ_iald dX11_earned_13 (ly_is hy 20 13 rfl) (ly_n hy 20 28 rfl) (by omega) (by omega) (fun q hq => BT_get hI.1.1 20 0 28 (0) (0) (20) (by decide) q (Nat.zero_le _) hq) (fun v4067 av4067 bv4067 ev4067 => ?_)
  clear ev4067
  refine WQ_iadd dX11_earned_14 (by omega) (by omega) (fun v4068 hv4068 => ?_)
  refine WQ_min dX11_earned_15 lX11_417 ⟨by decide, Nat.le_of_ble_eq_true rfl⟩ (fun v4069 av4069 bv4069 cv4069 => ?_)
  exact WP_iret dX11_earned_18 rfl ⟨⟨rfl, rfl, rfl⟩, _, rfl, by omega, by omega⟩
