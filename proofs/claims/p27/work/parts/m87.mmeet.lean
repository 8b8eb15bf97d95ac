set_option maxHeartbeats 4000000 in
set_option maxRecDepth 100000 in
theorem sm_findMeet {g : GG} {n : Int} {L : Int32} (hy : Ly g)  {I : pI} {J : pJ} {R : pR} (hr : Rf g R) (hI : MP g n L I) (so : Int32) (se : Int32) (mm : Int32) (r : Int32) (t : Int32) (so_lo : 0 ≤ so.toInt) (so_hi : so.toInt ≤ 3) (t_lo : 0 ≤ t.toInt) (t_hi : t.toInt ≤ 40) (hb : so.toInt < (I (ad g 0) 10).toInt) : SP g mX11_findMeet [.ref (ad g 0), .int so, .int se, .int mm, .int r, .int t] I J R (fun r I' J' R' => (MP g n L I' ∧ R' = R ∧ I' (ad g 0) 10 = I (ad g 0) 10) ∧ r = none) := by
  refine SP_of ⟨by decide, rfl⟩ (Nat.le_of_ble_eq_true rfl) ?_
  have e2915 : I (ad g 0) 1 = L := hI.1.2
  have b2916 := BT_get hI.1.1 0 1 2 (0) (0) (900) (by decide) 1 (by decide) (by decide)
  rw [e2915] at b2916
  obtain ⟨w2917, ew2917⟩ : ∃ w : Int32, I (ad g 0) 10 = w := ⟨_, rfl⟩
  have bw2917 := BT_get hI.1.1 0 10 11 (0) (0) (4) (by decide) 10 (by decide) (by decide)
  rw [ew2917] at bw2917
  rw [ew2917] at hb
  refine WQ_iconst (0) (0) dX11_findMeet_0 rfl rfl (fun v2918 hv2918 => ?_)
  refine WP_istore (ls' := [(0, _), (1, _), (2, _), (3, _), (4, _), (5, _), (6, _)]) dX11_findMeet_1 (by decide) rfl ?_
  refine WQ_iconst (0) (0) dX11_findMeet_3 rfl rfl (fun v2919 hv2919 => ?_)
  refine WP_istore (ls' := [(0, _), (1, _), (2, _), (3, _), (4, _), (5, _), (6, _), (7, _)]) dX11_findMeet_4 (by decide) rfl ?_
  refine WQ_iconst (0) (0) dX11_findMeet_6 rfl rfl (fun v2920 hv2920 => ?_)
  refine WP_istore (ls' := [(0, _), (1, _), (2, _), (3, _), (4, _), (5, _), (6, _), (7, _), (8, _)]) dX11_findMeet_7 (by decide) rfl ?_
  have lp9_2923 : ∀ (mz : Nat) (i2921 : Int32) (i2922 : Int32) (i2923 : Int32), 0 ≤ i2922.toInt → i2922.toInt ≤ 396 → 0 ≤ i2923.toInt → i2923.toInt ≤ 4 → i2922.toInt ≤ 99 * i2923.toInt → i2923.toInt ≤ i2922.toInt → i2923.toInt ≤ w2917.toInt → (5 - i2923.toInt).toNat < mz → WP g mX11_findMeet 9 [(0, .ref (ad g 0)), (1, .int so), (2, .int se), (3, .int mm), (4, .int r), (5, .int t), (6, .int i2921), (7, .int i2922), (8, .int i2923)] [] I J R (fun r I' J' R' => (MP g n L I' ∧ R' = R ∧ I' (ad g 0) 10 = I (ad g 0) 10) ∧ r = none) := by
    intro mz
    induction mz with
    | zero =>
      intro i2921 i2922 i2923 ai2922 bi2922 ai2923 bi2923 j0_I j1_I j2_I hmlp9_2923
      exact absurd hmlp9_2923 (Nat.not_lt_zero _)
    | succ mz ihlp9_2923 =>
      intro i2921 i2922 i2923 ai2922 bi2922 ai2923 bi2923 j0_I j1_I j2_I hmlp9_2923
      refine WP_iload dX11_findMeet_9 rfl ?_
      refine WP_aload_n dX11_findMeet_11 rfl ?_
      refine WQ_getim dX11_findMeet_12 fX11_329 rfl (ly_is hy 0 11 rfl) ew2917 ?_
      refine WQ_icmp_ge 62 dX11_findMeet_15 rfl (fun c2924 => ?_) (fun c2924 => ?_)
      · refine WP_ldc2 (10) dX11_findMeet_62 klX11_353 ?_
        obtain ⟨l2926, hl2926, el2926⟩ : ∃ v : Int64, v.toInt = (10) ∧ ((10) : Int64) = v := ⟨_, rfl, rfl⟩
        rw [el2926]; clear el2926
        refine WP_iload_n dX11_findMeet_65 rfl ?_
        refine WQ_i2l dX11_findMeet_66 (fun l2927 hl2927 => ?_)
        refine WQ_lmul dX11_findMeet_67 (fun l2928 => ?_)
        refine WP_iload dX11_findMeet_68 rfl ?_
        refine WQ_i2l dX11_findMeet_70 (fun l2929 hl2929 => ?_)
        refine WQ_lmul dX11_findMeet_71 (fun l2930 => ?_)
        refine WP_iload dX11_findMeet_72 rfl ?_
        refine WQ_i2l dX11_findMeet_74 (fun l2931 hl2931 => ?_)
        refine WQ_ldiv dX11_findMeet_75 (by omega) (fun l2932 => ?_)
        refine WP_lstore (ls' := [(0, _), (1, _), (2, _), (3, _), (4, _), (5, _), (6, _), (7, _), (8, _)]) dX11_findMeet_76 (by decide) rfl ?_
        refine WP_aload_n dX11_findMeet_78 rfl ?_
        refine WP_lconst (0) dX11_findMeet_79 rfl ?_
        obtain ⟨l2933, hl2933, el2933⟩ : ∃ v : Int64, v.toInt = 0 ∧ (0 : Int64) = v := ⟨_, rfl, rfl⟩
        rw [el2933]; clear el2933
        refine WQ_putl dX11_findMeet_80 fX11_527 rfl rfl (ly_is hy 0 11 rfl) (fun J2934 eJ2934 => ?_)
        clear eJ2934
        refine WP_aload_n dX11_findMeet_83 rfl ?_
        refine WP_lconst (0) dX11_findMeet_84 rfl ?_
        obtain ⟨l2935, hl2935, el2935⟩ : ∃ v : Int64, v.toInt = 0 ∧ (0 : Int64) = v := ⟨_, rfl, rfl⟩
        rw [el2935]; clear el2935
        refine WQ_putl dX11_findMeet_85 fX11_530 rfl rfl (ly_is hy 0 11 rfl) (fun J2936 eJ2936 => ?_)
        clear eJ2936
        refine WQ_iconst (0) (0) dX11_findMeet_88 rfl rfl (fun v2937 hv2937 => ?_)
        refine WP_istore (ls' := [(0, _), (1, _), (2, _), (3, _), (4, _), (5, _), (6, _), (7, _), (8, _), (10, _)]) dX11_findMeet_89 (by decide) rfl ?_
        have lp91_2941 : ∀ (mz : Nat) (i2938 : Int32) (I2939 : pI) (J2940 : pJ), MP g n L I2939 → ∀ (w2941 : Int32), I2939 (ad g 0) 10 = w2941 → 0 ≤ i2938.toInt → i2938.toInt ≤ 40 → w2941.toInt = w2917.toInt → (41 - i2938.toInt).toNat < mz → WP g mX11_findMeet 91 [(0, .ref (ad g 0)), (1, .int so), (2, .int se), (3, .int mm), (4, .int r), (5, .int t), (6, .int i2921), (7, .int i2922), (8, .long l2932), (10, .int i2938)] [] I2939 J2940 R (fun r I' J' R' => (MP g n L I' ∧ R' = R ∧ I' (ad g 0) 10 = I (ad g 0) 10) ∧ r = none) := by
          intro mz
          induction mz with
          | zero =>
            intro i2938 I2939 J2940 hI2939 w2941 ew2941 ai2938 bi2938 j0_I2939 hmlp91_2941
            exact absurd hmlp91_2941 (Nat.not_lt_zero _)
          | succ mz ihlp91_2941 =>
            intro i2938 I2939 J2940 hI2939 w2941 ew2941 ai2938 bi2938 j0_I2939 hmlp91_2941
            have bw2941 := BT_get hI2939.1.1 0 10 11 (0) (0) (4) (by decide) 10 (by decide) (by decide)
            rw [ew2941] at bw2941
            have e2943 : I2939 (ad g 0) 1 = L := hI2939.1.2
            have b2944 := BT_get hI2939.1.1 0 1 2 (0) (0) (900) (by decide) 1 (by decide) (by decide)
            rw [e2943] at b2944
            refine WP_iload dX11_findMeet_91 rfl ?_
            refine WP_iload dX11_findMeet_93 rfl ?_
            refine WQ_icmp_ge 231 dX11_findMeet_95 rfl (fun c2944 => ?_) (fun c2944 => ?_)
            · exact WP_vret dX11_findMeet_231 rfl ⟨⟨hI2939, rfl, (by rw [ew2941, ew2917] <;> exact (eq32 _ _).mpr (by omega))⟩, rfl⟩
            · refine WP_aload_n dX11_findMeet_98 rfl ?_
              refine WQ_getl dX11_findMeet_99 fX11_527 rfl (ly_is hy 0 11 rfl) (fun l2946 el2946 => ?_)
              refine WP_lload dX11_findMeet_102 rfl ?_
              refine WP_ldc2 (1000) dX11_findMeet_104 klX11_488 ?_
              obtain ⟨l2947, hl2947, el2947⟩ : ∃ v : Int64, v.toInt = (1000) ∧ ((1000) : Int64) = v := ⟨_, rfl, rfl⟩
              rw [el2947]; clear el2947
              refine WP_aload_n dX11_findMeet_107 rfl ?_
              refine WP_getr dX11_findMeet_108 fX11_310 rfl (ly_is hy 0 11 rfl) (rf hr 0 71 46 (by decide)) ?_
              refine WP_iload_n dX11_findMeet_111 rfl ?_
              refine WQ_ialdu dX11_findMeet_112 (ly_is hy 46 13 rfl) (ly_n hy 46 4 rfl) (by omega) (by omega) (fun v2948 => ?_)
              refine WQ_i2l dX11_findMeet_113 (fun l2949 hl2949 => ?_)
              refine WQ_lmul dX11_findMeet_114 (fun l2950 => ?_)
              refine WP_aload_n dX11_findMeet_115 rfl ?_
              refine WQ_getl dX11_findMeet_116 fX11_530 rfl (ly_is hy 0 11 rfl) (fun l2951 el2951 => ?_)
              refine WQ_ladd dX11_findMeet_119 (fun l2952 => ?_)
              refine WQ_lmul dX11_findMeet_120 (fun l2953 => ?_)
              refine WP_ldc2 (1000) dX11_findMeet_121 klX11_488 ?_
              obtain ⟨l2954, hl2954, el2954⟩ : ∃ v : Int64, v.toInt = (1000) ∧ ((1000) : Int64) = v := ⟨_, rfl, rfl⟩
              rw [el2954]; clear el2954
              refine WP_lload dX11_findMeet_124 rfl ?_
              refine WQ_lsub dX11_findMeet_126 (fun l2955 => ?_)
              refine WP_aload_n dX11_findMeet_127 rfl ?_
              refine WP_getl dX11_findMeet_128 fX11_527 rfl (ly_is hy 0 11 rfl) ?_
              rw [el2946]
              refine WQ_lmul dX11_findMeet_131 (fun l2956 => ?_)
              refine WQ_ladd dX11_findMeet_132 (fun l2957 => ?_)
              refine WP_ldc2 (1000) dX11_findMeet_133 klX11_488 ?_
              obtain ⟨l2958, hl2958, el2958⟩ : ∃ v : Int64, v.toInt = (1000) ∧ ((1000) : Int64) = v := ⟨_, rfl, rfl⟩
              rw [el2958]; clear el2958
              refine WQ_ldiv dX11_findMeet_136 (by omega) (fun l2959 => ?_)
              refine WQ_maxl dX11_findMeet_137 lX11_533 ⟨by decide, Nat.le_of_ble_eq_true rfl⟩ (fun l2960 => ?_)
              refine WP_lstore (ls' := [(0, _), (1, _), (2, _), (3, _), (4, _), (5, _), (6, _), (7, _), (8, _), (10, _), (11, _)]) dX11_findMeet_140 (by decide) rfl ?_
              refine WP_iload_n dX11_findMeet_142 rfl ?_
              refine WP_iload_n dX11_findMeet_143 rfl ?_
              refine WQ_ishru dX11_findMeet_144 (fun v2961 => ?_)
              refine WQ_iconst (1) (1) dX11_findMeet_145 rfl rfl (fun v2962 hv2962 => ?_)
              refine WQ_iandu dX11_findMeet_146 (fun v2963 => ?_)
              refine WQ_if_ne 157 dX11_findMeet_147 rfl (fun c2963 => ?_) (fun c2963 => ?_)
              · refine WP_ldc2 (10) dX11_findMeet_157 klX11_353 ?_
                obtain ⟨l2965, hl2965, el2965⟩ : ∃ v : Int64, v.toInt = (10) ∧ ((10) : Int64) = v := ⟨_, rfl, rfl⟩
                rw [el2965]; clear el2965
                refine WP_iload_n dX11_findMeet_160 rfl ?_
                refine WQ_i2l dX11_findMeet_161 (fun l2966 hl2966 => ?_)
                refine WQ_lmul dX11_findMeet_162 (fun l2967 => ?_)
                refine WP_aload_n dX11_findMeet_163 rfl ?_
                refine WP_getl dX11_findMeet_164 fX11_527 rfl (ly_is hy 0 11 rfl) ?_
                rw [el2946]
                refine WP_ldc2 (1000) dX11_findMeet_167 klX11_488 ?_
                obtain ⟨l2968, hl2968, el2968⟩ : ∃ v : Int64, v.toInt = (1000) ∧ ((1000) : Int64) = v := ⟨_, rfl, rfl⟩
                rw [el2968]; clear el2968
                refine WP_aload_n dX11_findMeet_170 rfl ?_
                refine WP_getr dX11_findMeet_171 fX11_313 rfl (ly_is hy 0 11 rfl) (rf hr 0 72 47 (by decide)) ?_
                refine WP_iload_n dX11_findMeet_174 rfl ?_
                refine WQ_ialdu dX11_findMeet_175 (ly_is hy 47 13 rfl) (ly_n hy 47 4 rfl) (by omega) (by omega) (fun v2969 => ?_)
                refine WQ_i2l dX11_findMeet_176 (fun l2970 hl2970 => ?_)
                refine WQ_lmul dX11_findMeet_177 (fun l2971 => ?_)
                refine WQ_lsub dX11_findMeet_178 (fun l2972 => ?_)
                refine WQ_lmul dX11_findMeet_179 (fun l2973 => ?_)
                refine WP_ldc2 (1000) dX11_findMeet_180 klX11_488 ?_
                obtain ⟨l2974, hl2974, el2974⟩ : ∃ v : Int64, v.toInt = (1000) ∧ ((1000) : Int64) = v := ⟨_, rfl, rfl⟩
                rw [el2974]; clear el2974
                refine WP_ldc2 (10) dX11_findMeet_183 klX11_353 ?_
                obtain ⟨l2975, hl2975, el2975⟩ : ∃ v : Int64, v.toInt = (10) ∧ ((10) : Int64) = v := ⟨_, rfl, rfl⟩
                rw [el2975]; clear el2975
                refine WP_iload_n dX11_findMeet_186 rfl ?_
                refine WQ_i2l dX11_findMeet_187 (fun l2976 hl2976 => ?_)
                refine WQ_lmul dX11_findMeet_188 (fun l2977 => ?_)
                refine WQ_lsub dX11_findMeet_189 (fun l2978 => ?_)
                refine WP_aload_n dX11_findMeet_190 rfl ?_
                refine WP_getl dX11_findMeet_191 fX11_530 rfl (ly_is hy 0 11 rfl) ?_
                rw [el2951]
                refine WQ_lmul dX11_findMeet_194 (fun l2979 => ?_)
                refine WQ_ladd dX11_findMeet_195 (fun l2980 => ?_)
                refine WP_ldc2 (1000) dX11_findMeet_196 klX11_488 ?_
                obtain ⟨l2981, hl2981, el2981⟩ : ∃ v : Int64, v.toInt = (1000) ∧ ((1000) : Int64) = v := ⟨_, rfl, rfl⟩
                rw [el2981]; clear el2981
                refine WQ_ldiv dX11_findMeet_199 (by omega) (fun l2982 => ?_)
                refine WP_lstore (ls' := [(0, _), (1, _), (2, _), (3, _), (4, _), (5, _), (6, _), (7, _), (8, _), (10, _), (11, _), (13, _)]) dX11_findMeet_200 (by decide) rfl ?_
                refine WP_aload_n dX11_findMeet_202 rfl ?_
                refine WP_lload dX11_findMeet_203 rfl ?_
                refine WP_lload dX11_findMeet_205 rfl ?_
                refine WP_iload dX11_findMeet_207 rfl ?_
                refine WQ_i2l dX11_findMeet_209 (fun l2983 hl2983 => ?_)
                refine WQ_lmul dX11_findMeet_210 (fun l2984 => ?_)
                refine WP_ldc2 (1000) dX11_findMeet_211 klX11_488 ?_
                obtain ⟨l2985, hl2985, el2985⟩ : ∃ v : Int64, v.toInt = (1000) ∧ ((1000) : Int64) = v := ⟨_, rfl, rfl⟩
                rw [el2985]; clear el2985
                refine WQ_ldiv dX11_findMeet_214 (by omega) (fun l2986 => ?_)
                refine WQ_lsub dX11_findMeet_215 (fun l2987 => ?_)
                refine WQ_putl dX11_findMeet_216 fX11_527 rfl rfl (ly_is hy 0 11 rfl) (fun J2988 eJ2988 => ?_)
                clear eJ2988
                refine WP_aload_n dX11_findMeet_219 rfl ?_
                refine WP_lload dX11_findMeet_220 rfl ?_
                refine WQ_putl dX11_findMeet_222 fX11_530 rfl rfl (ly_is hy 0 11 rfl) (fun J2989 eJ2989 => ?_)
                clear eJ2989
                refine WP_iinc (ls' := [(0, _), (1, _), (2, _), (3, _), (4, _), (5, _), (6, _), (7, _), (8, _), (10, _), (11, _), (13, _)]) dX11_findMeet_225 rfl (by decide) rfl ?_
                have hv2990 : (i2938 + Int32.ofInt (1)).toInt = i2938.toInt + (1) := ia_n rfl (by omega) (by omega)
                generalize i2938 + Int32.ofInt (1) = v2990 at hv2990 ⊢
                refine WP_goto 91 dX11_findMeet_228 rfl ?_
                exact WP_sub (fc rfl (fc rfl (fc rfl (fc rfl (fc rfl (fc rfl (fc rfl (fc rfl (fc rfl (fc rfl fn)))))))))) (ihlp91_2941 v2990 I2939 J2989 hI2939 w2941 ew2941 (by omega) (by omega) (by omega) (by omega))
              · refine WP_aload_n dX11_findMeet_150 rfl ?_
                refine WP_getl dX11_findMeet_151 fX11_530 rfl (ly_is hy 0 11 rfl) ?_
                rw [el2951]
                refine WP_goto 200 dX11_findMeet_154 rfl ?_
                refine WP_lstore (ls' := [(0, _), (1, _), (2, _), (3, _), (4, _), (5, _), (6, _), (7, _), (8, _), (10, _), (11, _), (13, _)]) dX11_findMeet_200 (by decide) rfl ?_
                refine WP_aload_n dX11_findMeet_202 rfl ?_
                refine WP_lload dX11_findMeet_203 rfl ?_
                refine WP_lload dX11_findMeet_205 rfl ?_
                refine WP_iload dX11_findMeet_207 rfl ?_
                refine WQ_i2l dX11_findMeet_209 (fun l2991 hl2991 => ?_)
                refine WQ_lmul dX11_findMeet_210 (fun l2992 => ?_)
                refine WP_ldc2 (1000) dX11_findMeet_211 klX11_488 ?_
                obtain ⟨l2993, hl2993, el2993⟩ : ∃ v : Int64, v.toInt = (1000) ∧ ((1000) : Int64) = v := ⟨_, rfl, rfl⟩
                rw [el2993]; clear el2993
                refine WQ_ldiv dX11_findMeet_214 (by omega) (fun l2994 => ?_)
                refine WQ_lsub dX11_findMeet_215 (fun l2995 => ?_)
                refine WQ_putl dX11_findMeet_216 fX11_527 rfl rfl (ly_is hy 0 11 rfl) (fun J2996 eJ2996 => ?_)
                clear eJ2996
                refine WP_aload_n dX11_findMeet_219 rfl ?_
                refine WP_lload dX11_findMeet_220 rfl ?_
                refine WQ_putl dX11_findMeet_222 fX11_530 rfl rfl (ly_is hy 0 11 rfl) (fun J2997 eJ2997 => ?_)
                clear eJ2997
                refine WP_iinc (ls' := [(0, _), (1, _), (2, _), (3, _), (4, _), (5, _), (6, _), (7, _), (8, _), (10, _), (11, _), (13, _)]) dX11_findMeet_225 rfl (by decide) rfl ?_
                have hv2998 : (i2938 + Int32.ofInt (1)).toInt = i2938.toInt + (1) := ia_n rfl (by omega) (by omega)
                generalize i2938 + Int32.ofInt (1) = v2998 at hv2998 ⊢
                refine WP_goto 91 dX11_findMeet_228 rfl ?_
                exact WP_sub (fc rfl (fc rfl (fc rfl (fc rfl (fc rfl (fc rfl (fc rfl (fc rfl (fc rfl (fc rfl fn)))))))))) (ihlp91_2941 v2998 I2939 J2997 hI2939 w2941 ew2941 (by omega) (by omega) (by omega) (by omega))
        exact WP_sub (fc rfl (fc rfl (fc rfl (fc rfl (fc rfl (fc rfl (fc rfl (fc rfl (fc rfl (fc rfl fn)))))))))) (lp91_2941 _ v2937 I J2936 hI w2917 ew2917 (by omega) (by omega) (by omega) (Nat.lt_succ_self _))
      · refine WP_iload dX11_findMeet_18 rfl ?_
        refine WP_aload_n dX11_findMeet_20 rfl ?_
        refine WP_getr dX11_findMeet_21 fX11_235 rfl (ly_is hy 0 11 rfl) (rf hr 0 26 8 (by decide)) ?_
        refine WP_iload dX11_findMeet_24 rfl ?_
        refine WQ_ialdf (q := i2923.toInt.toNat) dX11_findMeet_26 (ly_is hy 8 13 rfl) (ly_n hy 8 4 rfl) (by omega) (by omega) (by omega) (pp_get hI (by omega) (by rw [ew2917]; omega)) (fun v2999 av2999 bv2999 => ?_)
        refine WQ_iadd dX11_findMeet_27 (by omega) (by omega) (fun v3000 hv3000 => ?_)
        refine WP_istore (ls' := [(0, _), (1, _), (2, _), (3, _), (4, _), (5, _), (6, _), (7, _), (8, _)]) dX11_findMeet_28 (by decide) rfl ?_
        refine WP_iload dX11_findMeet_30 rfl ?_
        refine WP_iload_n dX11_findMeet_32 rfl ?_
        refine WP_iload dX11_findMeet_33 rfl ?_
        refine WQ_ishru dX11_findMeet_35 (fun v3001 => ?_)
        refine WQ_iconst (1) (1) dX11_findMeet_36 rfl rfl (fun v3002 hv3002 => ?_)
        refine WQ_iandu dX11_findMeet_37 (fun v3003 => ?_)
        refine WQ_iconst (1) (1) dX11_findMeet_38 rfl rfl (fun v3004 hv3004 => ?_)
        have jn53_3007 : ∀ (v3007 : Int32), 0 ≤ v3007.toInt → v3007.toInt ≤ 99 → WP g mX11_findMeet 53 [(0, .ref (ad g 0)), (1, .int so), (2, .int se), (3, .int mm), (4, .int r), (5, .int t), (6, .int i2921), (7, .int v3000), (8, .int i2923)] [.int v3007, .int i2921] I J R (fun r I' J' R' => (MP g n L I' ∧ R' = R ∧ I' (ad g 0) 10 = I (ad g 0) 10) ∧ r = none) := by
          intro v3007 av3007 bv3007
          refine WQ_iaddu dX11_findMeet_53 (fun v3009 => ?_)
          refine WP_istore (ls' := [(0, _), (1, _), (2, _), (3, _), (4, _), (5, _), (6, _), (7, _), (8, _)]) dX11_findMeet_54 (by decide) rfl ?_
          refine WP_iinc (ls' := [(0, _), (1, _), (2, _), (3, _), (4, _), (5, _), (6, _), (7, _), (8, _)]) dX11_findMeet_56 rfl (by decide) rfl ?_
          have hv3010 : (i2923 + Int32.ofInt (1)).toInt = i2923.toInt + (1) := ia_n rfl (by omega) (by omega)
          generalize i2923 + Int32.ofInt (1) = v3010 at hv3010 ⊢
          refine WP_goto 9 dX11_findMeet_59 rfl ?_
          exact WP_sub (fc rfl (fc rfl (fc rfl (fc rfl (fc rfl (fc rfl (fc rfl (fc rfl (fc rfl fn))))))))) (ihlp9_2923 v3009 v3000 v3010 (by omega) (by omega) (by omega) (by omega) (by omega) (by omega) (by omega) (by omega))
        refine WQ_icmp_ne 52 dX11_findMeet_39 rfl (fun c3010 => ?_) (fun c3010 => ?_)
        · refine WQ_iconst (0) (0) dX11_findMeet_52 rfl rfl (fun v3012 hv3012 => ?_)
          exact WP_sub (fc rfl (fc rfl (fc rfl (fc rfl (fc rfl (fc rfl (fc rfl (fc rfl (fc rfl fn))))))))) (jn53_3007 v3012 (by omega) (by omega))
        · refine WP_aload_n dX11_findMeet_42 rfl ?_
          refine WP_getr dX11_findMeet_43 fX11_235 rfl (ly_is hy 0 11 rfl) (rf hr 0 26 8 (by decide)) ?_
          refine WP_iload dX11_findMeet_46 rfl ?_
          refine WQ_iald dX11_findMeet_48 (ly_is hy 8 13 rfl) (ly_n hy 8 4 rfl) (by omega) (by omega) (fun q hq => BT_get hI.1.1 8 0 4 (0) (0) (99) (by decide) q (Nat.zero_le _) hq) (fun v3013 av3013 bv3013 ev3013 => ?_)
          clear ev3013
          refine WP_goto 53 dX11_findMeet_49 rfl ?_
          exact WP_sub (fc rfl (fc rfl (fc rfl (fc rfl (fc rfl (fc rfl (fc rfl (fc rfl (fc rfl fn))))))))) (jn53_3007 v3013 (by omega) (by omega))
  exact WP_sub (fc rfl (fc rfl (fc rfl (fc rfl (fc rfl (fc rfl (fc rfl (fc rfl (fc rfl fn))))))))) (lp9_2923 _ v2918 v2919 v2920 (by omega) (by omega) (by omega) (by omega) (by omega) (by omega) (by omega) (Nat.lt_succ_self _))
set_option maxHeartbeats 4000000 in
set_option maxRecDepth 100000 in
theorem sm_meet {g : GG} {n : Int} {L : Int32} (hy : Ly g)  {I : pI} {J : pJ} {R : pR} (hr : Rf g R) (hI : MP g n L I) (a : Int32) (b : Int32) (c : Int32) (e : Int32) (f : Int32) (h : Int32)  : SP g mX11_meet [.ref (ad g 0), .int a, .int b, .int c, .int e, .int f, .int h] I J R (fun r I' J' R' => (MP g n L I' ∧ R' = R) ∧ ∃ v : Int32, r = some (.int v)) := by
  refine SP_of ⟨by decide, rfl⟩ (Nat.le_of_ble_eq_true rfl) ?_
  have e3014 : I (ad g 0) 1 = L := hI.1.2
  have b3015 := BT_get hI.1.1 0 1 2 (0) (0) (900) (by decide) 1 (by decide) (by decide)
  rw [e3014] at b3015
  refine WP_aload_n dX11_meet_0 rfl ?_
  refine WP_iload_n dX11_meet_1 rfl ?_
  refine WP_callV1 (k := 11) dX11_meet_2 ⟨⟨⟨by decide, by decide⟩, zX11_isSort⟩, lX11_367, by decide, rfl, vX11_isSort.1, vX11_isSort.2⟩ (ly_is hy 0 11 rfl) (sm_isSort hy hr hI a ) (Nat.le_of_ble_eq_true rfl) ?_
  intro r Ia Ja Ra hq
  obtain ⟨⟨ea, eb, ec⟩, v3016, rfl, av3016, bv3016, cv3016⟩ := hq
  show WP _ _ _ _ (.int _ :: _) _ _ _ _
  rw [ea, eb, ec]
  clear ea eb ec Ia Ja Ra
  obtain ⟨w3017, ew3017⟩ : ∃ w : Int32, I (ad g 0) 10 = w := ⟨_, rfl⟩
  have bw3017 := BT_get hI.1.1 0 10 11 (0) (0) (4) (by decide) 10 (by decide) (by decide)
  rw [ew3017] at bw3017
  rw [ew3017] at cv3016
  refine WQ_if_eq 47 dX11_meet_5 rfl (fun c3017 => ?_) (fun c3017 => ?_)
  · refine WP_ldcw (-1000000) dX11_meet_47 kX11_544 ?_
    obtain ⟨v3019, hv3019, ev3019⟩ : ∃ v : Int32, v.toInt = -1000000 ∧ ((-1000000) : Int32) = v := ⟨(-1000000), rfl, rfl⟩
    rw [ev3019]; clear ev3019
    exact WP_iret dX11_meet_50 rfl ⟨⟨hI, rfl⟩, _, rfl⟩
  · refine WP_iload_n dX11_meet_8 rfl ?_
    refine WQ_i2l dX11_meet_9 (fun l3020 hl3020 => ?_)
    refine WP_lconst (0) dX11_meet_10 rfl ?_
    obtain ⟨l3021, hl3021, el3021⟩ : ∃ v : Int64, v.toInt = 0 ∧ (0 : Int64) = v := ⟨_, rfl, rfl⟩
    rw [el3021]; clear el3021
    refine WP_lconst (1) dX11_meet_11 rfl ?_
    obtain ⟨l3022, hl3022, el3022⟩ : ∃ v : Int64, v.toInt = 1 ∧ (1 : Int64) = v := ⟨_, rfl, rfl⟩
    rw [el3022]; clear el3022
    refine WP_aload_n dX11_meet_12 rfl ?_
    refine WQ_getim dX11_meet_13 fX11_329 rfl (ly_is hy 0 11 rfl) ew3017 ?_
    refine WQ_lshl dX11_meet_16 (fun l3023 => ?_)
    refine WP_lconst (1) dX11_meet_17 rfl ?_
    obtain ⟨l3024, hl3024, el3024⟩ : ∃ v : Int64, v.toInt = 1 ∧ (1 : Int64) = v := ⟨_, rfl, rfl⟩
    rw [el3024]; clear el3024
    refine WQ_lsub dX11_meet_18 (fun l3025 => ?_)
    refine WP_callS3 dX11_meet_19 ⟨⟨⟨by decide, by decide⟩, zX11_in⟩, lX11_52, tX11_in⟩ (sm_in hy hr hI l3020 l3021 l3025 ) (Nat.le_of_ble_eq_true rfl) ?_
    intro r Ia Ja Ra hq
    obtain ⟨⟨ea, eb, ec⟩, v3026, rfl, av3026, bv3026, cv3026⟩ := hq
    show WP _ _ _ _ (.int _ :: _) _ _ _ _
    rw [ea, eb, ec]
    clear ea eb ec Ia Ja Ra
    refine WQ_if_eq 47 dX11_meet_22 rfl (fun c3026 => ?_) (fun c3026 => ?_)
    · refine WP_ldcw (-1000000) dX11_meet_47 kX11_544 ?_
      obtain ⟨v3028, hv3028, ev3028⟩ : ∃ v : Int32, v.toInt = -1000000 ∧ ((-1000000) : Int32) = v := ⟨(-1000000), rfl, rfl⟩
      rw [ev3028]; clear ev3028
      exact WP_iret dX11_meet_50 rfl ⟨⟨hI, rfl⟩, _, rfl⟩
    · refine WP_iload_n dX11_meet_25 rfl ?_
      refine WP_iload dX11_meet_26 rfl ?_
      refine WP_iload dX11_meet_28 rfl ?_
      refine WP_callS3 dX11_meet_30 ⟨⟨⟨by decide, by decide⟩, zX11_isMeet⟩, lX11_540, tX11_isMeet⟩ (sm_isMeet hy hr hI c e f   ) (Nat.le_of_ble_eq_true rfl) ?_
      intro r Ia Ja Ra hq
      obtain ⟨⟨ea, eb, ec⟩, v3029, rfl, av3029, bv3029, cv3029⟩ := hq
      show WP _ _ _ _ (.int _ :: _) _ _ _ _
      rw [ea, eb, ec]
      clear ea eb ec Ia Ja Ra
      refine WQ_if_eq 47 dX11_meet_33 rfl (fun c3029 => ?_) (fun c3029 => ?_)
      · refine WP_ldcw (-1000000) dX11_meet_47 kX11_544 ?_
        obtain ⟨v3031, hv3031, ev3031⟩ : ∃ v : Int32, v.toInt = -1000000 ∧ ((-1000000) : Int32) = v := ⟨(-1000000), rfl, rfl⟩
        rw [ev3031]; clear ev3031
        exact WP_iret dX11_meet_50 rfl ⟨⟨hI, rfl⟩, _, rfl⟩
      · refine WP_iload dX11_meet_36 rfl ?_
        refine WQ_i2l dX11_meet_38 (fun l3032 hl3032 => ?_)
        refine WP_lconst (0) dX11_meet_39 rfl ?_
        obtain ⟨l3033, hl3033, el3033⟩ : ∃ v : Int64, v.toInt = 0 ∧ (0 : Int64) = v := ⟨_, rfl, rfl⟩
        rw [el3033]; clear el3033
        refine WP_lconst (1) dX11_meet_40 rfl ?_
        obtain ⟨l3034, hl3034, el3034⟩ : ∃ v : Int64, v.toInt = 1 ∧ (1 : Int64) = v := ⟨_, rfl, rfl⟩
        rw [el3034]; clear el3034
        refine WP_callS3 dX11_meet_41 ⟨⟨⟨by decide, by decide⟩, zX11_in⟩, lX11_52, tX11_in⟩ (sm_in hy hr hI l3032 l3033 l3034 ) (Nat.le_of_ble_eq_true rfl) ?_
        intro r Ia Ja Ra hq
        obtain ⟨⟨ea, eb, ec⟩, v3035, rfl, av3035, bv3035, cv3035⟩ := hq
        show WP _ _ _ _ (.int _ :: _) _ _ _ _
        rw [ea, eb, ec]
        clear ea eb ec Ia Ja Ra
        refine WQ_if_ne 51 dX11_meet_44 rfl (fun c3035 => ?_) (fun c3035 => ?_)
        · refine WP_aload_n dX11_meet_51 rfl ?_
          refine WP_iload_n dX11_meet_52 rfl ?_
          refine WP_iload_n dX11_meet_53 rfl ?_
          refine WP_iload_n dX11_meet_54 rfl ?_
          refine WP_iload dX11_meet_55 rfl ?_
          refine WP_iload dX11_meet_57 rfl ?_
          refine WP_callV5 (k := 11) dX11_meet_59 ⟨⟨⟨by decide, by decide⟩, zX11_findMeet⟩, lX11_545, by decide, rfl, vX11_findMeet.1, vX11_findMeet.2⟩ (ly_is hy 0 11 rfl) (sm_findMeet hy hr hI a b c e f (by omega) (by omega)    (by omega) (by omega) (by rw [ew3017]; omega)) (Nat.le_of_ble_eq_true rfl) ?_
          intro r I3037 J3038 Ra hq
          obtain ⟨⟨hI3037, ec, pI3037⟩, rfl⟩ := hq
          rw [ec]
          clear ec Ra
          have e3039 : I3037 (ad g 0) 1 = L := hI3037.1.2
          have b3040 := BT_get hI3037.1.1 0 1 2 (0) (0) (900) (by decide) 1 (by decide) (by decide)
          rw [e3039] at b3040
          obtain ⟨w3041, ew3041⟩ : ∃ w : Int32, I3037 (ad g 0) 10 = w := ⟨_, rfl⟩
          have bw3041 := BT_get hI3037.1.1 0 10 11 (0) (0) (4) (by decide) 10 (by decide) (by decide)
          rw [ew3041] at bw3041
          rw [ew3041] at pI3037
          refine WP_iload dX11_meet_62 rfl ?_
          refine WQ_if_ne 74 dX11_meet_64 rfl (fun c3043 => ?_) (fun c3043 => ?_)
          · refine WP_aload_n dX11_meet_74 rfl ?_
            refine WQ_getl dX11_meet_75 fX11_530 rfl (ly_is hy 0 11 rfl) (fun l3045 el3045 => ?_)
            refine WQ_l2i dX11_meet_78 (fun v3046 => ?_)
            exact WP_iret dX11_meet_79 rfl ⟨⟨hI3037, rfl⟩, _, rfl⟩
          · refine WP_aload_n dX11_meet_67 rfl ?_
            refine WQ_getl dX11_meet_68 fX11_527 rfl (ly_is hy 0 11 rfl) (fun l3047 el3047 => ?_)
            refine WP_goto 78 dX11_meet_71 rfl ?_
            refine WQ_l2i dX11_meet_78 (fun v3048 => ?_)
            exact WP_iret dX11_meet_79 rfl ⟨⟨hI3037, rfl⟩, _, rfl⟩
        · refine WP_ldcw (-1000000) dX11_meet_47 kX11_544 ?_
          obtain ⟨v3049, hv3049, ev3049⟩ : ∃ v : Int32, v.toInt = -1000000 ∧ ((-1000000) : Int32) = v := ⟨(-1000000), rfl, rfl⟩
          rw [ev3049]; clear ev3049
          exact WP_iret dX11_meet_50 rfl ⟨⟨hI, rfl⟩, _, rfl⟩
set_option maxHeartbeats 4000000 in
set_option maxRecDepth 100000 in
theorem sm_rests {g : GG} {n : Int} {L : Int32} (hy : Ly g)  {I : pI} {J : pJ} {R : pR} (hr : Rf g R) (hI : MP g n L I) (a : Int32) (b : Int32) (c : Int32)  : SP g mX11_rests [.ref (ad g 0), .int a, .int b, .int c] I J R (fun r I' J' R' => (MP g n L I' ∧ R' = R) ∧ ∃ v : Int32, r = some (.int v)) := by
  refine SP_of ⟨by decide, rfl⟩ (Nat.le_of_ble_eq_true rfl) ?_
  have e3050 : I (ad g 0) 1 = L := hI.1.2
  have b3051 := BT_get hI.1.1 0 1 2 (0) (0) (900) (by decide) 1 (by decide) (by decide)
  rw [e3050] at b3051
  refine WP_iload_n dX11_rests_0 rfl ?_
  refine WP_iload_n dX11_rests_1 rfl ?_
  refine WP_iload_n dX11_rests_2 rfl ?_
  refine WP_callS3 dX11_rests_3 ⟨⟨⟨by decide, by decide⟩, zX11_isMeet⟩, lX11_540, tX11_isMeet⟩ (sm_isMeet hy hr hI a b c   ) (Nat.le_of_ble_eq_true rfl) ?_
  intro r Ia Ja Ra hq
  obtain ⟨⟨ea, eb, ec⟩, v3052, rfl, av3052, bv3052, cv3052⟩ := hq
  show WP _ _ _ _ (.int _ :: _) _ _ _ _
  rw [ea, eb, ec]
  clear ea eb ec Ia Ja Ra
  refine WQ_if_ne 12 dX11_rests_6 rfl (fun c3052 => ?_) (fun c3052 => ?_)
  · refine WQ_iconst (0) (0) dX11_rests_12 rfl rfl (fun v3054 hv3054 => ?_)
    refine WP_istore (ls' := [(0, _), (1, _), (2, _), (3, _), (4, _)]) dX11_rests_13 (by decide) rfl ?_
    refine WQ_iconst (0) (0) dX11_rests_15 rfl rfl (fun v3055 hv3055 => ?_)
    refine WP_istore (ls' := [(0, _), (1, _), (2, _), (3, _), (4, _), (5, _)]) dX11_rests_16 (by decide) rfl ?_
    have lp18_3059 : ∀ (mz : Nat) (i3056 : Int32) (i3057 : Int32) (I3058 : pI) (J3059 : pJ), MP g n L I3058 → 0 ≤ i3057.toInt → i3057.toInt ≤ 16 → (17 - i3057.toInt).toNat < mz → WP g mX11_rests 18 [(0, .ref (ad g 0)), (1, .int a), (2, .int b), (3, .int c), (4, .int i3056), (5, .int i3057)] [] I3058 J3059 R (fun r I' J' R' => (MP g n L I' ∧ R' = R) ∧ ∃ v : Int32, r = some (.int v)) := by
      intro mz
      induction mz with
      | zero =>
        intro i3056 i3057 I3058 J3059 hI3058 ai3057 bi3057 hmlp18_3059
        exact absurd hmlp18_3059 (Nat.not_lt_zero _)
      | succ mz ihlp18_3059 =>
        intro i3056 i3057 I3058 J3059 hI3058 ai3057 bi3057 hmlp18_3059
        have e3061 : I3058 (ad g 0) 1 = L := hI3058.1.2
        have b3062 := BT_get hI3058.1.1 0 1 2 (0) (0) (900) (by decide) 1 (by decide) (by decide)
        rw [e3061] at b3062
        refine WP_iload dX11_rests_18 rfl ?_
        refine WQ_iconst (1) (1) dX11_rests_20 rfl rfl (fun v3063 hv3063 => ?_)
        refine WP_aload_n dX11_rests_21 rfl ?_
        refine WQ_geti dX11_rests_22 fX11_329 rfl (ly_is hy 0 11 rfl) (BT_get hI3058.1.1 0 10 11 (0) (0) (4) (by decide) 10 (by decide) (by decide)) (fun v3064 ev3064 av3064 bv3064 => ?_)
        refine WQ_ishl1 dX11_rests_25 hv3063 (by omega) (by omega) (fun v3065 av3065 bv3065 => ?_)
        refine WQ_icmp_ge 146 dX11_rests_26 rfl (fun c3065 => ?_) (fun c3065 => ?_)
        · refine WP_iload dX11_rests_146 rfl ?_
          exact WP_iret dX11_rests_148 rfl ⟨⟨hI3058, rfl⟩, _, rfl⟩
        · refine WQ_iconst (1) (1) dX11_rests_29 rfl rfl (fun v3067 hv3067 => ?_)
          refine WP_istore (ls' := [(0, _), (1, _), (2, _), (3, _), (4, _), (5, _), (6, _)]) dX11_rests_30 (by decide) rfl ?_
          refine WQ_iconst (0) (0) dX11_rests_32 rfl rfl (fun v3068 hv3068 => ?_)
          refine WP_istore (ls' := [(0, _), (1, _), (2, _), (3, _), (4, _), (5, _), (6, _), (7, _)]) dX11_rests_33 (by decide) rfl ?_
          have lp35_3072 : ∀ (mz : Nat) (i3069 : Int32) (i3070 : Int32) (I3071 : pI) (J3072 : pJ), MP g n L I3071 → 0 ≤ i3069.toInt → i3069.toInt ≤ 1 → 0 ≤ i3070.toInt → i3070.toInt ≤ 4 → (5 - i3070.toInt).toNat < mz → WP g mX11_rests 35 [(0, .ref (ad g 0)), (1, .int a), (2, .int b), (3, .int c), (4, .int i3056), (5, .int i3057), (6, .int i3069), (7, .int i3070)] [] I3071 J3072 R (fun r I' J' R' => (MP g n L I' ∧ R' = R) ∧ ∃ v : Int32, r = some (.int v)) := by
            intro mz
            induction mz with
            | zero =>
              intro i3069 i3070 I3071 J3072 hI3071 ai3069 bi3069 ai3070 bi3070 hmlp35_3072
              exact absurd hmlp35_3072 (Nat.not_lt_zero _)
            | succ mz ihlp35_3072 =>
              intro i3069 i3070 I3071 J3072 hI3071 ai3069 bi3069 ai3070 bi3070 hmlp35_3072
              have e3074 : I3071 (ad g 0) 1 = L := hI3071.1.2
              have b3075 := BT_get hI3071.1.1 0 1 2 (0) (0) (900) (by decide) 1 (by decide) (by decide)
              rw [e3074] at b3075
              refine WP_iload dX11_rests_35 rfl ?_
              refine WP_aload_n dX11_rests_37 rfl ?_
              refine WQ_geti dX11_rests_38 fX11_329 rfl (ly_is hy 0 11 rfl) (BT_get hI3071.1.1 0 10 11 (0) (0) (4) (by decide) 10 (by decide) (by decide)) (fun v3076 ev3076 av3076 bv3076 => ?_)
              refine WQ_icmp_ge 122 dX11_rests_41 rfl (fun c3076 => ?_) (fun c3076 => ?_)
              · refine WP_iload dX11_rests_122 rfl ?_
                refine WP_iload dX11_rests_124 rfl ?_
                have jn137_3081 : ∀ (v3081 : Int32), WP g mX11_rests 137 [(0, .ref (ad g 0)), (1, .int a), (2, .int b), (3, .int c), (4, .int i3056), (5, .int i3057), (6, .int i3069), (7, .int i3070)] [.int v3081, .int i3056] I3071 J3072 R (fun r I' J' R' => (MP g n L I' ∧ R' = R) ∧ ∃ v : Int32, r = some (.int v)) := by
                  intro v3081 
                  refine WQ_ioru dX11_rests_137 (fun v3083 => ?_)
                  refine WP_istore (ls' := [(0, _), (1, _), (2, _), (3, _), (4, _), (5, _), (6, _), (7, _)]) dX11_rests_138 (by decide) rfl ?_
                  refine WP_iinc (ls' := [(0, _), (1, _), (2, _), (3, _), (4, _), (5, _), (6, _), (7, _)]) dX11_rests_140 rfl (by decide) rfl ?_
                  have hv3084 : (i3057 + Int32.ofInt (1)).toInt = i3057.toInt + (1) := ia_n rfl (by omega) (by omega)
                  generalize i3057 + Int32.ofInt (1) = v3084 at hv3084 ⊢
                  refine WP_goto 18 dX11_rests_143 rfl ?_
                  exact WP_sub (fc rfl (fc rfl (fc rfl (fc rfl (fc rfl (fc rfl fn)))))) (ihlp18_3059 v3083 v3084 I3071 J3072 hI3071 (by omega) (by omega) (by omega))
                refine WQ_if_eq 136 dX11_rests_126 rfl (fun c3084 => ?_) (fun c3084 => ?_)
                · refine WQ_iconst (0) (0) dX11_rests_136 rfl rfl (fun v3086 hv3086 => ?_)
                  exact WP_sub (fc rfl (fc rfl (fc rfl (fc rfl (fc rfl (fc rfl (fc rfl (fc rfl fn)))))))) (jn137_3081 v3086)
                · refine WQ_iconst (1) (1) dX11_rests_129 rfl rfl (fun v3087 hv3087 => ?_)
                  refine WP_iload dX11_rests_130 rfl ?_
                  refine WQ_ishlu dX11_rests_132 (fun v3088 => ?_)
                  refine WP_goto 137 dX11_rests_133 rfl ?_
                  exact WP_sub (fc rfl (fc rfl (fc rfl (fc rfl (fc rfl (fc rfl (fc rfl (fc rfl fn)))))))) (jn137_3081 v3088)
              · refine WP_iload dX11_rests_44 rfl ?_
                refine WQ_if_eq 122 dX11_rests_46 rfl (fun c3088 => ?_) (fun c3088 => ?_)
                · refine WP_iload dX11_rests_122 rfl ?_
                  refine WP_iload dX11_rests_124 rfl ?_
                  have jn137_3091 : ∀ (v3091 : Int32), 0 ≤ v3091.toInt → v3091.toInt ≤ 0 → WP g mX11_rests 137 [(0, .ref (ad g 0)), (1, .int a), (2, .int b), (3, .int c), (4, .int i3056), (5, .int i3057), (6, .int i3069), (7, .int i3070)] [.int v3091, .int i3056] I3071 J3072 R (fun r I' J' R' => (MP g n L I' ∧ R' = R) ∧ ∃ v : Int32, r = some (.int v)) := by
                    intro v3091 av3091 bv3091
                    refine WQ_ioru dX11_rests_137 (fun v3093 => ?_)
                    refine WP_istore (ls' := [(0, _), (1, _), (2, _), (3, _), (4, _), (5, _), (6, _), (7, _)]) dX11_rests_138 (by decide) rfl ?_
                    refine WP_iinc (ls' := [(0, _), (1, _), (2, _), (3, _), (4, _), (5, _), (6, _), (7, _)]) dX11_rests_140 rfl (by decide) rfl ?_
                    have hv3094 : (i3057 + Int32.ofInt (1)).toInt = i3057.toInt + (1) := ia_n rfl (by omega) (by omega)
                    generalize i3057 + Int32.ofInt (1) = v3094 at hv3094 ⊢
                    refine WP_goto 18 dX11_rests_143 rfl ?_
                    exact WP_sub (fc rfl (fc rfl (fc rfl (fc rfl (fc rfl (fc rfl fn)))))) (ihlp18_3059 v3093 v3094 I3071 J3072 hI3071 (by omega) (by omega) (by omega))
                  refine WQ_if_eq 136 dX11_rests_126 rfl (fun c3094 => ?_) (fun c3094 => False.elim (by omega))
                  refine WQ_iconst (0) (0) dX11_rests_136 rfl rfl (fun v3096 hv3096 => ?_)
                  exact WP_sub (fc rfl (fc rfl (fc rfl (fc rfl (fc rfl (fc rfl (fc rfl (fc rfl fn)))))))) (jn137_3091 v3096 (by omega) (by omega))
                · refine WP_aload_n dX11_rests_49 rfl ?_
                  refine WP_iload dX11_rests_50 rfl ?_
                  refine WP_iload dX11_rests_52 rfl ?_
                  refine WP_iload_n dX11_rests_54 rfl ?_
                  refine WP_iload_n dX11_rests_55 rfl ?_
                  refine WP_iload_n dX11_rests_56 rfl ?_
                  refine WP_callV5 (k := 11) dX11_rests_57 ⟨⟨⟨by decide, by decide⟩, zX11_findMeet⟩, lX11_545, by decide, rfl, vX11_findMeet.1, vX11_findMeet.2⟩ (ly_is hy 0 11 rfl) (sm_findMeet hy hr hI3071 i3070 i3057 a b c (by omega) (by omega)    (by omega) (by omega) (by rw [ev3076]; omega)) (Nat.le_of_ble_eq_true rfl) ?_
                  intro r I3097 J3098 Ra hq
                  obtain ⟨⟨hI3097, ec, pI3097⟩, rfl⟩ := hq
                  rw [ec]
                  clear ec Ra
                  have e3099 : I3097 (ad g 0) 1 = L := hI3097.1.2
                  have b3100 := BT_get hI3097.1.1 0 1 2 (0) (0) (900) (by decide) 1 (by decide) (by decide)
                  rw [e3099] at b3100
                  obtain ⟨w3101, ew3101⟩ : ∃ w : Int32, I3097 (ad g 0) 10 = w := ⟨_, rfl⟩
                  have bw3101 := BT_get hI3097.1.1 0 10 11 (0) (0) (4) (by decide) 10 (by decide) (by decide)
                  rw [ew3101] at bw3101
                  rw [ew3101] at pI3097
                  refine WP_aload_n dX11_rests_60 rfl ?_
                  refine WQ_getl dX11_rests_61 fX11_527 rfl (ly_is hy 0 11 rfl) (fun l3102 el3102 => ?_)
                  refine WP_aload_n dX11_rests_64 rfl ?_
                  refine WQ_getl dX11_rests_65 fX11_530 rfl (ly_is hy 0 11 rfl) (fun l3103 el3103 => ?_)
                  refine WQ_lsub dX11_rests_68 (fun l3104 => ?_)
                  refine WP_ldc2 (1000) dX11_rests_69 klX11_488 ?_
                  obtain ⟨l3105, hl3105, el3105⟩ : ∃ v : Int64, v.toInt = (1000) ∧ ((1000) : Int64) = v := ⟨_, rfl, rfl⟩
                  rw [el3105]; clear el3105
                  refine WP_aload_n dX11_rests_72 rfl ?_
                  refine WP_getr dX11_rests_73 fX11_313 rfl (ly_is hy 0 11 rfl) (rf hr 0 72 47 (by decide)) ?_
                  refine WP_iload dX11_rests_76 rfl ?_
                  refine WQ_ialdu dX11_rests_78 (ly_is hy 47 13 rfl) (ly_n hy 47 4 rfl) (by omega) (by omega) (fun v3106 => ?_)
                  refine WQ_i2l dX11_rests_79 (fun l3107 hl3107 => ?_)
                  refine WQ_lmul dX11_rests_80 (fun l3108 => ?_)
                  refine WQ_lcmpu dX11_rests_81 (fun v3109 => ?_)
                  have jn90_3112 : ∀ (v3112 : Int32), 0 ≤ v3112.toInt → v3112.toInt ≤ 1 → WP g mX11_rests 90 [(0, .ref (ad g 0)), (1, .int a), (2, .int b), (3, .int c), (4, .int i3056), (5, .int i3057), (6, .int i3069), (7, .int i3070)] [.int v3112] I3097 J3098 R (fun r I' J' R' => (MP g n L I' ∧ R' = R) ∧ ∃ v : Int32, r = some (.int v)) := by
                    intro v3112 av3112 bv3112
                    refine WP_iload dX11_rests_90 rfl ?_
                    refine WP_iload dX11_rests_92 rfl ?_
                    refine WQ_ishru dX11_rests_94 (fun v3114 => ?_)
                    refine WQ_iconst (1) (1) dX11_rests_95 rfl rfl (fun v3115 hv3115 => ?_)
                    refine WQ_iandu dX11_rests_96 (fun v3116 => ?_)
                    refine WQ_iconst (1) (1) dX11_rests_97 rfl rfl (fun v3117 hv3117 => ?_)
                    have jn106_3120 : ∀ (v3120 : Int32), 0 ≤ v3120.toInt → v3120.toInt ≤ 1 → WP g mX11_rests 106 [(0, .ref (ad g 0)), (1, .int a), (2, .int b), (3, .int c), (4, .int i3056), (5, .int i3057), (6, .int i3069), (7, .int i3070)] [.int v3120, .int v3112] I3097 J3098 R (fun r I' J' R' => (MP g n L I' ∧ R' = R) ∧ ∃ v : Int32, r = some (.int v)) := by
                      intro v3120 av3120 bv3120
                      have jn114_3124 : ∀ (v3124 : Int32), 0 ≤ v3124.toInt → v3124.toInt ≤ 1 → WP g mX11_rests 114 [(0, .ref (ad g 0)), (1, .int a), (2, .int b), (3, .int c), (4, .int i3056), (5, .int i3057), (6, .int i3069), (7, .int i3070)] [.int v3124] I3097 J3098 R (fun r I' J' R' => (MP g n L I' ∧ R' = R) ∧ ∃ v : Int32, r = some (.int v)) := by
                        intro v3124 av3124 bv3124
                        refine WP_istore (ls' := [(0, _), (1, _), (2, _), (3, _), (4, _), (5, _), (6, _), (7, _)]) dX11_rests_114 (by decide) rfl ?_
                        refine WP_iinc (ls' := [(0, _), (1, _), (2, _), (3, _), (4, _), (5, _), (6, _), (7, _)]) dX11_rests_116 rfl (by decide) rfl ?_
                        have hv3126 : (i3070 + Int32.ofInt (1)).toInt = i3070.toInt + (1) := ia_n rfl (by omega) (by omega)
                        generalize i3070 + Int32.ofInt (1) = v3126 at hv3126 ⊢
                        refine WP_goto 35 dX11_rests_119 rfl ?_
                        exact WP_sub (fc rfl (fc rfl (fc rfl (fc rfl (fc rfl (fc rfl (fc rfl (fc rfl fn)))))))) (ihlp35_3072 v3124 v3126 I3097 J3098 hI3097 (by omega) (by omega) (by omega) (by omega) (by omega))
                      refine WQ_icmp_ne 113 dX11_rests_106 rfl (fun c3126 => ?_) (fun c3126 => ?_)
                      · refine WQ_iconst (0) (0) dX11_rests_113 rfl rfl (fun v3128 hv3128 => ?_)
                        exact WP_sub (fc rfl (fc rfl (fc rfl (fc rfl (fc rfl (fc rfl (fc rfl (fc rfl fn)))))))) (jn114_3124 v3128 (by omega) (by omega))
                      · refine WQ_iconst (1) (1) dX11_rests_109 rfl rfl (fun v3129 hv3129 => ?_)
                        refine WP_goto 114 dX11_rests_110 rfl ?_
                        exact WP_sub (fc rfl (fc rfl (fc rfl (fc rfl (fc rfl (fc rfl (fc rfl (fc rfl fn)))))))) (jn114_3124 v3129 (by omega) (by omega))
                    refine WQ_icmp_ne 105 dX11_rests_98 rfl (fun c3129 => ?_) (fun c3129 => ?_)
                    · refine WQ_iconst (0) (0) dX11_rests_105 rfl rfl (fun v3131 hv3131 => ?_)
                      exact WP_sub (fc rfl (fc rfl (fc rfl (fc rfl (fc rfl (fc rfl (fc rfl (fc rfl fn)))))))) (jn106_3120 v3131 (by omega) (by omega))
                    · refine WQ_iconst (1) (1) dX11_rests_101 rfl rfl (fun v3132 hv3132 => ?_)
                      refine WP_goto 106 dX11_rests_102 rfl ?_
                      exact WP_sub (fc rfl (fc rfl (fc rfl (fc rfl (fc rfl (fc rfl (fc rfl (fc rfl fn)))))))) (jn106_3120 v3132 (by omega) (by omega))
                  refine WQ_if_lt 89 dX11_rests_82 rfl (fun c3132 => ?_) (fun c3132 => ?_)
                  · refine WQ_iconst (0) (0) dX11_rests_89 rfl rfl (fun v3134 hv3134 => ?_)
                    exact WP_sub (fc rfl (fc rfl (fc rfl (fc rfl (fc rfl (fc rfl (fc rfl (fc rfl fn)))))))) (jn90_3112 v3134 (by omega) (by omega))
                  · refine WQ_iconst (1) (1) dX11_rests_85 rfl rfl (fun v3135 hv3135 => ?_)
                    refine WP_goto 90 dX11_rests_86 rfl ?_
                    exact WP_sub (fc rfl (fc rfl (fc rfl (fc rfl (fc rfl (fc rfl (fc rfl (fc rfl fn)))))))) (jn90_3112 v3135 (by omega) (by omega))
          exact WP_sub (fc rfl (fc rfl (fc rfl (fc rfl (fc rfl (fc rfl (fc rfl (fc rfl fn)))))))) (lp35_3072 _ v3067 v3068 I3058 J3059 hI3058 (by omega) (by omega) (by omega) (by omega) (Nat.lt_succ_self _))
    exact WP_sub (fc rfl (fc rfl (fc rfl (fc rfl (fc rfl (fc rfl fn)))))) (lp18_3059 _ v3054 v3055 I J hI (by omega) (by omega) (Nat.lt_succ_self _))
  · refine WQ_bipush (-2) (-2) dX11_rests_9 rfl rfl (fun v3136 hv3136 => ?_)
    exact WP_iret dX11_rests_11 rfl ⟨⟨hI, rfl⟩, _, rfl⟩
set_option maxHeartbeats 4000000 in
set_option maxRecDepth 100000 in
theorem sm_follow {g : GG} {n : Int} {L : Int32} (hy : Ly g)  {I : pI} {J : pJ} {R : pR} (hr : Rf g R) (hI : MP g n L I) (k : Int32) (a : Int32) (b : Int32) (r : Int32) (k_lo : 0 ≤ k.toInt) (k_hi : k.toInt ≤ 20) (a_lo : 0 ≤ a.toInt) (a_hi : a.toInt ≤ 9) (b_lo : 0 ≤ b.toInt) (b_hi : b.toInt ≤ 9) (r_lo : 1 ≤ r.toInt) (r_hi : r.toInt ≤ 20) : SP g mX11_follow [.ref (ad g 0), .int k, .int a, .int b, .int r] I J R (fun r I' J' R' => (I' = I ∧ J' = J ∧ R' = R) ∧ ∃ v : Int32, r = some (.int v)) := by
  refine SP_of ⟨by decide, rfl⟩ (Nat.le_of_ble_eq_true rfl) ?_
  have e3137 : I (ad g 0) 1 = L := hI.1.2
  have b3138 := BT_get hI.1.1 0 1 2 (0) (0) (900) (by decide) 1 (by decide) (by decide)
  rw [e3137] at b3138
  refine WP_aload_n dX11_follow_0 rfl ?_
  refine WP_getr dX11_follow_1 fX11_307 rfl (ly_is hy 0 11 rfl) (rf hr 0 69 45 (by decide)) ?_
  refine WQ_bipush (100) (100) dX11_follow_4 rfl rfl (fun v3139 hv3139 => ?_)
  refine WP_iload_n dX11_follow_6 rfl ?_
  refine WQ_imulK (100) dX11_follow_7 hv3139 (by omega) (by omega) (fun v3140 hv3140 => ?_)
  refine WQ_bipush (10) (10) dX11_follow_8 rfl rfl (fun v3141 hv3141 => ?_)
  refine WP_iload_n dX11_follow_10 rfl ?_
  have jn30_3147 : ∀ (v3147 : Int32), 0 ≤ v3147.toInt → v3147.toInt ≤ 9 → WP g mX11_follow 30 [(0, .ref (ad g 0)), (1, .int k), (2, .int a), (3, .int b), (4, .int r)] [.int v3147, .int v3141, .int v3140, .ref (ad g 45)] I J R (fun r I' J' R' => (I' = I ∧ J' = J ∧ R' = R) ∧ ∃ v : Int32, r = some (.int v)) := by
    intro v3147 av3147 bv3147
    refine WQ_imulK (10) dX11_follow_30 hv3141 (by omega) (by omega) (fun v3149 hv3149 => ?_)
    refine WQ_iadd dX11_follow_31 (by omega) (by omega) (fun v3150 hv3150 => ?_)
    refine WP_iload_n dX11_follow_32 rfl ?_
    refine WQ_iadd dX11_follow_33 (by omega) (by omega) (fun v3151 hv3151 => ?_)
    refine WQ_ialdu dX11_follow_34 (ly_is hy 45 13 rfl) (ly_n hy 45 2100 rfl) (by omega) (by omega) (fun v3152 => ?_)
    exact WP_iret dX11_follow_35 rfl ⟨⟨rfl, rfl, rfl⟩, _, rfl⟩
  refine WQ_if_le 29 dX11_follow_11 rfl (fun c3152 => ?_) (fun c3152 => ?_)
  · refine WP_iload_n dX11_follow_29 rfl ?_
    exact WP_sub (fc rfl (fc rfl (fc rfl (fc rfl (fc rfl fn))))) (jn30_3147 a (by omega) (by omega))
  · refine WP_iload_n dX11_follow_14 rfl ?_
    refine WQ_iconst (1) (1) dX11_follow_15 rfl rfl (fun v3154 hv3154 => ?_)
    refine WQ_iadd dX11_follow_16 (by omega) (by omega) (fun v3155 hv3155 => ?_)
    refine WP_iload dX11_follow_17 rfl ?_
    refine WQ_iremu dX11_follow_19 (by omega) (fun v3156 => ?_)
    refine WX_if_ne 29 dX11_follow_20 rfl ?_ ?_
    · refine WP_iload_n dX11_follow_29 rfl ?_
      exact WP_sub (fc rfl (fc rfl (fc rfl (fc rfl (fc rfl fn))))) (jn30_3147 a (by omega) (by omega))
    · refine WP_iload_n dX11_follow_23 rfl ?_
      refine WQ_iconst (1) (1) dX11_follow_24 rfl rfl (fun v3157 hv3157 => ?_)
      refine WQ_isub dX11_follow_25 (by omega) (by omega) (fun v3158 hv3158 => ?_)
      refine WP_goto 30 dX11_follow_26 rfl ?_
      exact WP_sub (fc rfl (fc rfl (fc rfl (fc rfl (fc rfl fn))))) (jn30_3147 v3158 (by omega) (by omega))
set_option maxHeartbeats 4000000 in
set_option maxRecDepth 100000 in
theorem sm_offer {g : GG} {n : Int} {L : Int32} (hy : Ly g)  {I : pI} {J : pJ} {R : pR} (hr : Rf g R) (hI : MP g n L I) (k : Int32) (a : Int32) (b : Int32) (p : Int32) (q : Int32) (r : Int32) (k_lo : 1 ≤ k.toInt) (k_hi : k.toInt ≤ 20) (a_lo : 0 ≤ a.toInt) (a_hi : a.toInt ≤ 9) (b_lo : 0 ≤ b.toInt) (b_hi : b.toInt ≤ 9) (r_lo : 1 ≤ r.toInt) (r_hi : r.toInt ≤ 20) : SP g mX11_offer [.ref (ad g 0), .int k, .int a, .int b, .int p, .int q, .int r] I J R (fun r I' J' R' => (MP g n L I' ∧ R' = R) ∧ ∃ v : Int32, r = some (.int v)) := by
  refine SP_of ⟨by decide, rfl⟩ (Nat.le_of_ble_eq_true rfl) ?_
  have e3159 : I (ad g 0) 1 = L := hI.1.2
  have b3160 := BT_get hI.1.1 0 1 2 (0) (0) (900) (by decide) 1 (by decide) (by decide)
  rw [e3159] at b3160
  refine WP_aload_n dX11_offer_0 rfl ?_
  refine WP_iload_n dX11_offer_1 rfl ?_
  refine WQ_iconst (1) (1) dX11_offer_2 rfl rfl (fun v3161 hv3161 => ?_)
  refine WQ_isub dX11_offer_3 (by omega) (by omega) (fun v3162 hv3162 => ?_)
  refine WP_iload_n dX11_offer_4 rfl ?_
  refine WP_iload_n dX11_offer_5 rfl ?_
  refine WP_iload dX11_offer_6 rfl ?_
  refine WP_callV4 (k := 11) dX11_offer_8 ⟨⟨⟨by decide, by decide⟩, zX11_follow⟩, lX11_508, by decide, rfl, vX11_follow.1, vX11_follow.2⟩ (ly_is hy 0 11 rfl) (sm_follow hy hr hI v3162 a b r (by omega) (by omega) (by omega) (by omega) (by omega) (by omega) (by omega) (by omega)) (Nat.le_of_ble_eq_true rfl) ?_
  intro r Ia Ja Ra hq
  obtain ⟨⟨ea, eb, ec⟩, v3163, rfl⟩ := hq
  show WP _ _ _ _ (.int _ :: _) _ _ _ _
  rw [ea, eb, ec]
  clear ea eb ec Ia Ja Ra
  refine WP_istore (ls' := [(0, _), (1, _), (2, _), (3, _), (4, _), (5, _), (6, _), (7, _)]) dX11_offer_11 (by decide) rfl ?_
  refine WP_iload_n dX11_offer_13 rfl ?_
  have jn53_3179 : ∀ (v3179 : Int32), WP g mX11_offer 53 [(0, .ref (ad g 0)), (1, .int k), (2, .int a), (3, .int b), (4, .int p), (5, .int q), (6, .int r), (7, .int v3163)] [.int v3179] I J R (fun r I' J' R' => (MP g n L I' ∧ R' = R) ∧ ∃ v : Int32, r = some (.int v)) := by
    intro v3179 
    refine WP_istore (ls' := [(0, _), (1, _), (2, _), (3, _), (4, _), (5, _), (6, _), (7, _), (8, _)]) dX11_offer_53 (by decide) rfl ?_
    refine WP_iload_n dX11_offer_55 rfl ?_
    have jn95_3196 : ∀ (v3196 : Int32), WP g mX11_offer 95 [(0, .ref (ad g 0)), (1, .int k), (2, .int a), (3, .int b), (4, .int p), (5, .int q), (6, .int r), (7, .int v3163), (8, .int v3179)] [.int v3196] I J R (fun r I' J' R' => (MP g n L I' ∧ R' = R) ∧ ∃ v : Int32, r = some (.int v)) := by
      intro v3196 
      refine WP_istore (ls' := [(0, _), (1, _), (2, _), (3, _), (4, _), (5, _), (6, _), (7, _), (8, _), (9, _)]) dX11_offer_95 (by decide) rfl ?_
      refine WP_aload_n dX11_offer_97 rfl ?_
      refine WP_iload dX11_offer_98 rfl ?_
      refine WP_iload dX11_offer_100 rfl ?_
      have jn110_3200 : ∀ (v3200 : Int32), 0 ≤ v3200.toInt → v3200.toInt ≤ 1 → WP g mX11_offer 110 [(0, .ref (ad g 0)), (1, .int k), (2, .int a), (3, .int b), (4, .int p), (5, .int q), (6, .int r), (7, .int v3163), (8, .int v3179), (9, .int v3196)] [.int v3200, .ref (ad g 0)] I J R (fun r I' J' R' => (MP g n L I' ∧ R' = R) ∧ ∃ v : Int32, r = some (.int v)) := by
        intro v3200 av3200 bv3200
        refine WQ_putz dX11_offer_110 fX11_512 rfl rfl (by omega) (ly_is hy 0 11 rfl) (fun I3202 eI3202 => ?_)
        have hI3202 : MP g n L I3202 := by rw [eI3202]; exact (mp_w hy hI (c := 0) (mi_f hy hI.1 (c := 0) (0) (0) (1) (by decide) (Or.inr (by decide)) (by decide) (by omega) (by omega)) (by decide) (by decide) (Or.inr (by decide)))
        have e3203 : I3202 (ad g 0) 1 = L := by rw [eI3202, pp_ne _ _ (Or.inr (by decide))]; exact e3159
        have e3204 : I3202 (ad g 0) 70 = v3200 := by rw [eI3202, pp_self]
        clear eI3202
        refine WQ_iconst (0) (0) dX11_offer_113 rfl rfl (fun v3205 hv3205 => ?_)
        refine WP_iload dX11_offer_114 rfl ?_
        refine WP_iload dX11_offer_116 rfl ?_
        refine WQ_max dX11_offer_118 lX11_387 ⟨by decide, Nat.le_of_ble_eq_true rfl⟩ (fun v3206 av3206 bv3206 cv3206 => ?_)
        refine WQ_max dX11_offer_121 lX11_387 ⟨by decide, Nat.le_of_ble_eq_true rfl⟩ (fun v3207 av3207 bv3207 cv3207 => ?_)
        exact WP_iret dX11_offer_124 rfl ⟨⟨hI3202, rfl⟩, _, rfl⟩
      refine WX_icmp_lt 109 dX11_offer_102 rfl ?_ ?_
      · refine WQ_iconst (0) (0) dX11_offer_109 rfl rfl (fun v3208 hv3208 => ?_)
        exact WP_sub (fc rfl (fc rfl (fc rfl (fc rfl (fc rfl (fc rfl (fc rfl (fc rfl (fc rfl (fc rfl fn)))))))))) (jn110_3200 v3208 (by omega) (by omega))
      · refine WQ_iconst (1) (1) dX11_offer_105 rfl rfl (fun v3209 hv3209 => ?_)
        refine WP_goto 110 dX11_offer_106 rfl ?_
        exact WP_sub (fc rfl (fc rfl (fc rfl (fc rfl (fc rfl (fc rfl (fc rfl (fc rfl (fc rfl (fc rfl fn)))))))))) (jn110_3200 v3209 (by omega) (by omega))
    refine WQ_if_ne 63 dX11_offer_56 rfl (fun c3209 => ?_) (fun c3209 => ?_)
    · refine WP_iload dX11_offer_63 rfl ?_
      refine WQ_sipush (1000) (1000) dX11_offer_65 rfl rfl (fun v3211 hv3211 => ?_)
      refine WP_aload_n dX11_offer_68 rfl ?_
      refine WP_iload_n dX11_offer_69 rfl ?_
      refine WQ_iconst (1) (1) dX11_offer_70 rfl rfl (fun v3212 hv3212 => ?_)
      refine WQ_isub dX11_offer_71 (by omega) (by omega) (fun v3213 hv3213 => ?_)
      refine WP_iload_n dX11_offer_72 rfl ?_
      refine WP_iload_n dX11_offer_73 rfl ?_
      refine WQ_iconst (1) (1) dX11_offer_74 rfl rfl (fun v3214 hv3214 => ?_)
      refine WQ_isub dX11_offer_75 (by omega) (by omega) (fun v3215 hv3215 => ?_)
      refine WP_iload dX11_offer_76 rfl ?_
      refine WP_callV4 (k := 11) dX11_offer_78 ⟨⟨⟨by decide, by decide⟩, zX11_follow⟩, lX11_508, by decide, rfl, vX11_follow.1, vX11_follow.2⟩ (ly_is hy 0 11 rfl) (sm_follow hy hr hI v3213 a v3215 r (by omega) (by omega) (by omega) (by omega) (by omega) (by omega) (by omega) (by omega)) (Nat.le_of_ble_eq_true rfl) ?_
      intro r Ia Ja Ra hq
      obtain ⟨⟨ea, eb, ec⟩, v3216, rfl⟩ := hq
      show WP _ _ _ _ (.int _ :: _) _ _ _ _
      rw [ea, eb, ec]
      clear ea eb ec Ia Ja Ra
      refine WQ_iaddu dX11_offer_81 (fun v3217 => ?_)
      refine WQ_imulu dX11_offer_82 (fun v3218 => ?_)
      refine WQ_bipush (100) (100) dX11_offer_83 rfl rfl (fun v3219 hv3219 => ?_)
      refine WP_iload dX11_offer_85 rfl ?_
      refine WQ_isubu dX11_offer_87 (fun v3220 => ?_)
      refine WP_iload dX11_offer_88 rfl ?_
      refine WQ_imulu dX11_offer_90 (fun v3221 => ?_)
      refine WQ_iaddu dX11_offer_91 (fun v3222 => ?_)
      refine WQ_bipush (100) (100) dX11_offer_92 rfl rfl (fun v3223 hv3223 => ?_)
      refine WQ_idivu dX11_offer_94 (by omega) (fun v3224 => ?_)
      exact WP_sub (fc rfl (fc rfl (fc rfl (fc rfl (fc rfl (fc rfl (fc rfl (fc rfl (fc rfl fn))))))))) (jn95_3196 v3224)
    · refine WQ_iconst (-1) (-1) dX11_offer_59 rfl rfl (fun v3225 hv3225 => ?_)
      refine WP_goto 95 dX11_offer_60 rfl ?_
      exact WP_sub (fc rfl (fc rfl (fc rfl (fc rfl (fc rfl (fc rfl (fc rfl (fc rfl (fc rfl fn))))))))) (jn95_3196 v3225)
  refine WQ_if_ne 21 dX11_offer_14 rfl (fun c3225 => ?_) (fun c3225 => ?_)
  · refine WP_iload dX11_offer_21 rfl ?_
    refine WQ_sipush (1000) (1000) dX11_offer_23 rfl rfl (fun v3227 hv3227 => ?_)
    refine WP_aload_n dX11_offer_26 rfl ?_
    refine WP_iload_n dX11_offer_27 rfl ?_
    refine WQ_iconst (1) (1) dX11_offer_28 rfl rfl (fun v3228 hv3228 => ?_)
    refine WQ_isub dX11_offer_29 (by omega) (by omega) (fun v3229 hv3229 => ?_)
    refine WP_iload_n dX11_offer_30 rfl ?_
    refine WQ_iconst (1) (1) dX11_offer_31 rfl rfl (fun v3230 hv3230 => ?_)
    refine WQ_isub dX11_offer_32 (by omega) (by omega) (fun v3231 hv3231 => ?_)
    refine WP_iload_n dX11_offer_33 rfl ?_
    refine WP_iload dX11_offer_34 rfl ?_
    refine WP_callV4 (k := 11) dX11_offer_36 ⟨⟨⟨by decide, by decide⟩, zX11_follow⟩, lX11_508, by decide, rfl, vX11_follow.1, vX11_follow.2⟩ (ly_is hy 0 11 rfl) (sm_follow hy hr hI v3229 v3231 b r (by omega) (by omega) (by omega) (by omega) (by omega) (by omega) (by omega) (by omega)) (Nat.le_of_ble_eq_true rfl) ?_
    intro r Ia Ja Ra hq
    obtain ⟨⟨ea, eb, ec⟩, v3232, rfl⟩ := hq
    show WP _ _ _ _ (.int _ :: _) _ _ _ _
    rw [ea, eb, ec]
    clear ea eb ec Ia Ja Ra
    refine WQ_iaddu dX11_offer_39 (fun v3233 => ?_)
    refine WQ_imulu dX11_offer_40 (fun v3234 => ?_)
    refine WQ_bipush (100) (100) dX11_offer_41 rfl rfl (fun v3235 hv3235 => ?_)
    refine WP_iload dX11_offer_43 rfl ?_
    refine WQ_isubu dX11_offer_45 (fun v3236 => ?_)
    refine WP_iload dX11_offer_46 rfl ?_
    refine WQ_imulu dX11_offer_48 (fun v3237 => ?_)
    refine WQ_iaddu dX11_offer_49 (fun v3238 => ?_)
    refine WQ_bipush (100) (100) dX11_offer_50 rfl rfl (fun v3239 hv3239 => ?_)
    refine WQ_idivu dX11_offer_52 (by omega) (fun v3240 => ?_)
    exact WP_sub (fc rfl (fc rfl (fc rfl (fc rfl (fc rfl (fc rfl (fc rfl (fc rfl fn)))))))) (jn53_3179 v3240)
  · refine WQ_iconst (-1) (-1) dX11_offer_17 rfl rfl (fun v3241 hv3241 => ?_)
    refine WP_goto 53 dX11_offer_18 rfl ?_
    exact WP_sub (fc rfl (fc rfl (fc rfl (fc rfl (fc rfl (fc rfl (fc rfl (fc rfl fn)))))))) (jn53_3179 v3241)
set_option maxHeartbeats 4000000 in
set_option maxRecDepth 100000 in
theorem sm_two {g : GG} {n : Int} {L : Int32} (hy : Ly g)  {I : pI} {J : pJ} {R : pR} (hr : Rf g R) (hI : MP g n L I) (a : Int32) (b : Int32) (p : Int32) (q : Int32) (k : Int32) (r : Int32) (wh : Int32)  : SP g mX11_two [.ref (ad g 0), .int a, .int b, .int p, .int q, .int k, .int r, .int wh] I J R (fun r I' J' R' => (MP g n L I' ∧ R' = R) ∧ ∃ v : Int32, r = some (.int v)) := by
  refine SP_of ⟨by decide, rfl⟩ (Nat.le_of_ble_eq_true rfl) ?_
  have e3242 : I (ad g 0) 1 = L := hI.1.2
  have b3243 := BT_get hI.1.1 0 1 2 (0) (0) (900) (by decide) 1 (by decide) (by decide)
  rw [e3242] at b3243
  refine WP_iload_n dX11_two_0 rfl ?_
  refine WQ_i2l dX11_two_1 (fun l3244 hl3244 => ?_)
  refine WP_lconst (0) dX11_two_2 rfl ?_
  obtain ⟨l3245, hl3245, el3245⟩ : ∃ v : Int64, v.toInt = 0 ∧ (0 : Int64) = v := ⟨_, rfl, rfl⟩
  rw [el3245]; clear el3245
  refine WP_ldc2 (9) dX11_two_3 klX11_515 ?_
  obtain ⟨l3246, hl3246, el3246⟩ : ∃ v : Int64, v.toInt = (9) ∧ ((9) : Int64) = v := ⟨_, rfl, rfl⟩
  rw [el3246]; clear el3246
  refine WP_callS3 dX11_two_6 ⟨⟨⟨by decide, by decide⟩, zX11_in⟩, lX11_52, tX11_in⟩ (sm_in hy hr hI l3244 l3245 l3246 ) (Nat.le_of_ble_eq_true rfl) ?_
  intro r Ia Ja Ra hq
  obtain ⟨⟨ea, eb, ec⟩, v3247, rfl, av3247, bv3247, cv3247⟩ := hq
  show WP _ _ _ _ (.int _ :: _) _ _ _ _
  rw [ea, eb, ec]
  clear ea eb ec Ia Ja Ra
  refine WQ_if_eq 86 dX11_two_9 rfl (fun c3247 => ?_) (fun c3247 => ?_)
  · refine WQ_bipush (-2) (-2) dX11_two_86 rfl rfl (fun v3249 hv3249 => ?_)
    exact WP_iret dX11_two_88 rfl ⟨⟨hI, rfl⟩, _, rfl⟩
  · refine WP_iload_n dX11_two_12 rfl ?_
    refine WQ_i2l dX11_two_13 (fun l3250 hl3250 => ?_)
    refine WP_lconst (0) dX11_two_14 rfl ?_
    obtain ⟨l3251, hl3251, el3251⟩ : ∃ v : Int64, v.toInt = 0 ∧ (0 : Int64) = v := ⟨_, rfl, rfl⟩
    rw [el3251]; clear el3251
    refine WP_ldc2 (9) dX11_two_15 klX11_515 ?_
    obtain ⟨l3252, hl3252, el3252⟩ : ∃ v : Int64, v.toInt = (9) ∧ ((9) : Int64) = v := ⟨_, rfl, rfl⟩
    rw [el3252]; clear el3252
    refine WP_callS3 dX11_two_18 ⟨⟨⟨by decide, by decide⟩, zX11_in⟩, lX11_52, tX11_in⟩ (sm_in hy hr hI l3250 l3251 l3252 ) (Nat.le_of_ble_eq_true rfl) ?_
    intro r Ia Ja Ra hq
    obtain ⟨⟨ea, eb, ec⟩, v3253, rfl, av3253, bv3253, cv3253⟩ := hq
    show WP _ _ _ _ (.int _ :: _) _ _ _ _
    rw [ea, eb, ec]
    clear ea eb ec Ia Ja Ra
    refine WQ_if_eq 86 dX11_two_21 rfl (fun c3253 => ?_) (fun c3253 => ?_)
    · refine WQ_bipush (-2) (-2) dX11_two_86 rfl rfl (fun v3255 hv3255 => ?_)
      exact WP_iret dX11_two_88 rfl ⟨⟨hI, rfl⟩, _, rfl⟩
    · refine WP_iload_n dX11_two_24 rfl ?_
      refine WQ_i2l dX11_two_25 (fun l3256 hl3256 => ?_)
      refine WP_lconst (0) dX11_two_26 rfl ?_
      obtain ⟨l3257, hl3257, el3257⟩ : ∃ v : Int64, v.toInt = 0 ∧ (0 : Int64) = v := ⟨_, rfl, rfl⟩
      rw [el3257]; clear el3257
      refine WP_ldc2 (100) dX11_two_27 klX11_517 ?_
      obtain ⟨l3258, hl3258, el3258⟩ : ∃ v : Int64, v.toInt = (100) ∧ ((100) : Int64) = v := ⟨_, rfl, rfl⟩
      rw [el3258]; clear el3258
      refine WP_callS3 dX11_two_30 ⟨⟨⟨by decide, by decide⟩, zX11_in⟩, lX11_52, tX11_in⟩ (sm_in hy hr hI l3256 l3257 l3258 ) (Nat.le_of_ble_eq_true rfl) ?_
      intro r Ia Ja Ra hq
      obtain ⟨⟨ea, eb, ec⟩, v3259, rfl, av3259, bv3259, cv3259⟩ := hq
      show WP _ _ _ _ (.int _ :: _) _ _ _ _
      rw [ea, eb, ec]
      clear ea eb ec Ia Ja Ra
      refine WQ_if_eq 86 dX11_two_33 rfl (fun c3259 => ?_) (fun c3259 => ?_)
      · refine WQ_bipush (-2) (-2) dX11_two_86 rfl rfl (fun v3261 hv3261 => ?_)
        exact WP_iret dX11_two_88 rfl ⟨⟨hI, rfl⟩, _, rfl⟩
      · refine WP_iload dX11_two_36 rfl ?_
        refine WQ_i2l dX11_two_38 (fun l3262 hl3262 => ?_)
        refine WP_lconst (0) dX11_two_39 rfl ?_
        obtain ⟨l3263, hl3263, el3263⟩ : ∃ v : Int64, v.toInt = 0 ∧ (0 : Int64) = v := ⟨_, rfl, rfl⟩
        rw [el3263]; clear el3263
        refine WP_ldc2 (100) dX11_two_40 klX11_517 ?_
        obtain ⟨l3264, hl3264, el3264⟩ : ∃ v : Int64, v.toInt = (100) ∧ ((100) : Int64) = v := ⟨_, rfl, rfl⟩
        rw [el3264]; clear el3264
        refine WP_callS3 dX11_two_43 ⟨⟨⟨by decide, by decide⟩, zX11_in⟩, lX11_52, tX11_in⟩ (sm_in hy hr hI l3262 l3263 l3264 ) (Nat.le_of_ble_eq_true rfl) ?_
        intro r Ia Ja Ra hq
        obtain ⟨⟨ea, eb, ec⟩, v3265, rfl, av3265, bv3265, cv3265⟩ := hq
        show WP _ _ _ _ (.int _ :: _) _ _ _ _
        rw [ea, eb, ec]
        clear ea eb ec Ia Ja Ra
        refine WQ_if_eq 86 dX11_two_46 rfl (fun c3265 => ?_) (fun c3265 => ?_)
        · refine WQ_bipush (-2) (-2) dX11_two_86 rfl rfl (fun v3267 hv3267 => ?_)
          exact WP_iret dX11_two_88 rfl ⟨⟨hI, rfl⟩, _, rfl⟩
        · refine WP_iload dX11_two_49 rfl ?_
          refine WQ_i2l dX11_two_51 (fun l3268 hl3268 => ?_)
          refine WP_lconst (0) dX11_two_52 rfl ?_
          obtain ⟨l3269, hl3269, el3269⟩ : ∃ v : Int64, v.toInt = 0 ∧ (0 : Int64) = v := ⟨_, rfl, rfl⟩
          rw [el3269]; clear el3269
          refine WP_ldc2 (20) dX11_two_53 klX11_357 ?_
          obtain ⟨l3270, hl3270, el3270⟩ : ∃ v : Int64, v.toInt = (20) ∧ ((20) : Int64) = v := ⟨_, rfl, rfl⟩
          rw [el3270]; clear el3270
          refine WP_callS3 dX11_two_56 ⟨⟨⟨by decide, by decide⟩, zX11_in⟩, lX11_52, tX11_in⟩ (sm_in hy hr hI l3268 l3269 l3270 ) (Nat.le_of_ble_eq_true rfl) ?_
          intro r Ia Ja Ra hq
          obtain ⟨⟨ea, eb, ec⟩, v3271, rfl, av3271, bv3271, cv3271⟩ := hq
          show WP _ _ _ _ (.int _ :: _) _ _ _ _
          rw [ea, eb, ec]
          clear ea eb ec Ia Ja Ra
          refine WQ_if_eq 86 dX11_two_59 rfl (fun c3271 => ?_) (fun c3271 => ?_)
          · refine WQ_bipush (-2) (-2) dX11_two_86 rfl rfl (fun v3273 hv3273 => ?_)
            exact WP_iret dX11_two_88 rfl ⟨⟨hI, rfl⟩, _, rfl⟩
          · refine WP_iload dX11_two_62 rfl ?_
            refine WQ_i2l dX11_two_64 (fun l3274 hl3274 => ?_)
            refine WP_lconst (1) dX11_two_65 rfl ?_
            obtain ⟨l3275, hl3275, el3275⟩ : ∃ v : Int64, v.toInt = 1 ∧ (1 : Int64) = v := ⟨_, rfl, rfl⟩
            rw [el3275]; clear el3275
            refine WP_ldc2 (20) dX11_two_66 klX11_357 ?_
            obtain ⟨l3276, hl3276, el3276⟩ : ∃ v : Int64, v.toInt = (20) ∧ ((20) : Int64) = v := ⟨_, rfl, rfl⟩
            rw [el3276]; clear el3276
            refine WP_callS3 dX11_two_69 ⟨⟨⟨by decide, by decide⟩, zX11_in⟩, lX11_52, tX11_in⟩ (sm_in hy hr hI l3274 l3275 l3276 ) (Nat.le_of_ble_eq_true rfl) ?_
            intro r Ia Ja Ra hq
            obtain ⟨⟨ea, eb, ec⟩, v3277, rfl, av3277, bv3277, cv3277⟩ := hq
            show WP _ _ _ _ (.int _ :: _) _ _ _ _
            rw [ea, eb, ec]
            clear ea eb ec Ia Ja Ra
            refine WQ_if_eq 86 dX11_two_72 rfl (fun c3277 => ?_) (fun c3277 => ?_)
            · refine WQ_bipush (-2) (-2) dX11_two_86 rfl rfl (fun v3279 hv3279 => ?_)
              exact WP_iret dX11_two_88 rfl ⟨⟨hI, rfl⟩, _, rfl⟩
            · refine WP_iload dX11_two_75 rfl ?_
              refine WQ_i2l dX11_two_77 (fun l3280 hl3280 => ?_)
              refine WP_lconst (0) dX11_two_78 rfl ?_
              obtain ⟨l3281, hl3281, el3281⟩ : ∃ v : Int64, v.toInt = 0 ∧ (0 : Int64) = v := ⟨_, rfl, rfl⟩
              rw [el3281]; clear el3281
              refine WP_lconst (1) dX11_two_79 rfl ?_
              obtain ⟨l3282, hl3282, el3282⟩ : ∃ v : Int64, v.toInt = 1 ∧ (1 : Int64) = v := ⟨_, rfl, rfl⟩
              rw [el3282]; clear el3282
              refine WP_callS3 dX11_two_80 ⟨⟨⟨by decide, by decide⟩, zX11_in⟩, lX11_52, tX11_in⟩ (sm_in hy hr hI l3280 l3281 l3282 ) (Nat.le_of_ble_eq_true rfl) ?_
              intro r Ia Ja Ra hq
              obtain ⟨⟨ea, eb, ec⟩, v3283, rfl, av3283, bv3283, cv3283⟩ := hq
              show WP _ _ _ _ (.int _ :: _) _ _ _ _
              rw [ea, eb, ec]
              clear ea eb ec Ia Ja Ra
              refine WQ_if_ne 89 dX11_two_83 rfl (fun c3283 => ?_) (fun c3283 => ?_)
              · refine WQ_iconst (0) (0) dX11_two_89 rfl rfl (fun v3285 hv3285 => ?_)
                refine WP_istore (ls' := [(0, _), (1, _), (2, _), (3, _), (4, _), (5, _), (6, _), (7, _), (8, _)]) dX11_two_90 (by decide) rfl ?_
                have lp92_3288 : ∀ (mz : Nat) (i3286 : Int32) (I3287 : pI) (J3288 : pJ), MP g n L I3287 → 0 ≤ i3286.toInt → i3286.toInt ≤ 100 → (101 - i3286.toInt).toNat < mz → WP g mX11_two 92 [(0, .ref (ad g 0)), (1, .int a), (2, .int b), (3, .int p), (4, .int q), (5, .int k), (6, .int r), (7, .int wh), (8, .int i3286)] [] I3287 J3288 R (fun r I' J' R' => (MP g n L I' ∧ R' = R) ∧ ∃ v : Int32, r = some (.int v)) := by
                  intro mz
                  induction mz with
                  | zero =>
                    intro i3286 I3287 J3288 hI3287 ai3286 bi3286 hmlp92_3288
                    exact absurd hmlp92_3288 (Nat.not_lt_zero _)
                  | succ mz ihlp92_3288 =>
                    intro i3286 I3287 J3288 hI3287 ai3286 bi3286 hmlp92_3288
                    have e3290 : I3287 (ad g 0) 1 = L := hI3287.1.2
                    have b3291 := BT_get hI3287.1.1 0 1 2 (0) (0) (900) (by decide) 1 (by decide) (by decide)
                    rw [e3290] at b3291
                    refine WP_iload dX11_two_92 rfl ?_
                    refine WQ_bipush (100) (100) dX11_two_94 rfl rfl (fun v3292 hv3292 => ?_)
                    refine WQ_icmp_ge 113 dX11_two_96 rfl (fun c3292 => ?_) (fun c3292 => ?_)
                    · refine WQ_iconst (1) (1) dX11_two_113 rfl rfl (fun v3294 hv3294 => ?_)
                      refine WP_istore (ls' := [(0, _), (1, _), (2, _), (3, _), (4, _), (5, _), (6, _), (7, _), (8, _)]) dX11_two_114 (by decide) rfl ?_
                      have lp116_3297 : ∀ (mz : Nat) (i3295 : Int32) (I3296 : pI) (J3297 : pJ), MP g n L I3296 → 1 ≤ i3295.toInt → i3295.toInt ≤ 21 → (22 - i3295.toInt).toNat < mz → WP g mX11_two 116 [(0, .ref (ad g 0)), (1, .int a), (2, .int b), (3, .int p), (4, .int q), (5, .int k), (6, .int r), (7, .int wh), (8, .int i3295)] [] I3296 J3297 R (fun r I' J' R' => (MP g n L I' ∧ R' = R) ∧ ∃ v : Int32, r = some (.int v)) := by
                        intro mz
                        induction mz with
                        | zero =>
                          intro i3295 I3296 J3297 hI3296 ai3295 bi3295 hmlp116_3297
                          exact absurd hmlp116_3297 (Nat.not_lt_zero _)
                        | succ mz ihlp116_3297 =>
                          intro i3295 I3296 J3297 hI3296 ai3295 bi3295 hmlp116_3297
                          have e3299 : I3296 (ad g 0) 1 = L := hI3296.1.2
                          have b3300 := BT_get hI3296.1.1 0 1 2 (0) (0) (900) (by decide) 1 (by decide) (by decide)
                          rw [e3299] at b3300
                          refine WP_iload dX11_two_116 rfl ?_
                          refine WP_iload dX11_two_118 rfl ?_
                          refine WQ_icmp_gt 179 dX11_two_120 rfl (fun c3300 => ?_) (fun c3300 => ?_)
                          · refine WP_iload dX11_two_179 rfl ?_
                            refine WQ_if_ne 202 dX11_two_181 rfl (fun c3301 => ?_) (fun c3301 => ?_)
                            · refine WP_iload dX11_two_202 rfl ?_
                              refine WQ_if_eq 213 dX11_two_204 rfl (fun c3302 => ?_) (fun c3302 => ?_)
                              · refine WQ_iconst (-1) (-1) dX11_two_213 rfl rfl (fun v3304 hv3304 => ?_)
                                exact WP_iret dX11_two_214 rfl ⟨⟨hI3296, rfl⟩, _, rfl⟩
                              · refine WP_iload_n dX11_two_207 rfl ?_
                                refine WP_iload_n dX11_two_208 rfl ?_
                                refine WQ_iadd dX11_two_209 (by omega) (by omega) (fun v3305 hv3305 => ?_)
                                refine WQ_if_ne 215 dX11_two_210 rfl (fun c3305 => ?_) (fun c3305 => ?_)
                                · refine WP_aload_n dX11_two_215 rfl ?_
                                  refine WP_iload dX11_two_216 rfl ?_
                                  refine WP_iload_n dX11_two_218 rfl ?_
                                  refine WP_iload_n dX11_two_219 rfl ?_
                                  refine WP_iload_n dX11_two_220 rfl ?_
                                  refine WP_iload dX11_two_221 rfl ?_
                                  refine WP_iload dX11_two_223 rfl ?_
                                  refine WP_callV6 (k := 11) dX11_two_225 ⟨⟨⟨by decide, by decide⟩, zX11_offer⟩, lX11_519, by decide, rfl, vX11_offer.1, vX11_offer.2⟩ (ly_is hy 0 11 rfl) (sm_offer hy hr hI3296 k a b p q r (by omega) (by omega) (by omega) (by omega) (by omega) (by omega)   (by omega) (by omega)) (Nat.le_of_ble_eq_true rfl) ?_
                                  intro r I3307 J3308 Ra hq
                                  obtain ⟨⟨hI3307, ec⟩, v3309, rfl⟩ := hq
                                  show WP _ _ _ _ (.int _ :: _) _ _ _ _
                                  rw [ec]
                                  clear ec Ra
                                  have e3310 : I3307 (ad g 0) 1 = L := hI3307.1.2
                                  have b3311 := BT_get hI3307.1.1 0 1 2 (0) (0) (900) (by decide) 1 (by decide) (by decide)
                                  rw [e3310] at b3311
                                  refine WP_pop dX11_two_228 rfl ?_
                                  refine WP_aload_n dX11_two_229 rfl ?_
                                  refine WQ_geti dX11_two_230 fX11_512 rfl (ly_is hy 0 11 rfl) (BT_get hI3307.1.1 0 70 71 (0) (0) (1) (by decide) 70 (by decide) (by decide)) (fun v3312 ev3312 av3312 bv3312 => ?_)
                                  have jn241_3315 : ∀ (v3315 : Int32), 0 ≤ v3315.toInt → v3315.toInt ≤ 1 → WP g mX11_two 241 [(0, .ref (ad g 0)), (1, .int a), (2, .int b), (3, .int p), (4, .int q), (5, .int k), (6, .int r), (7, .int wh), (8, .int i3295)] [.int v3315] I3307 J3308 R (fun r I' J' R' => (MP g n L I' ∧ R' = R) ∧ ∃ v : Int32, r = some (.int v)) := by
                                    intro v3315 av3315 bv3315
                                    exact WP_iret dX11_two_241 rfl ⟨⟨hI3307, rfl⟩, _, rfl⟩
                                  refine WQ_if_eq 240 dX11_two_233 rfl (fun c3316 => ?_) (fun c3316 => ?_)
                                  · refine WQ_iconst (1) (1) dX11_two_240 rfl rfl (fun v3318 hv3318 => ?_)
                                    exact WP_sub (fc rfl (fc rfl (fc rfl (fc rfl (fc rfl (fc rfl (fc rfl (fc rfl (fc rfl fn))))))))) (jn241_3315 v3318 (by omega) (by omega))
                                  · refine WQ_iconst (0) (0) dX11_two_236 rfl rfl (fun v3319 hv3319 => ?_)
                                    refine WP_goto 241 dX11_two_237 rfl ?_
                                    exact WP_sub (fc rfl (fc rfl (fc rfl (fc rfl (fc rfl (fc rfl (fc rfl (fc rfl (fc rfl fn))))))))) (jn241_3315 v3319 (by omega) (by omega))
                                · refine WQ_iconst (-1) (-1) dX11_two_213 rfl rfl (fun v3320 hv3320 => ?_)
                                  exact WP_iret dX11_two_214 rfl ⟨⟨hI3296, rfl⟩, _, rfl⟩
                            · refine WP_aload_n dX11_two_184 rfl ?_
                              refine WP_getr dX11_two_185 fX11_307 rfl (ly_is hy 0 11 rfl) (rf hr 0 69 45 (by decide)) ?_
                              refine WQ_bipush (100) (100) dX11_two_188 rfl rfl (fun v3321 hv3321 => ?_)
                              refine WP_iload dX11_two_190 rfl ?_
                              refine WQ_imulK (100) dX11_two_192 hv3321 (by omega) (by omega) (fun v3322 hv3322 => ?_)
                              refine WQ_bipush (10) (10) dX11_two_193 rfl rfl (fun v3323 hv3323 => ?_)
                              refine WP_iload_n dX11_two_195 rfl ?_
                              refine WQ_imulK (10) dX11_two_196 hv3323 (by omega) (by omega) (fun v3324 hv3324 => ?_)
                              refine WQ_iadd dX11_two_197 (by omega) (by omega) (fun v3325 hv3325 => ?_)
                              refine WP_iload_n dX11_two_198 rfl ?_
                              refine WQ_iadd dX11_two_199 (by omega) (by omega) (fun v3326 hv3326 => ?_)
                              refine WQ_ialdu dX11_two_200 (ly_is hy 45 13 rfl) (ly_n hy 45 2100 rfl) (by omega) (by omega) (fun v3327 => ?_)
                              exact WP_iret dX11_two_201 rfl ⟨⟨hI3296, rfl⟩, _, rfl⟩
                          · refine WQ_iconst (0) (0) dX11_two_123 rfl rfl (fun v3328 hv3328 => ?_)
                            refine WP_istore (ls' := [(0, _), (1, _), (2, _), (3, _), (4, _), (5, _), (6, _), (7, _), (8, _), (9, _)]) dX11_two_124 (by decide) rfl ?_
                            have lp126_3331 : ∀ (mz : Nat) (i3329 : Int32) (I3330 : pI) (J3331 : pJ), MP g n L I3330 → 0 ≤ i3329.toInt → i3329.toInt ≤ 100 → (101 - i3329.toInt).toNat < mz → WP g mX11_two 126 [(0, .ref (ad g 0)), (1, .int a), (2, .int b), (3, .int p), (4, .int q), (5, .int k), (6, .int r), (7, .int wh), (8, .int i3295), (9, .int i3329)] [] I3330 J3331 R (fun r I' J' R' => (MP g n L I' ∧ R' = R) ∧ ∃ v : Int32, r = some (.int v)) := by
                              intro mz
                              induction mz with
                              | zero =>
                                intro i3329 I3330 J3331 hI3330 ai3329 bi3329 hmlp126_3331
                                exact absurd hmlp126_3331 (Nat.not_lt_zero _)
                              | succ mz ihlp126_3331 =>
                                intro i3329 I3330 J3331 hI3330 ai3329 bi3329 hmlp126_3331
                                have e3333 : I3330 (ad g 0) 1 = L := hI3330.1.2
                                have b3334 := BT_get hI3330.1.1 0 1 2 (0) (0) (900) (by decide) 1 (by decide) (by decide)
                                rw [e3333] at b3334
                                refine WP_iload dX11_two_126 rfl ?_
                                refine WQ_bipush (100) (100) dX11_two_128 rfl rfl (fun v3335 hv3335 => ?_)
                                refine WQ_icmp_ge 173 dX11_two_130 rfl (fun c3335 => ?_) (fun c3335 => ?_)
                                · refine WP_iinc (ls' := [(0, _), (1, _), (2, _), (3, _), (4, _), (5, _), (6, _), (7, _), (8, _), (9, _)]) dX11_two_173 rfl (by decide) rfl ?_
                                  have hv3337 : (i3295 + Int32.ofInt (1)).toInt = i3295.toInt + (1) := ia_n rfl (by omega) (by omega)
                                  generalize i3295 + Int32.ofInt (1) = v3337 at hv3337 ⊢
                                  refine WP_goto 116 dX11_two_176 rfl ?_
                                  exact WP_sub (fc rfl (fc rfl (fc rfl (fc rfl (fc rfl (fc rfl (fc rfl (fc rfl (fc rfl fn))))))))) (ihlp116_3297 v3337 I3330 J3331 hI3330 (by omega) (by omega) (by omega))
                                · refine WP_aload_n dX11_two_133 rfl ?_
                                  refine WP_getr dX11_two_134 fX11_307 rfl (ly_is hy 0 11 rfl) (rf hr 0 69 45 (by decide)) ?_
                                  refine WQ_bipush (100) (100) dX11_two_137 rfl rfl (fun v3338 hv3338 => ?_)
                                  refine WP_iload dX11_two_139 rfl ?_
                                  refine WQ_imulK (100) dX11_two_141 hv3338 (by omega) (by omega) (fun v3339 hv3339 => ?_)
                                  refine WP_iload dX11_two_142 rfl ?_
                                  refine WQ_iadd dX11_two_144 (by omega) (by omega) (fun v3340 hv3340 => ?_)
                                  refine WP_aload_n dX11_two_145 rfl ?_
                                  refine WP_iload dX11_two_146 rfl ?_
                                  refine WP_iload dX11_two_148 rfl ?_
                                  refine WQ_bipush (10) (10) dX11_two_150 rfl rfl (fun v3341 hv3341 => ?_)
                                  refine WQ_idivk (10) dX11_two_152 hv3341 (by decide) (by omega) (fun v3342 hv3342 => ?_)
                                  refine WP_iload dX11_two_153 rfl ?_
                                  refine WQ_bipush (10) (10) dX11_two_155 rfl rfl (fun v3343 hv3343 => ?_)
                                  refine WQ_iremk (10) dX11_two_157 hv3343 (by decide) (by omega) (fun v3344 hv3344 => ?_)
                                  refine WP_iload_n dX11_two_158 rfl ?_
                                  refine WP_iload dX11_two_159 rfl ?_
                                  refine WP_iload dX11_two_161 rfl ?_
                                  refine WP_callV6 (k := 11) dX11_two_163 ⟨⟨⟨by decide, by decide⟩, zX11_offer⟩, lX11_519, by decide, rfl, vX11_offer.1, vX11_offer.2⟩ (ly_is hy 0 11 rfl) (sm_offer hy hr hI3330 i3295 v3342 v3344 p q r (by omega) (by omega) (by omega) (by omega) (by omega) (by omega)   (by omega) (by omega)) (Nat.le_of_ble_eq_true rfl) ?_
                                  intro r I3345 J3346 Ra hq
                                  obtain ⟨⟨hI3345, ec⟩, v3347, rfl⟩ := hq
                                  show WP _ _ _ _ (.int _ :: _) _ _ _ _
                                  rw [ec]
                                  clear ec Ra
                                  have e3348 : I3345 (ad g 0) 1 = L := hI3345.1.2
                                  have b3349 := BT_get hI3345.1.1 0 1 2 (0) (0) (900) (by decide) 1 (by decide) (by decide)
                                  rw [e3348] at b3349
                                  refine WQ_iast dX11_two_166 (ly_is hy 45 13 rfl) (ly_n hy 45 2100 rfl) (by omega) (by omega) (fun I3350 eI3350 => ?_)
                                  have hI3350 : MP g n L I3350 := by rw [eI3350]; exact (mp_w hy hI3345 (c := 45) (mi_r0 hy hI3345.1 (c := 45) (by decide) (Or.inl (by decide)) (by decide)) (by decide) (by decide) (Or.inl (by decide)))
                                  have e3351 : I3350 (ad g 0) 1 = L := by rw [eI3350, pp_ne _ _ (Or.inl (ly_ne hy (by decide) (by decide) (by decide)))]; exact e3348
                                  clear eI3350
                                  refine WP_iinc (ls' := [(0, _), (1, _), (2, _), (3, _), (4, _), (5, _), (6, _), (7, _), (8, _), (9, _)]) dX11_two_167 rfl (by decide) rfl ?_
                                  have hv3352 : (i3329 + Int32.ofInt (1)).toInt = i3329.toInt + (1) := ia_n rfl (by omega) (by omega)
                                  generalize i3329 + Int32.ofInt (1) = v3352 at hv3352 ⊢
                                  refine WP_goto 126 dX11_two_170 rfl ?_
                                  exact WP_sub (fc rfl (fc rfl (fc rfl (fc rfl (fc rfl (fc rfl (fc rfl (fc rfl (fc rfl (fc rfl fn)))))))))) (ihlp126_3331 v3352 I3350 J3346 hI3350 (by omega) (by omega) (by omega))
                            exact WP_sub (fc rfl (fc rfl (fc rfl (fc rfl (fc rfl (fc rfl (fc rfl (fc rfl (fc rfl (fc rfl fn)))))))))) (lp126_3331 _ v3328 I3296 J3297 hI3296 (by omega) (by omega) (Nat.lt_succ_self _))
                      exact WP_sub (fc rfl (fc rfl (fc rfl (fc rfl (fc rfl (fc rfl (fc rfl (fc rfl (fc rfl fn))))))))) (lp116_3297 _ v3294 I3287 J3288 hI3287 (by omega) (by omega) (Nat.lt_succ_self _))
                    · refine WP_aload_n dX11_two_99 rfl ?_
                      refine WP_getr dX11_two_100 fX11_307 rfl (ly_is hy 0 11 rfl) (rf hr 0 69 45 (by decide)) ?_
                      refine WP_iload dX11_two_103 rfl ?_
                      refine WQ_iconst (0) (0) dX11_two_105 rfl rfl (fun v3353 hv3353 => ?_)
                      refine WQ_iast dX11_two_106 (ly_is hy 45 13 rfl) (ly_n hy 45 2100 rfl) (by omega) (by omega) (fun I3354 eI3354 => ?_)
                      have hI3354 : MP g n L I3354 := by rw [eI3354]; exact (mp_w hy hI3287 (c := 45) (mi_r0 hy hI3287.1 (c := 45) (by decide) (Or.inl (by decide)) (by decide)) (by decide) (by decide) (Or.inl (by decide)))
                      have e3355 : I3354 (ad g 0) 1 = L := by rw [eI3354, pp_ne _ _ (Or.inl (ly_ne hy (by decide) (by decide) (by decide)))]; exact e3290
                      clear eI3354
                      refine WP_iinc (ls' := [(0, _), (1, _), (2, _), (3, _), (4, _), (5, _), (6, _), (7, _), (8, _)]) dX11_two_107 rfl (by decide) rfl ?_
                      have hv3356 : (i3286 + Int32.ofInt (1)).toInt = i3286.toInt + (1) := ia_n rfl (by omega) (by omega)
                      generalize i3286 + Int32.ofInt (1) = v3356 at hv3356 ⊢
                      refine WP_goto 92 dX11_two_110 rfl ?_
                      exact WP_sub (fc rfl (fc rfl (fc rfl (fc rfl (fc rfl (fc rfl (fc rfl (fc rfl (fc rfl fn))))))))) (ihlp92_3288 v3356 I3354 J3288 hI3354 (by omega) (by omega) (by omega))
                exact WP_sub (fc rfl (fc rfl (fc rfl (fc rfl (fc rfl (fc rfl (fc rfl (fc rfl (fc rfl fn))))))))) (lp92_3288 _ v3285 I J hI (by omega) (by omega) (Nat.lt_succ_self _))
              · refine WQ_bipush (-2) (-2) dX11_two_86 rfl rfl (fun v3357 hv3357 => ?_)
                exact WP_iret dX11_two_88 rfl ⟨⟨hI, rfl⟩, _, rfl⟩
set_option maxHeartbeats 4000000 in
set_option maxRecDepth 100000 in
theorem sm_canBuy {g : GG} {n : Int} {L : Int32} (hy : Ly g)  {I : pI} {J : pJ} {R : pR} (hr : Rf g R) (hI : MP g n L I) (wi : Int32) (co : Int32) (cs : Int32) (wi_lo : 0 ≤ wi.toInt) (wi_hi : wi.toInt ≤ 3) (co_lo : 0 ≤ co.toInt) (co_hi : co.toInt ≤ 60) (cs_lo : 0 ≤ cs.toInt) (cs_hi : cs.toInt ≤ 20) : SP g mX11_canBuy [.int wi, .int co, .int cs] I J R (fun r I' J' R' => (I' = I ∧ J' = J ∧ R' = R) ∧ ∃ v : Int32, r = some (.int v) ∧ 0 ≤ v.toInt ∧ v.toInt ≤ 3 ∧ v.toInt ≤ wi.toInt) := by
  refine SP_of ⟨by decide, rfl⟩ (Nat.le_of_ble_eq_true rfl) ?_
  have e3358 : I (ad g 0) 1 = L := hI.1.2
  have b3359 := BT_get hI.1.1 0 1 2 (0) (0) (900) (by decide) 1 (by decide) (by decide)
  rw [e3358] at b3359
  refine WP_iload_n dX11_canBuy_0 rfl ?_
  refine WP_iload_n dX11_canBuy_1 rfl ?_
  refine WQ_if_ne 9 dX11_canBuy_2 rfl (fun c3359 => ?_) (fun c3359 => ?_)
  · refine WP_iload_n dX11_canBuy_9 rfl ?_
    refine WP_iload_n dX11_canBuy_10 rfl ?_
    refine WQ_idivb dX11_canBuy_11 (by omega) (by omega) (fun v3361 pv3361 av3361 bv3361 cv3361 => ?_)
    refine WQ_min dX11_canBuy_12 lX11_417 ⟨by decide, Nat.le_of_ble_eq_true rfl⟩ (fun v3362 av3362 bv3362 cv3362 => ?_)
    exact WP_iret dX11_canBuy_15 rfl ⟨⟨rfl, rfl, rfl⟩, _, rfl, by omega, by omega, by omega⟩
  · refine WP_iload_n dX11_canBuy_5 rfl ?_
    refine WP_goto 12 dX11_canBuy_6 rfl ?_
    refine WQ_min dX11_canBuy_12 lX11_417 ⟨by decide, Nat.le_of_ble_eq_true rfl⟩ (fun v3363 av3363 bv3363 cv3363 => ?_)
    exact WP_iret dX11_canBuy_15 rfl ⟨⟨rfl, rfl, rfl⟩, _, rfl, by omega, by omega, by omega⟩
set_option maxHeartbeats 4000000 in
set_option maxRecDepth 100000 in
theorem sm_each {g : GG} {n : Int} {L : Int32} (hy : Ly g)  {I : pI} {J : pJ} {R : pR} (hr : Rf g R) (hI : MP g n L I) (th : Int32) (so : Int32) (th_lo : -1 ≤ th.toInt) (th_hi : th.toInt ≤ 2) (so_lo : 0 ≤ so.toInt) (so_hi : so.toInt ≤ 3) (hb : so.toInt < (I (ad g 0) 10).toInt) : SP g mX11_each [.ref (ad g 0), .int th, .int so] I J R (fun r I' J' R' => (I' = I ∧ J' = J ∧ R' = R) ∧ ∃ v : Int32, r = some (.int v) ∧ 0 ≤ v.toInt ∧ v.toInt ≤ 1000000) := by
  refine SP_of ⟨by decide, rfl⟩ (Nat.le_of_ble_eq_true rfl) ?_
  have e3364 : I (ad g 0) 1 = L := hI.1.2
  have b3365 := BT_get hI.1.1 0 1 2 (0) (0) (900) (by decide) 1 (by decide) (by decide)
  rw [e3364] at b3365
  obtain ⟨w3366, ew3366⟩ : ∃ w : Int32, I (ad g 0) 10 = w := ⟨_, rfl⟩
  have bw3366 := BT_get hI.1.1 0 10 11 (0) (0) (4) (by decide) 10 (by decide) (by decide)
  rw [ew3366] at bw3366
  rw [ew3366] at hb
  refine WP_iload_n dX11_each_0 rfl ?_
  refine WQ_iconst (-1) (-1) dX11_each_1 rfl rfl (fun v3367 hv3367 => ?_)
  have jn36_3376 : ∀ (v3376 : Int32), 0 ≤ v3376.toInt → v3376.toInt ≤ 1000000 → WP g mX11_each 36 [(0, .ref (ad g 0)), (1, .int th), (2, .int so)] [.int v3376] I J R (fun r I' J' R' => (I' = I ∧ J' = J ∧ R' = R) ∧ ∃ v : Int32, r = some (.int v) ∧ 0 ≤ v.toInt ∧ v.toInt ≤ 1000000) := by
    intro v3376 av3376 bv3376
    exact WP_iret dX11_each_36 rfl ⟨⟨rfl, rfl, rfl⟩, _, rfl, by omega, by omega⟩
  refine WQ_icmp_eq 17 dX11_each_2 rfl (fun c3377 => ?_) (fun c3377 => ?_)
  · refine WP_ldcw (1000000) dX11_each_17 kX11_460 ?_
    obtain ⟨v3379, hv3379, ev3379⟩ : ∃ v : Int32, v.toInt = 1000000 ∧ ((1000000) : Int32) = v := ⟨(1000000), rfl, rfl⟩
    rw [ev3379]; clear ev3379
    refine WP_goto 36 dX11_each_20 rfl ?_
    exact WP_sub (fc rfl (fc rfl (fc rfl fn))) (jn36_3376 v3379 (by omega) (by omega))
  · refine WP_aload_n dX11_each_5 rfl ?_
    refine WP_getr dX11_each_6 fX11_289 rfl (ly_is hy 0 11 rfl) (rf hr 0 62 40 (by decide)) ?_
    refine WP_iload_n dX11_each_9 rfl ?_
    refine WQ_iald dX11_each_10 (ly_is hy 40 13 rfl) (ly_n hy 40 3 rfl) (by omega) (by omega) (fun q hq => BT_get hI.1.1 40 0 3 (0) (0) (1000000) (by decide) q (Nat.zero_le _) hq) (fun v3380 av3380 bv3380 ev3380 => ?_)
    clear ev3380
    refine WP_ldcw (1000000) dX11_each_11 kX11_460 ?_
    obtain ⟨v3381, hv3381, ev3381⟩ : ∃ v : Int32, v.toInt = 1000000 ∧ ((1000000) : Int32) = v := ⟨(1000000), rfl, rfl⟩
    rw [ev3381]; clear ev3381
    refine WQ_icmp_ne 23 dX11_each_14 rfl (fun c3381 => ?_) (fun c3381 => ?_)
    · refine WP_aload_n dX11_each_23 rfl ?_
      refine WP_getr dX11_each_24 fX11_289 rfl (ly_is hy 0 11 rfl) (rf hr 0 62 40 (by decide)) ?_
      refine WP_iload_n dX11_each_27 rfl ?_
      refine WQ_iald dX11_each_28 (ly_is hy 40 13 rfl) (ly_n hy 40 3 rfl) (by omega) (by omega) (fun q hq => BT_get hI.1.1 40 0 3 (0) (0) (1000000) (by decide) q (Nat.zero_le _) hq) (fun v3383 av3383 bv3383 ev3383 => ?_)
      clear ev3383
      refine WP_aload_n dX11_each_29 rfl ?_
      refine WP_getr dX11_each_30 fX11_235 rfl (ly_is hy 0 11 rfl) (rf hr 0 26 8 (by decide)) ?_
      refine WP_iload_n dX11_each_33 rfl ?_
      refine WQ_ialdf (q := so.toInt.toNat) dX11_each_34 (ly_is hy 8 13 rfl) (ly_n hy 8 4 rfl) (by omega) (by omega) (by omega) (pp_get hI (by omega) (by rw [ew3366]; omega)) (fun v3384 av3384 bv3384 => ?_)
      refine WQ_idivb dX11_each_35 (by omega) (by omega) (fun v3385 pv3385 av3385 bv3385 cv3385 => ?_)
      exact WP_sub (fc rfl (fc rfl (fc rfl fn))) (jn36_3376 v3385 (by omega) (by omega))
    · refine WP_ldcw (1000000) dX11_each_17 kX11_460 ?_
      obtain ⟨v3386, hv3386, ev3386⟩ : ∃ v : Int32, v.toInt = 1000000 ∧ ((1000000) : Int32) = v := ⟨(1000000), rfl, rfl⟩
      rw [ev3386]; clear ev3386
      refine WP_goto 36 dX11_each_20 rfl ?_
      exact WP_sub (fc rfl (fc rfl (fc rfl fn))) (jn36_3376 v3386 (by omega) (by omega))
set_option maxHeartbeats 4000000 in
set_option maxRecDepth 100000 in
theorem sm_values {g : GG} {n : Int} {L : Int32} (hy : Ly g)  {I : pI} {J : pJ} {R : pR} (hr : Rf g R) (hI : MP g n L I)   : SP g mX11_values [.ref (ad g 0)] I J R (fun r I' J' R' => ((∃ L2 : Int32, MP g n L2 I' ∧ L2.toInt = 0) ∧ R' = R) ∧ ∃ v : Int32, r = some (.int v)) := by
  refine SP_of ⟨by decide, rfl⟩ (Nat.le_of_ble_eq_true rfl) ?_
  have e3387 : I (ad g 0) 1 = L := hI.1.2
  have b3388 := BT_get hI.1.1 0 1 2 (0) (0) (900) (by decide) 1 (by decide) (by decide)
  rw [e3387] at b3388
  refine WP_aload_n dX11_values_0 rfl ?_
  refine WQ_getiu dX11_values_1 fX11_3 rfl (ly_is hy 0 11 rfl) (fun v3389 ev3389 => ?_)
  refine WP_istore_n (ls' := [(0, _), (1, _)]) dX11_values_4 (by decide) rfl ?_
  refine WP_aload_n dX11_values_5 rfl ?_
  refine WQ_getiu dX11_values_6 fX11_10 rfl (ly_is hy 0 11 rfl) (fun v3390 ev3390 => ?_)
  refine WP_istore_n (ls' := [(0, _), (1, _), (2, _)]) dX11_values_9 (by decide) rfl ?_
  refine WP_aload_n dX11_values_10 rfl ?_
  refine WP_callV0 (k := 11) dX11_values_11 ⟨⟨⟨by decide, by decide⟩, zX11_open⟩, lX11_323, by decide, rfl, vX11_open.1, vX11_open.2⟩ (ly_is hy 0 11 rfl) (sm_open hy hr hI  ) (Nat.le_of_ble_eq_true rfl) ?_
  intro r I3391 J3392 Ra hq
  obtain ⟨⟨⟨L3393, hI3391, qL3393⟩, ec, pI3391⟩, rfl⟩ := hq
  rw [ec]
  clear ec Ra
  have e3394 : I3391 (ad g 0) 1 = L3393 := hI3391.1.2
  have b3395 := BT_get hI3391.1.1 0 1 2 (0) (0) (900) (by decide) 1 (by decide) (by decide)
  rw [e3394] at b3395
  obtain ⟨w3396, ew3396⟩ : ∃ w : Int32, I3391 (ad g 0) 4 = w := ⟨_, rfl⟩
  have bw3396 := BT_get hI3391.1.1 0 4 5 (0) (0) (900) (by decide) 4 (by decide) (by decide)
  rw [ew3396] at bw3396
  obtain ⟨w3397, ew3397⟩ : ∃ w : Int32, I3391 (ad g 0) 2 = w := ⟨_, rfl⟩
  have bw3397 := BT_get hI3391.1.1 0 2 3 (0) (0) (900) (by decide) 2 (by decide) (by decide)
  rw [ew3397] at bw3397
  rw [ew3396, ew3397] at pI3391
  refine WQ_iconst (1) (1) dX11_values_14 rfl rfl (fun v3398 hv3398 => ?_)
  refine WP_istore_n (ls' := [(0, _), (1, _), (2, _), (3, _)]) dX11_values_15 (by decide) rfl ?_
  refine WQ_iconst (0) (0) dX11_values_16 rfl rfl (fun v3399 hv3399 => ?_)
  refine WP_istore (ls' := [(0, _), (1, _), (2, _), (3, _), (4, _)]) dX11_values_17 (by decide) rfl ?_
  have lp19_3405 : ∀ (mz : Nat) (i3400 : Int32) (i3401 : Int32) (I3402 : pI) (J3403 : pJ), MP g n L3393 I3402 → ∀ (w3404 : Int32), I3402 (ad g 0) 4 = w3404 → ∀ (w3405 : Int32), I3402 (ad g 0) 2 = w3405 → 0 ≤ i3400.toInt → i3400.toInt ≤ 1 → 0 ≤ i3401.toInt → i3401.toInt ≤ 4 → w3404.toInt ≤ w3405.toInt → (5 - i3401.toInt).toNat < mz → WP g mX11_values 19 [(0, .ref (ad g 0)), (1, .int v3389), (2, .int v3390), (3, .int i3400), (4, .int i3401)] [] I3402 J3403 R (fun r I' J' R' => ((∃ L2 : Int32, MP g n L2 I' ∧ L2.toInt = 0) ∧ R' = R) ∧ ∃ v : Int32, r = some (.int v)) := by
    intro mz
    induction mz with
    | zero =>
      intro i3400 i3401 I3402 J3403 hI3402 w3404 ew3404 w3405 ew3405 ai3400 bi3400 ai3401 bi3401 j0_I3402 hmlp19_3405
      exact absurd hmlp19_3405 (Nat.not_lt_zero _)
    | succ mz ihlp19_3405 =>
      intro i3400 i3401 I3402 J3403 hI3402 w3404 ew3404 w3405 ew3405 ai3400 bi3400 ai3401 bi3401 j0_I3402 hmlp19_3405
      have bw3404 := BT_get hI3402.1.1 0 4 5 (0) (0) (900) (by decide) 4 (by decide) (by decide)
      rw [ew3404] at bw3404
      have bw3405 := BT_get hI3402.1.1 0 2 3 (0) (0) (900) (by decide) 2 (by decide) (by decide)
      rw [ew3405] at bw3405
      have e3407 : I3402 (ad g 0) 1 = L3393 := hI3402.1.2
      have b3408 := BT_get hI3402.1.1 0 1 2 (0) (0) (900) (by decide) 1 (by decide) (by decide)
      rw [e3407] at b3408
      refine WP_iload dX11_values_19 rfl ?_
      refine WP_aload_n dX11_values_21 rfl ?_
      refine WQ_geti dX11_values_22 fX11_329 rfl (ly_is hy 0 11 rfl) (BT_get hI3402.1.1 0 10 11 (0) (0) (4) (by decide) 10 (by decide) (by decide)) (fun v3409 ev3409 av3409 bv3409 => ?_)
      refine WQ_icmp_ge 98 dX11_values_25 rfl (fun c3409 => ?_) (fun c3409 => ?_)
      · refine WP_iload_n dX11_values_98 rfl ?_
        have jn114_3416 : ∀ (v3416 : Int32), 0 ≤ v3416.toInt → v3416.toInt ≤ 1 → WP g mX11_values 114 [(0, .ref (ad g 0)), (1, .int v3389), (2, .int v3390), (3, .int i3400), (4, .int i3401)] [.int v3416] I3402 J3403 R (fun r I' J' R' => ((∃ L2 : Int32, MP g n L2 I' ∧ L2.toInt = 0) ∧ R' = R) ∧ ∃ v : Int32, r = some (.int v)) := by
          intro v3416 av3416 bv3416
          refine WP_istore_n (ls' := [(0, _), (1, _), (2, _), (3, _), (4, _)]) dX11_values_114 (by decide) rfl ?_
          refine WP_aload_n dX11_values_115 rfl ?_
          refine WP_iload_n dX11_values_116 rfl ?_
          refine WQ_puti dX11_values_117 fX11_3 rfl rfl (ly_is hy 0 11 rfl) (fun I3418 eI3418 => ?_)
          have hI3418 : MP g n L3393 I3418 := by rw [eI3418]; exact (mp_w hy hI3402 (c := 0) (mi_f0 hy hI3402.1 (c := 0) (by decide) (Or.inr (by decide)) (by decide)) (by decide) (by decide) (Or.inr (by decide)))
          have e3419 : I3418 (ad g 0) 4 = w3404 := by rw [eI3418, pp_ne _ _ (Or.inr (by decide))]; exact ew3404
          have e3420 : I3418 (ad g 0) 2 = w3405 := by rw [eI3418, pp_ne _ _ (Or.inr (by decide))]; exact ew3405
          have e3421 : I3418 (ad g 0) 1 = L3393 := by rw [eI3418, pp_ne _ _ (Or.inr (by decide))]; exact e3407
          have e3422 : I3418 (ad g 0) 10 = v3409 := by rw [eI3418, pp_ne _ _ (Or.inr (by decide))]; exact ev3409
          have e3423 : I3418 (ad g 0) 8 = v3389 := by rw [eI3418, pp_self]
          clear eI3418
          refine WP_aload_n dX11_values_120 rfl ?_
          refine WP_iload_n dX11_values_121 rfl ?_
          refine WQ_puti dX11_values_122 fX11_10 rfl rfl (ly_is hy 0 11 rfl) (fun I3424 eI3424 => ?_)
          have hI3424 : MP g n L3393 I3424 := by rw [eI3424]; exact (mp_w hy hI3418 (c := 0) (mi_f0 hy hI3418.1 (c := 0) (by decide) (Or.inr (by decide)) (by decide)) (by decide) (by decide) (Or.inr (by decide)))
          have e3425 : I3424 (ad g 0) 4 = w3404 := by rw [eI3424, pp_ne _ _ (Or.inr (by decide))]; exact e3419
          have e3426 : I3424 (ad g 0) 2 = w3405 := by rw [eI3424, pp_ne _ _ (Or.inr (by decide))]; exact e3420
          have e3427 : I3424 (ad g 0) 1 = L3393 := by rw [eI3424, pp_ne _ _ (Or.inr (by decide))]; exact e3421
          have e3428 : I3424 (ad g 0) 10 = v3409 := by rw [eI3424, pp_ne _ _ (Or.inr (by decide))]; exact e3422
          have e3429 : I3424 (ad g 0) 8 = v3389 := by rw [eI3424, pp_ne _ _ (Or.inr (by decide))]; exact e3423
          have e3430 : I3424 (ad g 0) 9 = v3390 := by rw [eI3424, pp_self]
          clear eI3424
          refine WP_iload_n dX11_values_125 rfl ?_
          refine WQ_if_ne 131 dX11_values_126 rfl (fun c3430 => ?_) (fun c3430 => ?_)
          · refine WQ_iconst (0) (0) dX11_values_131 rfl rfl (fun v3432 hv3432 => ?_)
            refine WP_istore (ls' := [(0, _), (1, _), (2, _), (3, _), (4, _)]) dX11_values_132 (by decide) rfl ?_
            have lp134_3435 : ∀ (mz : Nat) (i3433 : Int32) (I3434 : pI) (J3435 : pJ), MP g n L3393 I3434 → 0 ≤ i3433.toInt → i3433.toInt ≤ 4 → (5 - i3433.toInt).toNat < mz → WP g mX11_values 134 [(0, .ref (ad g 0)), (1, .int v3389), (2, .int v3390), (3, .int v3416), (4, .int i3433)] [] I3434 J3435 R (fun r I' J' R' => ((∃ L2 : Int32, MP g n L2 I' ∧ L2.toInt = 0) ∧ R' = R) ∧ ∃ v : Int32, r = some (.int v)) := by
              intro mz
              induction mz with
              | zero =>
                intro i3433 I3434 J3435 hI3434 ai3433 bi3433 hmlp134_3435
                exact absurd hmlp134_3435 (Nat.not_lt_zero _)
              | succ mz ihlp134_3435 =>
                intro i3433 I3434 J3435 hI3434 ai3433 bi3433 hmlp134_3435
                have e3437 : I3434 (ad g 0) 1 = L3393 := hI3434.1.2
                have b3438 := BT_get hI3434.1.1 0 1 2 (0) (0) (900) (by decide) 1 (by decide) (by decide)
                rw [e3437] at b3438
                refine WP_iload dX11_values_134 rfl ?_
                refine WP_aload_n dX11_values_136 rfl ?_
                refine WQ_geti dX11_values_137 fX11_329 rfl (ly_is hy 0 11 rfl) (BT_get hI3434.1.1 0 10 11 (0) (0) (4) (by decide) 10 (by decide) (by decide)) (fun v3439 ev3439 av3439 bv3439 => ?_)
                refine WQ_icmp_ge 183 dX11_values_140 rfl (fun c3439 => ?_) (fun c3439 => ?_)
                · refine WQ_iconst (1) (1) dX11_values_183 rfl rfl (fun v3441 hv3441 => ?_)
                  exact WP_iret dX11_values_184 rfl ⟨⟨⟨_, hI3434, by omega⟩, rfl⟩, _, rfl⟩
                · refine WP_aload_n dX11_values_143 rfl ?_
                  refine WP_getr dX11_values_144 fX11_310 rfl (ly_is hy 0 11 rfl) (rf hr 0 71 46 (by decide)) ?_
                  refine WP_iload dX11_values_147 rfl ?_
                  refine WP_aload_n dX11_values_149 rfl ?_
                  refine WP_getr dX11_values_150 fX11_316 rfl (ly_is hy 0 11 rfl) (rf hr 0 73 48 (by decide)) ?_
                  refine WQ_iconst (2) (2) dX11_values_153 rfl rfl (fun v3442 hv3442 => ?_)
                  refine WP_iload dX11_values_154 rfl ?_
                  refine WQ_imulK (2) dX11_values_156 hv3442 (by omega) (by omega) (fun v3443 hv3443 => ?_)
                  refine WQ_ialdu dX11_values_157 (ly_is hy 48 13 rfl) (ly_n hy 48 8 rfl) (by omega) (by omega) (fun v3444 => ?_)
                  refine WQ_iast dX11_values_158 (ly_is hy 46 13 rfl) (ly_n hy 46 4 rfl) (by omega) (by omega) (fun I3445 eI3445 => ?_)
                  have hI3445 : MP g n L3393 I3445 := by rw [eI3445]; exact (mp_w hy hI3434 (c := 46) (mi_r0 hy hI3434.1 (c := 46) (by decide) (Or.inl (by decide)) (by decide)) (by decide) (by decide) (Or.inl (by decide)))
                  have e3446 : I3445 (ad g 0) 1 = L3393 := by rw [eI3445, pp_ne _ _ (Or.inl (ly_ne hy (by decide) (by decide) (by decide)))]; exact e3437
                  have e3447 : I3445 (ad g 0) 10 = v3439 := by rw [eI3445, pp_ne _ _ (Or.inl (ly_ne hy (by decide) (by decide) (by decide)))]; exact ev3439
                  clear eI3445
                  refine WP_aload_n dX11_values_159 rfl ?_
                  refine WP_getr dX11_values_160 fX11_313 rfl (ly_is hy 0 11 rfl) (rf hr 0 72 47 (by decide)) ?_
                  refine WP_iload dX11_values_163 rfl ?_
                  refine WP_aload_n dX11_values_165 rfl ?_
                  refine WP_getr dX11_values_166 fX11_316 rfl (ly_is hy 0 11 rfl) (rf hr 0 73 48 (by decide)) ?_
                  refine WQ_iconst (2) (2) dX11_values_169 rfl rfl (fun v3448 hv3448 => ?_)
                  refine WP_iload dX11_values_170 rfl ?_
                  refine WQ_imulK (2) dX11_values_172 hv3448 (by omega) (by omega) (fun v3449 hv3449 => ?_)
                  refine WQ_iconst (1) (1) dX11_values_173 rfl rfl (fun v3450 hv3450 => ?_)
                  refine WQ_iadd dX11_values_174 (by omega) (by omega) (fun v3451 hv3451 => ?_)
                  refine WQ_ialdu dX11_values_175 (ly_is hy 48 13 rfl) (ly_n hy 48 8 rfl) (by omega) (by omega) (fun v3452 => ?_)
                  refine WQ_iast dX11_values_176 (ly_is hy 47 13 rfl) (ly_n hy 47 4 rfl) (by omega) (by omega) (fun I3453 eI3453 => ?_)
                  have hI3453 : MP g n L3393 I3453 := by rw [eI3453]; exact (mp_w hy hI3445 (c := 47) (mi_r0 hy hI3445.1 (c := 47) (by decide) (Or.inl (by decide)) (by decide)) (by decide) (by decide) (Or.inl (by decide)))
                  have e3454 : I3453 (ad g 0) 1 = L3393 := by rw [eI3453, pp_ne _ _ (Or.inl (ly_ne hy (by decide) (by decide) (by decide)))]; exact e3446
                  have e3455 : I3453 (ad g 0) 10 = v3439 := by rw [eI3453, pp_ne _ _ (Or.inl (ly_ne hy (by decide) (by decide) (by decide)))]; exact e3447
                  clear eI3453
                  refine WP_iinc (ls' := [(0, _), (1, _), (2, _), (3, _), (4, _)]) dX11_values_177 rfl (by decide) rfl ?_
                  have hv3456 : (i3433 + Int32.ofInt (1)).toInt = i3433.toInt + (1) := ia_n rfl (by omega) (by omega)
                  generalize i3433 + Int32.ofInt (1) = v3456 at hv3456 ⊢
                  refine WP_goto 134 dX11_values_180 rfl ?_
                  exact WP_sub (fc rfl (fc rfl (fc rfl (fc rfl (fc rfl fn))))) (ihlp134_3435 v3456 I3453 J3435 hI3453 (by omega) (by omega) (by omega))
            exact WP_sub (fc rfl (fc rfl (fc rfl (fc rfl (fc rfl fn))))) (lp134_3435 _ v3432 I3424 J3403 hI3424 (by omega) (by omega) (Nat.lt_succ_self _))
          · refine WQ_iconst (-1) (-1) dX11_values_129 rfl rfl (fun v3457 hv3457 => ?_)
            exact WP_iret dX11_values_130 rfl ⟨⟨⟨_, hI3424, by omega⟩, rfl⟩, _, rfl⟩
        refine WQ_if_eq 113 dX11_values_99 rfl (fun c3457 => ?_) (fun c3457 => ?_)
        · refine WQ_iconst (0) (0) dX11_values_113 rfl rfl (fun v3459 hv3459 => ?_)
          exact WP_sub (fc rfl (fc rfl (fc rfl (fc rfl (fc rfl fn))))) (jn114_3416 v3459 (by omega) (by omega))
        · refine WP_aload_n dX11_values_102 rfl ?_
          refine WQ_geti dX11_values_103 fX11_27 rfl (ly_is hy 0 11 rfl) (BT_get hI3402.1.1 0 5 6 (0) (0) (4) (by decide) 5 (by decide) (by decide)) (fun v3460 ev3460 av3460 bv3460 => ?_)
          refine WQ_if_ne 113 dX11_values_106 rfl (fun c3460 => ?_) (fun c3460 => ?_)
          · refine WQ_iconst (0) (0) dX11_values_113 rfl rfl (fun v3462 hv3462 => ?_)
            exact WP_sub (fc rfl (fc rfl (fc rfl (fc rfl (fc rfl fn))))) (jn114_3416 v3462 (by omega) (by omega))
          · refine WQ_iconst (1) (1) dX11_values_109 rfl rfl (fun v3463 hv3463 => ?_)
            refine WP_goto 114 dX11_values_110 rfl ?_
            exact WP_sub (fc rfl (fc rfl (fc rfl (fc rfl (fc rfl fn))))) (jn114_3416 v3463 (by omega) (by omega))
      · refine WP_iload_n dX11_values_28 rfl ?_
        refine WQ_if_eq 98 dX11_values_29 rfl (fun c3463 => ?_) (fun c3463 => ?_)
        · refine WP_iload_n dX11_values_98 rfl ?_
          have jn114_3466 : ∀ (v3466 : Int32), 0 ≤ v3466.toInt → v3466.toInt ≤ 0 → WP g mX11_values 114 [(0, .ref (ad g 0)), (1, .int v3389), (2, .int v3390), (3, .int i3400), (4, .int i3401)] [.int v3466] I3402 J3403 R (fun r I' J' R' => ((∃ L2 : Int32, MP g n L2 I' ∧ L2.toInt = 0) ∧ R' = R) ∧ ∃ v : Int32, r = some (.int v)) := by
            intro v3466 av3466 bv3466
            refine WP_istore_n (ls' := [(0, _), (1, _), (2, _), (3, _), (4, _)]) dX11_values_114 (by decide) rfl ?_
            refine WP_aload_n dX11_values_115 rfl ?_
            refine WP_iload_n dX11_values_116 rfl ?_
            refine WQ_puti dX11_values_117 fX11_3 rfl rfl (ly_is hy 0 11 rfl) (fun I3468 eI3468 => ?_)
            have hI3468 : MP g n L3393 I3468 := by rw [eI3468]; exact (mp_w hy hI3402 (c := 0) (mi_f0 hy hI3402.1 (c := 0) (by decide) (Or.inr (by decide)) (by decide)) (by decide) (by decide) (Or.inr (by decide)))
            have e3469 : I3468 (ad g 0) 4 = w3404 := by rw [eI3468, pp_ne _ _ (Or.inr (by decide))]; exact ew3404
            have e3470 : I3468 (ad g 0) 2 = w3405 := by rw [eI3468, pp_ne _ _ (Or.inr (by decide))]; exact ew3405
            have e3471 : I3468 (ad g 0) 1 = L3393 := by rw [eI3468, pp_ne _ _ (Or.inr (by decide))]; exact e3407
            have e3472 : I3468 (ad g 0) 10 = v3409 := by rw [eI3468, pp_ne _ _ (Or.inr (by decide))]; exact ev3409
            have e3473 : I3468 (ad g 0) 8 = v3389 := by rw [eI3468, pp_self]
            clear eI3468
            refine WP_aload_n dX11_values_120 rfl ?_
            refine WP_iload_n dX11_values_121 rfl ?_
            refine WQ_puti dX11_values_122 fX11_10 rfl rfl (ly_is hy 0 11 rfl) (fun I3474 eI3474 => ?_)
            have hI3474 : MP g n L3393 I3474 := by rw [eI3474]; exact (mp_w hy hI3468 (c := 0) (mi_f0 hy hI3468.1 (c := 0) (by decide) (Or.inr (by decide)) (by decide)) (by decide) (by decide) (Or.inr (by decide)))
            have e3475 : I3474 (ad g 0) 4 = w3404 := by rw [eI3474, pp_ne _ _ (Or.inr (by decide))]; exact e3469
            have e3476 : I3474 (ad g 0) 2 = w3405 := by rw [eI3474, pp_ne _ _ (Or.inr (by decide))]; exact e3470
            have e3477 : I3474 (ad g 0) 1 = L3393 := by rw [eI3474, pp_ne _ _ (Or.inr (by decide))]; exact e3471
            have e3478 : I3474 (ad g 0) 10 = v3409 := by rw [eI3474, pp_ne _ _ (Or.inr (by decide))]; exact e3472
            have e3479 : I3474 (ad g 0) 8 = v3389 := by rw [eI3474, pp_ne _ _ (Or.inr (by decide))]; exact e3473
            have e3480 : I3474 (ad g 0) 9 = v3390 := by rw [eI3474, pp_self]
            clear eI3474
            refine WP_iload_n dX11_values_125 rfl ?_
            refine WQ_if_ne 131 dX11_values_126 rfl (fun c3480 => False.elim (by omega)) (fun c3480 => ?_)
            refine WQ_iconst (-1) (-1) dX11_values_129 rfl rfl (fun v3482 hv3482 => ?_)
            exact WP_iret dX11_values_130 rfl ⟨⟨⟨_, hI3474, by omega⟩, rfl⟩, _, rfl⟩
          refine WQ_if_eq 113 dX11_values_99 rfl (fun c3482 => ?_) (fun c3482 => False.elim (by omega))
          refine WQ_iconst (0) (0) dX11_values_113 rfl rfl (fun v3484 hv3484 => ?_)
          exact WP_sub (fc rfl (fc rfl (fc rfl (fc rfl (fc rfl fn))))) (jn114_3466 v3484 (by omega) (by omega))
        · refine WQ_iconst (0) (0) dX11_values_32 rfl rfl (fun v3485 hv3485 => ?_)
          refine WP_istore (ls' := [(0, _), (1, _), (2, _), (3, _), (4, _), (5, _)]) dX11_values_33 (by decide) rfl ?_
          have lp35_3491 : ∀ (mz : Nat) (i3486 : Int32) (i3487 : Int32) (I3488 : pI) (J3489 : pJ), MP g n L3393 I3488 → ∀ (w3490 : Int32), I3488 (ad g 0) 4 = w3490 → ∀ (w3491 : Int32), I3488 (ad g 0) 2 = w3491 → 0 ≤ i3486.toInt → i3486.toInt ≤ 1 → 0 ≤ i3487.toInt → i3487.toInt ≤ 2 → w3490.toInt ≤ w3491.toInt → (3 - i3487.toInt).toNat < mz → WP g mX11_values 35 [(0, .ref (ad g 0)), (1, .int v3389), (2, .int v3390), (3, .int i3486), (4, .int i3401), (5, .int i3487)] [] I3488 J3489 R (fun r I' J' R' => ((∃ L2 : Int32, MP g n L2 I' ∧ L2.toInt = 0) ∧ R' = R) ∧ ∃ v : Int32, r = some (.int v)) := by
            intro mz
            induction mz with
            | zero =>
              intro i3486 i3487 I3488 J3489 hI3488 w3490 ew3490 w3491 ew3491 ai3486 bi3486 ai3487 bi3487 j0_I3488 hmlp35_3491
              exact absurd hmlp35_3491 (Nat.not_lt_zero _)
            | succ mz ihlp35_3491 =>
              intro i3486 i3487 I3488 J3489 hI3488 w3490 ew3490 w3491 ew3491 ai3486 bi3486 ai3487 bi3487 j0_I3488 hmlp35_3491
              have bw3490 := BT_get hI3488.1.1 0 4 5 (0) (0) (900) (by decide) 4 (by decide) (by decide)
              rw [ew3490] at bw3490
              have bw3491 := BT_get hI3488.1.1 0 2 3 (0) (0) (900) (by decide) 2 (by decide) (by decide)
              rw [ew3491] at bw3491
              have e3493 : I3488 (ad g 0) 1 = L3393 := hI3488.1.2
              have b3494 := BT_get hI3488.1.1 0 1 2 (0) (0) (900) (by decide) 1 (by decide) (by decide)
              rw [e3493] at b3494
              refine WP_iload dX11_values_35 rfl ?_
              refine WQ_iconst (2) (2) dX11_values_37 rfl rfl (fun v3495 hv3495 => ?_)
              refine WQ_icmp_ge 75 dX11_values_38 rfl (fun c3495 => ?_) (fun c3495 => ?_)
              · refine WP_iload_n dX11_values_75 rfl ?_
                refine WQ_if_eq 90 dX11_values_76 rfl (fun c3496 => ?_) (fun c3496 => ?_)
                · refine WQ_iconst (0) (0) dX11_values_90 rfl rfl (fun v3498 hv3498 => ?_)
                  refine WP_istore_n (ls' := [(0, _), (1, _), (2, _), (3, _), (4, _), (5, _)]) dX11_values_91 (by decide) rfl ?_
                  refine WP_iinc (ls' := [(0, _), (1, _), (2, _), (3, _), (4, _), (5, _)]) dX11_values_92 rfl (by decide) rfl ?_
                  have hv3499 : (i3401 + Int32.ofInt (1)).toInt = i3401.toInt + (1) := ia_n rfl (by omega) (by omega)
                  generalize i3401 + Int32.ofInt (1) = v3499 at hv3499 ⊢
                  refine WP_goto 19 dX11_values_95 rfl ?_
                  exact WP_sub (fc rfl (fc rfl (fc rfl (fc rfl (fc rfl fn))))) (ihlp19_3405 v3498 v3499 I3488 J3489 hI3488 w3490 ew3490 w3491 ew3491 (by omega) (by omega) (by omega) (by omega) (by omega) (by omega))
                · refine WP_aload_n dX11_values_79 rfl ?_
                  refine WP_callV0 (k := 11) dX11_values_80 ⟨⟨⟨by decide, by decide⟩, zX11_close⟩, lX11_213, by decide, rfl, vX11_close.1, vX11_close.2⟩ (ly_is hy 0 11 rfl) (sm_close hy hr hI3488   (by rw [ew3490, ew3491]; omega)) (Nat.le_of_ble_eq_true rfl) ?_
                  intro r I3500 J3501 Ra hq
                  obtain ⟨⟨hI3500, ec, ⟨pI3500, sI3500_0_15, sI3500_0_16⟩⟩, v3502, rfl, av3502, bv3502⟩ := hq
                  show WP _ _ _ _ (.int _ :: _) _ _ _ _
                  rw [ec]
                  clear ec Ra
                  have e3503 : I3500 (ad g 0) 1 = L3393 := hI3500.1.2
                  have b3504 := BT_get hI3500.1.1 0 1 2 (0) (0) (900) (by decide) 1 (by decide) (by decide)
                  rw [e3503] at b3504
                  obtain ⟨w3505, ew3505⟩ : ∃ w : Int32, I3500 (ad g 0) 4 = w := ⟨_, rfl⟩
                  have bw3505 := BT_get hI3500.1.1 0 4 5 (0) (0) (900) (by decide) 4 (by decide) (by decide)
                  rw [ew3505] at bw3505
                  obtain ⟨w3506, ew3506⟩ : ∃ w : Int32, I3500 (ad g 0) 2 = w := ⟨_, rfl⟩
                  have bw3506 := BT_get hI3500.1.1 0 2 3 (0) (0) (900) (by decide) 2 (by decide) (by decide)
                  rw [ew3506] at bw3506
                  rw [ew3505, ew3506] at pI3500
                  have jn91_3509 : ∀ (v3509 : Int32), 0 ≤ v3509.toInt → v3509.toInt ≤ 1 → WP g mX11_values 91 [(0, .ref (ad g 0)), (1, .int v3389), (2, .int v3390), (3, .int i3486), (4, .int i3401), (5, .int i3487)] [.int v3509] I3500 J3501 R (fun r I' J' R' => ((∃ L2 : Int32, MP g n L2 I' ∧ L2.toInt = 0) ∧ R' = R) ∧ ∃ v : Int32, r = some (.int v)) := by
                    intro v3509 av3509 bv3509
                    refine WP_istore_n (ls' := [(0, _), (1, _), (2, _), (3, _), (4, _), (5, _)]) dX11_values_91 (by decide) rfl ?_
                    refine WP_iinc (ls' := [(0, _), (1, _), (2, _), (3, _), (4, _), (5, _)]) dX11_values_92 rfl (by decide) rfl ?_
                    have hv3511 : (i3401 + Int32.ofInt (1)).toInt = i3401.toInt + (1) := ia_n rfl (by omega) (by omega)
                    generalize i3401 + Int32.ofInt (1) = v3511 at hv3511 ⊢
                    refine WP_goto 19 dX11_values_95 rfl ?_
                    exact WP_sub (fc rfl (fc rfl (fc rfl (fc rfl (fc rfl fn))))) (ihlp19_3405 v3509 v3511 I3500 J3501 hI3500 w3505 ew3505 w3506 ew3506 (by omega) (by omega) (by omega) (by omega) (by omega) (by omega))
                  refine WQ_if_eq 90 dX11_values_83 rfl (fun c3511 => ?_) (fun c3511 => ?_)
                  · refine WQ_iconst (0) (0) dX11_values_90 rfl rfl (fun v3513 hv3513 => ?_)
                    exact WP_sub (fc rfl (fc rfl (fc rfl (fc rfl (fc rfl (fc rfl fn)))))) (jn91_3509 v3513 (by omega) (by omega))
                  · refine WQ_iconst (1) (1) dX11_values_86 rfl rfl (fun v3514 hv3514 => ?_)
                    refine WP_goto 91 dX11_values_87 rfl ?_
                    exact WP_sub (fc rfl (fc rfl (fc rfl (fc rfl (fc rfl (fc rfl fn)))))) (jn91_3509 v3514 (by omega) (by omega))
              · refine WP_iload_n dX11_values_41 rfl ?_
                refine WQ_if_eq 75 dX11_values_42 rfl (fun c3514 => ?_) (fun c3514 => ?_)
                · refine WP_iload_n dX11_values_75 rfl ?_
                  refine WQ_if_eq 90 dX11_values_76 rfl (fun c3515 => ?_) (fun c3515 => False.elim (by omega))
                  refine WQ_iconst (0) (0) dX11_values_90 rfl rfl (fun v3517 hv3517 => ?_)
                  refine WP_istore_n (ls' := [(0, _), (1, _), (2, _), (3, _), (4, _), (5, _)]) dX11_values_91 (by decide) rfl ?_
                  refine WP_iinc (ls' := [(0, _), (1, _), (2, _), (3, _), (4, _), (5, _)]) dX11_values_92 rfl (by decide) rfl ?_
                  have hv3518 : (i3401 + Int32.ofInt (1)).toInt = i3401.toInt + (1) := ia_n rfl (by omega) (by omega)
                  generalize i3401 + Int32.ofInt (1) = v3518 at hv3518 ⊢
                  refine WP_goto 19 dX11_values_95 rfl ?_
                  exact WP_sub (fc rfl (fc rfl (fc rfl (fc rfl (fc rfl fn))))) (ihlp19_3405 v3517 v3518 I3488 J3489 hI3488 w3490 ew3490 w3491 ew3491 (by omega) (by omega) (by omega) (by omega) (by omega) (by omega))
                · refine WP_aload_n dX11_values_45 rfl ?_
                  refine WQ_iconst (0) (0) dX11_values_46 rfl rfl (fun v3519 hv3519 => ?_)
                  refine WQ_bipush (99) (99) dX11_values_47 rfl rfl (fun v3520 hv3520 => ?_)
                  refine WP_callV2 (k := 11) dX11_values_49 ⟨⟨⟨by decide, by decide⟩, zX11_number⟩, lX11_81, by decide, rfl, vX11_number.1, vX11_number.2⟩ (ly_is hy 0 11 rfl) (sm_number hy hr hI3488 v3519 v3520 (by omega) (by omega) (by omega) (by omega) (by rw [ew3490, ew3491]; omega)) (Nat.le_of_ble_eq_true rfl) ?_
                  intro r I3521 J3522 Ra hq
                  obtain ⟨⟨hI3521, ec, ⟨pI3521, sI3521_0_15, sI3521_0_16⟩⟩, v3523, rfl, av3523, bv3523, cv3523⟩ := hq
                  show WP _ _ _ _ (.int _ :: _) _ _ _ _
                  rw [ec]
                  clear ec Ra
                  have e3524 : I3521 (ad g 0) 1 = L3393 := hI3521.1.2
                  have b3525 := BT_get hI3521.1.1 0 1 2 (0) (0) (900) (by decide) 1 (by decide) (by decide)
                  rw [e3524] at b3525
                  obtain ⟨w3526, ew3526⟩ : ∃ w : Int32, I3521 (ad g 0) 4 = w := ⟨_, rfl⟩
                  have bw3526 := BT_get hI3521.1.1 0 4 5 (0) (0) (900) (by decide) 4 (by decide) (by decide)
                  rw [ew3526] at bw3526
                  obtain ⟨w3527, ew3527⟩ : ∃ w : Int32, I3521 (ad g 0) 2 = w := ⟨_, rfl⟩
                  have bw3527 := BT_get hI3521.1.1 0 2 3 (0) (0) (900) (by decide) 2 (by decide) (by decide)
                  rw [ew3527] at bw3527
                  rw [ew3526, ew3527] at pI3521
                  obtain ⟨w3528, ew3528⟩ : ∃ w : Int32, I3521 (ad g 0) 7 = w := ⟨_, rfl⟩
                  have bw3528 := BT_get hI3521.1.1 0 7 8 (-1) (0) (1000) (by decide) 7 (by decide) (by decide)
                  rw [ew3528] at bw3528
                  rw [ew3528] at cv3523
                  refine WP_istore_n (ls' := [(0, _), (1, _), (2, _), (3, _), (4, _), (5, _)]) dX11_values_52 (by decide) rfl ?_
                  refine WP_aload_n dX11_values_53 rfl ?_
                  refine WP_getr dX11_values_54 fX11_316 rfl (ly_is hy 0 11 rfl) (rf hr 0 73 48 (by decide)) ?_
                  refine WQ_iconst (2) (2) dX11_values_57 rfl rfl (fun v3529 hv3529 => ?_)
                  refine WP_iload dX11_values_58 rfl ?_
                  refine WQ_imulK (2) dX11_values_60 hv3529 (by omega) (by omega) (fun v3530 hv3530 => ?_)
                  refine WP_iload dX11_values_61 rfl ?_
                  refine WQ_iadd dX11_values_63 (by omega) (by omega) (fun v3531 hv3531 => ?_)
                  refine WP_aload_n dX11_values_64 rfl ?_
                  refine WQ_getim dX11_values_65 fX11_56 rfl (ly_is hy 0 11 rfl) ew3528 ?_
                  refine WQ_iast dX11_values_68 (ly_is hy 48 13 rfl) (ly_n hy 48 8 rfl) (by omega) (by omega) (fun I3532 eI3532 => ?_)
                  have hI3532 : MP g n L3393 I3532 := by rw [eI3532]; exact (mp_w hy hI3521 (c := 48) (mi_r0 hy hI3521.1 (c := 48) (by decide) (Or.inl (by decide)) (by decide)) (by decide) (by decide) (Or.inl (by decide)))
                  have e3533 : I3532 (ad g 0) 1 = L3393 := by rw [eI3532, pp_ne _ _ (Or.inl (ly_ne hy (by decide) (by decide) (by decide)))]; exact e3524
                  have e3534 : I3532 (ad g 0) 4 = w3526 := by rw [eI3532, pp_ne _ _ (Or.inl (ly_ne hy (by decide) (by decide) (by decide)))]; exact ew3526
                  have e3535 : I3532 (ad g 0) 2 = w3527 := by rw [eI3532, pp_ne _ _ (Or.inl (ly_ne hy (by decide) (by decide) (by decide)))]; exact ew3527
                  have e3536 : I3532 (ad g 0) 7 = w3528 := by rw [eI3532, pp_ne _ _ (Or.inl (ly_ne hy (by decide) (by decide) (by decide)))]; exact ew3528
                  clear eI3532
                  refine WP_iinc (ls' := [(0, _), (1, _), (2, _), (3, _), (4, _), (5, _)]) dX11_values_69 rfl (by decide) rfl ?_
                  have hv3537 : (i3487 + Int32.ofInt (1)).toInt = i3487.toInt + (1) := ia_n rfl (by omega) (by omega)
                  generalize i3487 + Int32.ofInt (1) = v3537 at hv3537 ⊢
                  refine WP_goto 35 dX11_values_72 rfl ?_
                  exact WP_sub (fc rfl (fc rfl (fc rfl (fc rfl (fc rfl (fc rfl fn)))))) (ihlp35_3491 v3523 v3537 I3532 J3522 hI3532 w3526 e3534 w3527 e3535 (by omega) (by omega) (by omega) (by omega) (by omega) (by omega))
          exact WP_sub (fc rfl (fc rfl (fc rfl (fc rfl (fc rfl (fc rfl fn)))))) (lp35_3491 _ i3400 v3485 I3402 J3403 hI3402 w3404 ew3404 w3405 ew3405 (by omega) (by omega) (by omega) (by omega) (by omega) (Nat.lt_succ_self _))
  exact WP_sub (fc rfl (fc rfl (fc rfl (fc rfl (fc rfl fn))))) (lp19_3405 _ v3398 v3399 I3391 J3392 hI3391 w3396 ew3396 w3397 ew3397 (by omega) (by omega) (by omega) (by omega) (by omega) (Nat.lt_succ_self _))
set_option maxHeartbeats 4000000 in
set_option maxRecDepth 100000 in
theorem sm_isBest {g : GG} {n : Int} {L : Int32} (hy : Ly g)  {I : pI} {J : pJ} {R : pR} (hr : Rf g R) (hI : MP g n L I) (a : Int32) (b : Int32) (c : Int32) (e : Int32) (k : Int32)  : SP g mX11_isBest [.ref (ad g 0), .int a, .int b, .int c, .int e, .int k] I J R (fun r I' J' R' => (I' = I ∧ J' = J ∧ R' = R) ∧ ∃ v : Int32, r = some (.int v) ∧ 0 ≤ v.toInt ∧ v.toInt ≤ 1 ∧ (v.toInt = 1 → (0 ≤ a.toInt ∧ a.toInt ≤ 3 ∧ a.toInt < (I (ad g 0) 10).toInt) ∧ (0 ≤ b.toInt ∧ b.toInt ≤ 6) ∧ (0 ≤ c.toInt ∧ c.toInt ≤ 60) ∧ (0 ≤ e.toInt ∧ e.toInt ≤ 5) ∧ (0 ≤ k.toInt ∧ k.toInt ≤ 28))) := by
  refine SP_of ⟨by decide, rfl⟩ (Nat.le_of_ble_eq_true rfl) ?_
  have e3538 : I (ad g 0) 1 = L := hI.1.2
  have b3539 := BT_get hI.1.1 0 1 2 (0) (0) (900) (by decide) 1 (by decide) (by decide)
  rw [e3538] at b3539
  refine WP_aload_n dX11_isBest_0 rfl ?_
  refine WP_iload_n dX11_isBest_1 rfl ?_
  refine WP_callV1 (k := 11) dX11_isBest_2 ⟨⟨⟨by decide, by decide⟩, zX11_isSort⟩, lX11_367, by decide, rfl, vX11_isSort.1, vX11_isSort.2⟩ (ly_is hy 0 11 rfl) (sm_isSort hy hr hI a ) (Nat.le_of_ble_eq_true rfl) ?_
  intro r Ia Ja Ra hq
  obtain ⟨⟨ea, eb, ec⟩, v3540, rfl, av3540, bv3540, cv3540⟩ := hq
  show WP _ _ _ _ (.int _ :: _) _ _ _ _
  rw [ea, eb, ec]
  clear ea eb ec Ia Ja Ra
  obtain ⟨w3541, ew3541⟩ : ∃ w : Int32, I (ad g 0) 10 = w := ⟨_, rfl⟩
  have bw3541 := BT_get hI.1.1 0 10 11 (0) (0) (4) (by decide) 10 (by decide) (by decide)
  rw [ew3541] at bw3541
  rw [ew3541] at cv3540
  refine WQ_if_eq 47 dX11_isBest_5 rfl (fun c3541 => ?_) (fun c3541 => ?_)
  · refine WQ_iconst (0) (0) dX11_isBest_47 rfl rfl (fun v3543 hv3543 => ?_)
    exact WP_zret dX11_isBest_48 rfl (nar_z (by omega)) ⟨⟨rfl, rfl, rfl⟩, _, rfl, by omega, by omega, by (try rw [ew3541]); omega⟩
  · refine WP_iload_n dX11_isBest_8 rfl ?_
    refine WP_callS1 dX11_isBest_9 ⟨⟨⟨by decide, by decide⟩, zX11_isDay⟩, lX11_370, tX11_isDay⟩ (sm_isDay hy hr hI b ) (Nat.le_of_ble_eq_true rfl) ?_
    intro r Ia Ja Ra hq
    obtain ⟨⟨ea, eb, ec⟩, v3544, rfl, av3544, bv3544, cv3544⟩ := hq
    show WP _ _ _ _ (.int _ :: _) _ _ _ _
    rw [ea, eb, ec]
    clear ea eb ec Ia Ja Ra
    refine WQ_if_eq 47 dX11_isBest_12 rfl (fun c3544 => ?_) (fun c3544 => ?_)
    · refine WQ_iconst (0) (0) dX11_isBest_47 rfl rfl (fun v3546 hv3546 => ?_)
      exact WP_zret dX11_isBest_48 rfl (nar_z (by omega)) ⟨⟨rfl, rfl, rfl⟩, _, rfl, by omega, by omega, by (try rw [ew3541]); omega⟩
    · refine WP_iload_n dX11_isBest_15 rfl ?_
      refine WP_callS1 dX11_isBest_16 ⟨⟨⟨by decide, by decide⟩, zX11_areCoins⟩, lX11_392, tX11_areCoins⟩ (sm_areCoins hy hr hI c ) (Nat.le_of_ble_eq_true rfl) ?_
      intro r Ia Ja Ra hq
      obtain ⟨⟨ea, eb, ec⟩, v3547, rfl, av3547, bv3547, cv3547⟩ := hq
      show WP _ _ _ _ (.int _ :: _) _ _ _ _
      rw [ea, eb, ec]
      clear ea eb ec Ia Ja Ra
      refine WQ_if_eq 47 dX11_isBest_19 rfl (fun c3547 => ?_) (fun c3547 => ?_)
      · refine WQ_iconst (0) (0) dX11_isBest_47 rfl rfl (fun v3549 hv3549 => ?_)
        exact WP_zret dX11_isBest_48 rfl (nar_z (by omega)) ⟨⟨rfl, rfl, rfl⟩, _, rfl, by omega, by omega, by (try rw [ew3541]); omega⟩
      · refine WP_iload dX11_isBest_22 rfl ?_
        refine WP_callS1 dX11_isBest_24 ⟨⟨⟨by decide, by decide⟩, zX11_isStore⟩, lX11_395, tX11_isStore⟩ (sm_isStore hy hr hI e ) (Nat.le_of_ble_eq_true rfl) ?_
        intro r Ia Ja Ra hq
        obtain ⟨⟨ea, eb, ec⟩, v3550, rfl, av3550, bv3550, cv3550⟩ := hq
        show WP _ _ _ _ (.int _ :: _) _ _ _ _
        rw [ea, eb, ec]
        clear ea eb ec Ia Ja Ra
        refine WQ_if_eq 47 dX11_isBest_27 rfl (fun c3550 => ?_) (fun c3550 => ?_)
        · refine WQ_iconst (0) (0) dX11_isBest_47 rfl rfl (fun v3552 hv3552 => ?_)
          exact WP_zret dX11_isBest_48 rfl (nar_z (by omega)) ⟨⟨rfl, rfl, rfl⟩, _, rfl, by omega, by omega, by (try rw [ew3541]); omega⟩
        · refine WP_iload dX11_isBest_30 rfl ?_
          refine WQ_i2l dX11_isBest_32 (fun l3553 hl3553 => ?_)
          refine WP_lconst (0) dX11_isBest_33 rfl ?_
          obtain ⟨l3554, hl3554, el3554⟩ : ∃ v : Int64, v.toInt = 0 ∧ (0 : Int64) = v := ⟨_, rfl, rfl⟩
          rw [el3554]; clear el3554
          refine WP_ldc2 (28) dX11_isBest_34 klX11_433 ?_
          obtain ⟨l3555, hl3555, el3555⟩ : ∃ v : Int64, v.toInt = (28) ∧ ((28) : Int64) = v := ⟨_, rfl, rfl⟩
          rw [el3555]; clear el3555
          refine WP_callS3 dX11_isBest_37 ⟨⟨⟨by decide, by decide⟩, zX11_in⟩, lX11_52, tX11_in⟩ (sm_in hy hr hI l3553 l3554 l3555 ) (Nat.le_of_ble_eq_true rfl) ?_
          intro r Ia Ja Ra hq
          obtain ⟨⟨ea, eb, ec⟩, v3556, rfl, av3556, bv3556, cv3556⟩ := hq
          show WP _ _ _ _ (.int _ :: _) _ _ _ _
          rw [ea, eb, ec]
          clear ea eb ec Ia Ja Ra
          refine WQ_if_eq 47 dX11_isBest_40 rfl (fun c3556 => ?_) (fun c3556 => ?_)
          · refine WQ_iconst (0) (0) dX11_isBest_47 rfl rfl (fun v3558 hv3558 => ?_)
            exact WP_zret dX11_isBest_48 rfl (nar_z (by omega)) ⟨⟨rfl, rfl, rfl⟩, _, rfl, by omega, by omega, by (try rw [ew3541]); omega⟩
          · refine WQ_iconst (1) (1) dX11_isBest_43 rfl rfl (fun v3559 hv3559 => ?_)
            refine WP_goto 48 dX11_isBest_44 rfl ?_
            exact WP_zret dX11_isBest_48 rfl (nar_z (by omega)) ⟨⟨rfl, rfl, rfl⟩, _, rfl, by omega, by omega, by (try rw [ew3541]); omega⟩
set_option maxHeartbeats 4000000 in
set_option maxRecDepth 100000 in
theorem sm_earned {g : GG} {n : Int} {L : Int32} (hy : Ly g)  {I : pI} {J : pJ} {R : pR} (hr : Rf g R) (hI : MP g n L I) (so : Int32) (da : Int32) (co : Int32) (so_lo : 0 ≤ so.toInt) (so_hi : so.toInt ≤ 3) (da_lo : 0 ≤ da.toInt) (da_hi : da.toInt ≤ 6) (co_lo : 0 ≤ co.toInt) (co_hi : co.toInt ≤ 60) : SP g mX11_earned [.ref (ad g 0), .int so, .int da, .int co] I J R (fun r I' J' R' => (I' = I ∧ J' = J ∧ R' = R) ∧ ∃ v : Int32, r = some (.int v) ∧ 0 ≤ v.toInt ∧ v.toInt ≤ 60) := by
  refine SP_of ⟨by decide, rfl⟩ (Nat.le_of_ble_eq_true rfl) ?_
  have e3560 : I (ad g 0) 1 = L := hI.1.2
  have b3561 := BT_get hI.1.1 0 1 2 (0) (0) (900) (by decide) 1 (by decide) (by decide)
  rw [e3560] at b3561
  refine WQ_bipush (60) (60) dX11_earned_0 rfl rfl (fun v3562 hv3562 => ?_)
  refine WP_iload_n dX11_earned_2 rfl ?_
  refine WP_aload_n dX11_earned_3 rfl ?_
  refine WP_getr dX11_earned_4 fX11_252 rfl (ly_is hy 0 11 rfl) (rf hr 0 38 20 (by decide)) ?_
  refine WQ_bipush (7) (7) dX11_earned_7 rfl rfl (fun v3563 hv3563 => ?_)
  refine WP_iload_n dX11_earned_9 rfl ?_
  refine WQ_imulK (7) dX11_earned_10 hv3563 (by omega) (by omega) (fun v3564 hv3564 => ?_)
  refine WP_iload_n dX11_earned_11 rfl ?_
  refine WQ_iadd dX11_earned_12 (by omega) (by omega) (fun v3565 hv3565 => ?_)
  refine WQ_iald dX11_earned_13 (ly_is hy 20 13 rfl) (ly_n hy 20 28 rfl) (by omega) (by omega) (fun q hq => BT_get hI.1.1 20 0 28 (0) (0) (20) (by decide) q (Nat.zero_le _) hq) (fun v3566 av3566 bv3566 ev3566 => ?_)
  clear ev3566
  refine WQ_iadd dX11_earned_14 (by omega) (by omega) (fun v3567 hv3567 => ?_)
  refine WQ_min dX11_earned_15 lX11_417 ⟨by decide, Nat.le_of_ble_eq_true rfl⟩ (fun v3568 av3568 bv3568 cv3568 => ?_)
  exact WP_iret dX11_earned_18 rfl ⟨⟨rfl, rfl, rfl⟩, _, rfl, by omega, by omega⟩
