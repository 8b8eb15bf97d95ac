set_option maxHeartbeats 4000000 in
set_option maxRecDepth 100000 in
theorem sm_findMeet {g : GG} {n : Int} {L : Int32} (hy : Ly g)  {I : pI} {J : pJ} {R : pR} (hr : Rf g R) (hI : MP g n L I) (so : Int32) (se : Int32) (mm : Int32) (r : Int32) (t : Int32) (so_lo : 0 ≤ so.toInt) (so_hi : so.toInt ≤ 3) (t_lo : 0 ≤ t.toInt) (t_hi : t.toInt ≤ 40) (hb : so.toInt < (I (ad g 0) 10).toInt) : SP g mX11_findMeet [.ref (ad g 0), .int so, .int se, .int mm, .int r, .int t] I J R (fun r I' J' R' => (MP g n L I' ∧ R' = R ∧ I' (ad g 0) 10 = I (ad g 0) 10) ∧ r = none) := by
  refine SP_of ⟨by decide, rfl⟩ (Nat.le_of_ble_eq_true rfl) ?_
  have e3076 : I (ad g 0) 1 = L := hI.1.2
  have b3077 := BT_get hI.1.1 0 1 2 (0) (0) (900) (by decide) 1 (by decide) (by decide)
  rw [e3076] at b3077
  obtain ⟨w3078, ew3078⟩ : ∃ w : Int32, I (ad g 0) 10 = w := ⟨_, rfl⟩
  have bw3078 := BT_get hI.1.1 0 10 11 (0) (0) (4) (by decide) 10 (by decide) (by decide)
  rw [ew3078] at bw3078
  rw [ew3078] at hb
  refine WQ_iconst (0) (0) dX11_findMeet_0 rfl rfl (fun v3079 hv3079 => ?_)
  refine WP_istore (ls' := [(0, _), (1, _), (2, _), (3, _), (4, _), (5, _), (6, _)]) dX11_findMeet_1 (by decide) rfl ?_
  refine WQ_iconst (0) (0) dX11_findMeet_3 rfl rfl (fun v3080 hv3080 => ?_)
  refine WP_istore (ls' := [(0, _), (1, _), (2, _), (3, _), (4, _), (5, _), (6, _), (7, _)]) dX11_findMeet_4 (by decide) rfl ?_
  refine WQ_iconst (0) (0) dX11_findMeet_6 rfl rfl (fun v3081 hv3081 => ?_)
  refine WP_istore (ls' := [(0, _), (1, _), (2, _), (3, _), (4, _), (5, _), (6, _), (7, _), (8, _)]) dX11_findMeet_7 (by decide) rfl ?_
  have lp9_3084 : ∀ (mz : Nat) (i3082 : Int32) (i3083 : Int32) (i3084 : Int32), 0 ≤ i3083.toInt → i3083.toInt ≤ 396 → 0 ≤ i3084.toInt → i3084.toInt ≤ 4 → i3083.toInt ≤ 99 * i3084.toInt → i3084.toInt ≤ i3083.toInt → i3084.toInt ≤ w3078.toInt → (5 - i3084.toInt).toNat < mz → WP g mX11_findMeet 9 [(0, .ref (ad g 0)), (1, .int so), (2, .int se), (3, .int mm), (4, .int r), (5, .int t), (6, .int i3082), (7, .int i3083), (8, .int i3084)] [] I J R (fun r I' J' R' => (MP g n L I' ∧ R' = R ∧ I' (ad g 0) 10 = I (ad g 0) 10) ∧ r = none) := by
    intro mz
    induction mz with
    | zero =>
      intro i3082 i3083 i3084 ai3083 bi3083 ai3084 bi3084 j0_I j1_I j2_I hmlp9_3084
      exact absurd hmlp9_3084 (Nat.not_lt_zero _)
    | succ mz ihlp9_3084 =>
      intro i3082 i3083 i3084 ai3083 bi3083 ai3084 bi3084 j0_I j1_I j2_I hmlp9_3084
      refine WP_iload dX11_findMeet_9 rfl ?_
      refine WP_aload_n dX11_findMeet_11 rfl ?_
      refine WQ_getim dX11_findMeet_12 fX11_329 rfl (ly_is hy 0 11 rfl) ew3078 ?_
      refine WQ_icmp_ge 62 dX11_findMeet_15 rfl (fun c3085 => ?_) (fun c3085 => ?_)
      · refine WP_ldc2 (10) dX11_findMeet_62 klX11_353 ?_
        obtain ⟨l3087, hl3087, el3087⟩ : ∃ v : Int64, v.toInt = (10) ∧ ((10) : Int64) = v := ⟨_, rfl, rfl⟩
        rw [el3087]; clear el3087
        refine WP_iload_n dX11_findMeet_65 rfl ?_
        refine WQ_i2l dX11_findMeet_66 (fun l3088 hl3088 => ?_)
        refine WQ_lmul dX11_findMeet_67 (fun l3089 => ?_)
        refine WP_iload dX11_findMeet_68 rfl ?_
        refine WQ_i2l dX11_findMeet_70 (fun l3090 hl3090 => ?_)
        refine WQ_lmul dX11_findMeet_71 (fun l3091 => ?_)
        refine WP_iload dX11_findMeet_72 rfl ?_
        refine WQ_i2l dX11_findMeet_74 (fun l3092 hl3092 => ?_)
        refine WQ_ldiv dX11_findMeet_75 (by omega) (fun l3093 => ?_)
        refine WP_lstore (ls' := [(0, _), (1, _), (2, _), (3, _), (4, _), (5, _), (6, _), (7, _), (8, _)]) dX11_findMeet_76 (by decide) rfl ?_
        refine WP_aload_n dX11_findMeet_78 rfl ?_
        refine WP_lconst (0) dX11_findMeet_79 rfl ?_
        obtain ⟨l3094, hl3094, el3094⟩ : ∃ v : Int64, v.toInt = 0 ∧ (0 : Int64) = v := ⟨_, rfl, rfl⟩
        rw [el3094]; clear el3094
        refine WQ_putl dX11_findMeet_80 fX11_527 rfl rfl (ly_is hy 0 11 rfl) (fun J3095 eJ3095 => ?_)
        clear eJ3095
        refine WP_aload_n dX11_findMeet_83 rfl ?_
        refine WP_lconst (0) dX11_findMeet_84 rfl ?_
        obtain ⟨l3096, hl3096, el3096⟩ : ∃ v : Int64, v.toInt = 0 ∧ (0 : Int64) = v := ⟨_, rfl, rfl⟩
        rw [el3096]; clear el3096
        refine WQ_putl dX11_findMeet_85 fX11_530 rfl rfl (ly_is hy 0 11 rfl) (fun J3097 eJ3097 => ?_)
        clear eJ3097
        refine WQ_iconst (0) (0) dX11_findMeet_88 rfl rfl (fun v3098 hv3098 => ?_)
        refine WP_istore (ls' := [(0, _), (1, _), (2, _), (3, _), (4, _), (5, _), (6, _), (7, _), (8, _), (10, _)]) dX11_findMeet_89 (by decide) rfl ?_
        have lp91_3102 : ∀ (mz : Nat) (i3099 : Int32) (I3100 : pI) (J3101 : pJ), MP g n L I3100 → ∀ (w3102 : Int32), I3100 (ad g 0) 10 = w3102 → 0 ≤ i3099.toInt → i3099.toInt ≤ 40 → w3102.toInt = w3078.toInt → (41 - i3099.toInt).toNat < mz → WP g mX11_findMeet 91 [(0, .ref (ad g 0)), (1, .int so), (2, .int se), (3, .int mm), (4, .int r), (5, .int t), (6, .int i3082), (7, .int i3083), (8, .long l3093), (10, .int i3099)] [] I3100 J3101 R (fun r I' J' R' => (MP g n L I' ∧ R' = R ∧ I' (ad g 0) 10 = I (ad g 0) 10) ∧ r = none) := by
          intro mz
          induction mz with
          | zero =>
            intro i3099 I3100 J3101 hI3100 w3102 ew3102 ai3099 bi3099 j0_I3100 hmlp91_3102
            exact absurd hmlp91_3102 (Nat.not_lt_zero _)
          | succ mz ihlp91_3102 =>
            intro i3099 I3100 J3101 hI3100 w3102 ew3102 ai3099 bi3099 j0_I3100 hmlp91_3102
            have bw3102 := BT_get hI3100.1.1 0 10 11 (0) (0) (4) (by decide) 10 (by decide) (by decide)
            rw [ew3102] at bw3102
            have e3104 : I3100 (ad g 0) 1 = L := hI3100.1.2
            have b3105 := BT_get hI3100.1.1 0 1 2 (0) (0) (900) (by decide) 1 (by decide) (by decide)
            rw [e3104] at b3105
            refine WP_iload dX11_findMeet_91 rfl ?_
            refine WP_iload dX11_findMeet_93 rfl ?_
            refine WQ_icmp_ge 231 dX11_findMeet_95 rfl (fun c3105 => ?_) (fun c3105 => ?_)
            · exact WP_vret dX11_findMeet_231 rfl ⟨⟨hI3100, rfl, (by rw [ew3102, ew3078] <;> exact (eq32 _ _).mpr (by omega))⟩, rfl⟩
            · refine WP_aload_n dX11_findMeet_98 rfl ?_
              refine WQ_getl dX11_findMeet_99 fX11_527 rfl (ly_is hy 0 11 rfl) (fun l3107 el3107 => ?_)
              refine WP_lload dX11_findMeet_102 rfl ?_
              refine WP_ldc2 (1000) dX11_findMeet_104 klX11_488 ?_
              obtain ⟨l3108, hl3108, el3108⟩ : ∃ v : Int64, v.toInt = (1000) ∧ ((1000) : Int64) = v := ⟨_, rfl, rfl⟩
              rw [el3108]; clear el3108
              refine WP_aload_n dX11_findMeet_107 rfl ?_
              refine WP_getr dX11_findMeet_108 fX11_310 rfl (ly_is hy 0 11 rfl) (rf hr 0 71 46 (by decide)) ?_
              refine WP_iload_n dX11_findMeet_111 rfl ?_
              refine WQ_ialdu dX11_findMeet_112 (ly_is hy 46 13 rfl) (ly_n hy 46 4 rfl) (by omega) (by omega) (fun v3109 => ?_)
              refine WQ_i2l dX11_findMeet_113 (fun l3110 hl3110 => ?_)
              refine WQ_lmul dX11_findMeet_114 (fun l3111 => ?_)
              refine WP_aload_n dX11_findMeet_115 rfl ?_
              refine WQ_getl dX11_findMeet_116 fX11_530 rfl (ly_is hy 0 11 rfl) (fun l3112 el3112 => ?_)
              refine WQ_ladd dX11_findMeet_119 (fun l3113 => ?_)
              refine WQ_lmul dX11_findMeet_120 (fun l3114 => ?_)
              refine WP_ldc2 (1000) dX11_findMeet_121 klX11_488 ?_
              obtain ⟨l3115, hl3115, el3115⟩ : ∃ v : Int64, v.toInt = (1000) ∧ ((1000) : Int64) = v := ⟨_, rfl, rfl⟩
              rw [el3115]; clear el3115
              refine WP_lload dX11_findMeet_124 rfl ?_
              refine WQ_lsub dX11_findMeet_126 (fun l3116 => ?_)
              refine WP_aload_n dX11_findMeet_127 rfl ?_
              refine WP_getl dX11_findMeet_128 fX11_527 rfl (ly_is hy 0 11 rfl) ?_
              rw [el3107]
              refine WQ_lmul dX11_findMeet_131 (fun l3117 => ?_)
              refine WQ_ladd dX11_findMeet_132 (fun l3118 => ?_)
              refine WP_ldc2 (1000) dX11_findMeet_133 klX11_488 ?_
              obtain ⟨l3119, hl3119, el3119⟩ : ∃ v : Int64, v.toInt = (1000) ∧ ((1000) : Int64) = v := ⟨_, rfl, rfl⟩
              rw [el3119]; clear el3119
              refine WQ_ldiv dX11_findMeet_136 (by omega) (fun l3120 => ?_)
              refine WQ_maxl dX11_findMeet_137 lX11_533 ⟨by decide, Nat.le_of_ble_eq_true rfl⟩ (fun l3121 => ?_)
              refine WP_lstore (ls' := [(0, _), (1, _), (2, _), (3, _), (4, _), (5, _), (6, _), (7, _), (8, _), (10, _), (11, _)]) dX11_findMeet_140 (by decide) rfl ?_
              refine WP_iload_n dX11_findMeet_142 rfl ?_
              refine WP_iload_n dX11_findMeet_143 rfl ?_
              refine WQ_ishru dX11_findMeet_144 (fun v3122 => ?_)
              refine WQ_iconst (1) (1) dX11_findMeet_145 rfl rfl (fun v3123 hv3123 => ?_)
              refine WQ_iandu dX11_findMeet_146 (fun v3124 => ?_)
              refine WQ_if_ne 157 dX11_findMeet_147 rfl (fun c3124 => ?_) (fun c3124 => ?_)
              · refine WP_ldc2 (10) dX11_findMeet_157 klX11_353 ?_
                obtain ⟨l3126, hl3126, el3126⟩ : ∃ v : Int64, v.toInt = (10) ∧ ((10) : Int64) = v := ⟨_, rfl, rfl⟩
                rw [el3126]; clear el3126
                refine WP_iload_n dX11_findMeet_160 rfl ?_
                refine WQ_i2l dX11_findMeet_161 (fun l3127 hl3127 => ?_)
                refine WQ_lmul dX11_findMeet_162 (fun l3128 => ?_)
                refine WP_aload_n dX11_findMeet_163 rfl ?_
                refine WP_getl dX11_findMeet_164 fX11_527 rfl (ly_is hy 0 11 rfl) ?_
                rw [el3107]
                refine WP_ldc2 (1000) dX11_findMeet_167 klX11_488 ?_
                obtain ⟨l3129, hl3129, el3129⟩ : ∃ v : Int64, v.toInt = (1000) ∧ ((1000) : Int64) = v := ⟨_, rfl, rfl⟩
                rw [el3129]; clear el3129
                refine WP_aload_n dX11_findMeet_170 rfl ?_
                refine WP_getr dX11_findMeet_171 fX11_313 rfl (ly_is hy 0 11 rfl) (rf hr 0 72 47 (by decide)) ?_
                refine WP_iload_n dX11_findMeet_174 rfl ?_
                refine WQ_ialdu dX11_findMeet_175 (ly_is hy 47 13 rfl) (ly_n hy 47 4 rfl) (by omega) (by omega) (fun v3130 => ?_)
                refine WQ_i2l dX11_findMeet_176 (fun l3131 hl3131 => ?_)
                refine WQ_lmul dX11_findMeet_177 (fun l3132 => ?_)
                refine WQ_lsub dX11_findMeet_178 (fun l3133 => ?_)
                refine WQ_lmul dX11_findMeet_179 (fun l3134 => ?_)
                refine WP_ldc2 (1000) dX11_findMeet_180 klX11_488 ?_
                obtain ⟨l3135, hl3135, el3135⟩ : ∃ v : Int64, v.toInt = (1000) ∧ ((1000) : Int64) = v := ⟨_, rfl, rfl⟩
                rw [el3135]; clear el3135
                refine WP_ldc2 (10) dX11_findMeet_183 klX11_353 ?_
                obtain ⟨l3136, hl3136, el3136⟩ : ∃ v : Int64, v.toInt = (10) ∧ ((10) : Int64) = v := ⟨_, rfl, rfl⟩
                rw [el3136]; clear el3136
                refine WP_iload_n dX11_findMeet_186 rfl ?_
                refine WQ_i2l dX11_findMeet_187 (fun l3137 hl3137 => ?_)
                refine WQ_lmul dX11_findMeet_188 (fun l3138 => ?_)
                refine WQ_lsub dX11_findMeet_189 (fun l3139 => ?_)
                refine WP_aload_n dX11_findMeet_190 rfl ?_
                refine WP_getl dX11_findMeet_191 fX11_530 rfl (ly_is hy 0 11 rfl) ?_
                rw [el3112]
                refine WQ_lmul dX11_findMeet_194 (fun l3140 => ?_)
                refine WQ_ladd dX11_findMeet_195 (fun l3141 => ?_)
                refine WP_ldc2 (1000) dX11_findMeet_196 klX11_488 ?_
                obtain ⟨l3142, hl3142, el3142⟩ : ∃ v : Int64, v.toInt = (1000) ∧ ((1000) : Int64) = v := ⟨_, rfl, rfl⟩
                rw [el3142]; clear el3142
                refine WQ_ldiv dX11_findMeet_199 (by omega) (fun l3143 => ?_)
                refine WP_lstore (ls' := [(0, _), (1, _), (2, _), (3, _), (4, _), (5, _), (6, _), (7, _), (8, _), (10, _), (11, _), (13, _)]) dX11_findMeet_200 (by decide) rfl ?_
                refine WP_aload_n dX11_findMeet_202 rfl ?_
                refine WP_lload dX11_findMeet_203 rfl ?_
                refine WP_lload dX11_findMeet_205 rfl ?_
                refine WP_iload dX11_findMeet_207 rfl ?_
                refine WQ_i2l dX11_findMeet_209 (fun l3144 hl3144 => ?_)
                refine WQ_lmul dX11_findMeet_210 (fun l3145 => ?_)
                refine WP_ldc2 (1000) dX11_findMeet_211 klX11_488 ?_
                obtain ⟨l3146, hl3146, el3146⟩ : ∃ v : Int64, v.toInt = (1000) ∧ ((1000) : Int64) = v := ⟨_, rfl, rfl⟩
                rw [el3146]; clear el3146
                refine WQ_ldiv dX11_findMeet_214 (by omega) (fun l3147 => ?_)
                refine WQ_lsub dX11_findMeet_215 (fun l3148 => ?_)
                refine WQ_putl dX11_findMeet_216 fX11_527 rfl rfl (ly_is hy 0 11 rfl) (fun J3149 eJ3149 => ?_)
                clear eJ3149
                refine WP_aload_n dX11_findMeet_219 rfl ?_
                refine WP_lload dX11_findMeet_220 rfl ?_
                refine WQ_putl dX11_findMeet_222 fX11_530 rfl rfl (ly_is hy 0 11 rfl) (fun J3150 eJ3150 => ?_)
                clear eJ3150
                refine WP_iinc (ls' := [(0, _), (1, _), (2, _), (3, _), (4, _), (5, _), (6, _), (7, _), (8, _), (10, _), (11, _), (13, _)]) dX11_findMeet_225 rfl (by decide) rfl ?_
                have hv3151 : (i3099 + Int32.ofInt (1)).toInt = i3099.toInt + (1) := ia_n rfl (by omega) (by omega)
                generalize i3099 + Int32.ofInt (1) = v3151 at hv3151 ⊢
                refine WP_goto 91 dX11_findMeet_228 rfl ?_
                exact WP_sub (fc rfl (fc rfl (fc rfl (fc rfl (fc rfl (fc rfl (fc rfl (fc rfl (fc rfl (fc rfl fn)))))))))) (ihlp91_3102 v3151 I3100 J3150 hI3100 w3102 ew3102 (by omega) (by omega) (by omega) (by omega))
              · refine WP_aload_n dX11_findMeet_150 rfl ?_
                refine WP_getl dX11_findMeet_151 fX11_530 rfl (ly_is hy 0 11 rfl) ?_
                rw [el3112]
                refine WP_goto 200 dX11_findMeet_154 rfl ?_
                refine WP_lstore (ls' := [(0, _), (1, _), (2, _), (3, _), (4, _), (5, _), (6, _), (7, _), (8, _), (10, _), (11, _), (13, _)]) dX11_findMeet_200 (by decide) rfl ?_
                refine WP_aload_n dX11_findMeet_202 rfl ?_
                refine WP_lload dX11_findMeet_203 rfl ?_
                refine WP_lload dX11_findMeet_205 rfl ?_
                refine WP_iload dX11_findMeet_207 rfl ?_
                refine WQ_i2l dX11_findMeet_209 (fun l3152 hl3152 => ?_)
                refine WQ_lmul dX11_findMeet_210 (fun l3153 => ?_)
                refine WP_ldc2 (1000) dX11_findMeet_211 klX11_488 ?_
                obtain ⟨l3154, hl3154, el3154⟩ : ∃ v : Int64, v.toInt = (1000) ∧ ((1000) : Int64) = v := ⟨_, rfl, rfl⟩
                rw [el3154]; clear el3154
                refine WQ_ldiv dX11_findMeet_214 (by omega) (fun l3155 => ?_)
                refine WQ_lsub dX11_findMeet_215 (fun l3156 => ?_)
                refine WQ_putl dX11_findMeet_216 fX11_527 rfl rfl (ly_is hy 0 11 rfl) (fun J3157 eJ3157 => ?_)
                clear eJ3157
                refine WP_aload_n dX11_findMeet_219 rfl ?_
                refine WP_lload dX11_findMeet_220 rfl ?_
                refine WQ_putl dX11_findMeet_222 fX11_530 rfl rfl (ly_is hy 0 11 rfl) (fun J3158 eJ3158 => ?_)
                clear eJ3158
                refine WP_iinc (ls' := [(0, _), (1, _), (2, _), (3, _), (4, _), (5, _), (6, _), (7, _), (8, _), (10, _), (11, _), (13, _)]) dX11_findMeet_225 rfl (by decide) rfl ?_
                have hv3159 : (i3099 + Int32.ofInt (1)).toInt = i3099.toInt + (1) := ia_n rfl (by omega) (by omega)
                generalize i3099 + Int32.ofInt (1) = v3159 at hv3159 ⊢
                refine WP_goto 91 dX11_findMeet_228 rfl ?_
                exact WP_sub (fc rfl (fc rfl (fc rfl (fc rfl (fc rfl (fc rfl (fc rfl (fc rfl (fc rfl (fc rfl fn)))))))))) (ihlp91_3102 v3159 I3100 J3158 hI3100 w3102 ew3102 (by omega) (by omega) (by omega) (by omega))
        exact WP_sub (fc rfl (fc rfl (fc rfl (fc rfl (fc rfl (fc rfl (fc rfl (fc rfl (fc rfl (fc rfl fn)))))))))) (lp91_3102 _ v3098 I J3097 hI w3078 ew3078 (by omega) (by omega) (by omega) (Nat.lt_succ_self _))
      · refine WP_iload dX11_findMeet_18 rfl ?_
        refine WP_aload_n dX11_findMeet_20 rfl ?_
        refine WP_getr dX11_findMeet_21 fX11_235 rfl (ly_is hy 0 11 rfl) (rf hr 0 26 8 (by decide)) ?_
        refine WP_iload dX11_findMeet_24 rfl ?_
        refine WQ_ialdf (q := i3084.toInt.toNat) dX11_findMeet_26 (ly_is hy 8 13 rfl) (ly_n hy 8 4 rfl) (by omega) (by omega) (by omega) (pp_get hI (by omega) (by rw [ew3078]; omega)) (fun v3160 av3160 bv3160 => ?_)
        refine WQ_iadd dX11_findMeet_27 (by omega) (by omega) (fun v3161 hv3161 => ?_)
        refine WP_istore (ls' := [(0, _), (1, _), (2, _), (3, _), (4, _), (5, _), (6, _), (7, _), (8, _)]) dX11_findMeet_28 (by decide) rfl ?_
        refine WP_iload dX11_findMeet_30 rfl ?_
        refine WP_iload_n dX11_findMeet_32 rfl ?_
        refine WP_iload dX11_findMeet_33 rfl ?_
        refine WQ_ishru dX11_findMeet_35 (fun v3162 => ?_)
        refine WQ_iconst (1) (1) dX11_findMeet_36 rfl rfl (fun v3163 hv3163 => ?_)
        refine WQ_iandu dX11_findMeet_37 (fun v3164 => ?_)
        refine WQ_iconst (1) (1) dX11_findMeet_38 rfl rfl (fun v3165 hv3165 => ?_)
        have jn53_3168 : ∀ (v3168 : Int32), 0 ≤ v3168.toInt → v3168.toInt ≤ 99 → WP g mX11_findMeet 53 [(0, .ref (ad g 0)), (1, .int so), (2, .int se), (3, .int mm), (4, .int r), (5, .int t), (6, .int i3082), (7, .int v3161), (8, .int i3084)] [.int v3168, .int i3082] I J R (fun r I' J' R' => (MP g n L I' ∧ R' = R ∧ I' (ad g 0) 10 = I (ad g 0) 10) ∧ r = none) := by
          intro v3168 av3168 bv3168
          refine WQ_iaddu dX11_findMeet_53 (fun v3170 => ?_)
          refine WP_istore (ls' := [(0, _), (1, _), (2, _), (3, _), (4, _), (5, _), (6, _), (7, _), (8, _)]) dX11_findMeet_54 (by decide) rfl ?_
          refine WP_iinc (ls' := [(0, _), (1, _), (2, _), (3, _), (4, _), (5, _), (6, _), (7, _), (8, _)]) dX11_findMeet_56 rfl (by decide) rfl ?_
          have hv3171 : (i3084 + Int32.ofInt (1)).toInt = i3084.toInt + (1) := ia_n rfl (by omega) (by omega)
          generalize i3084 + Int32.ofInt (1) = v3171 at hv3171 ⊢
          refine WP_goto 9 dX11_findMeet_59 rfl ?_
          exact WP_sub (fc rfl (fc rfl (fc rfl (fc rfl (fc rfl (fc rfl (fc rfl (fc rfl (fc rfl fn))))))))) (ihlp9_3084 v3170 v3161 v3171 (by omega) (by omega) (by omega) (by omega) (by omega) (by omega) (by omega) (by omega))
        refine WQ_icmp_ne 52 dX11_findMeet_39 rfl (fun c3171 => ?_) (fun c3171 => ?_)
        · refine WQ_iconst (0) (0) dX11_findMeet_52 rfl rfl (fun v3173 hv3173 => ?_)
          exact WP_sub (fc rfl (fc rfl (fc rfl (fc rfl (fc rfl (fc rfl (fc rfl (fc rfl (fc rfl fn))))))))) (jn53_3168 v3173 (by omega) (by omega))
        · refine WP_aload_n dX11_findMeet_42 rfl ?_
          refine WP_getr dX11_findMeet_43 fX11_235 rfl (ly_is hy 0 11 rfl) (rf hr 0 26 8 (by decide)) ?_
          refine WP_iload dX11_findMeet_46 rfl ?_
          refine WQ_iald dX11_findMeet_48 (ly_is hy 8 13 rfl) (ly_n hy 8 4 rfl) (by omega) (by omega) (fun q hq => BT_get hI.1.1 8 0 4 (0) (0) (99) (by decide) q (Nat.zero_le _) hq) (fun v3174 av3174 bv3174 ev3174 => ?_)
          clear ev3174
          refine WP_goto 53 dX11_findMeet_49 rfl ?_
          exact WP_sub (fc rfl (fc rfl (fc rfl (fc rfl (fc rfl (fc rfl (fc rfl (fc rfl (fc rfl fn))))))))) (jn53_3168 v3174 (by omega) (by omega))
  exact WP_sub (fc rfl (fc rfl (fc rfl (fc rfl (fc rfl (fc rfl (fc rfl (fc rfl (fc rfl fn))))))))) (lp9_3084 _ v3079 v3080 v3081 (by omega) (by omega) (by omega) (by omega) (by omega) (by omega) (by omega) (Nat.lt_succ_self _))
set_option maxHeartbeats 4000000 in
set_option maxRecDepth 100000 in
theorem sm_meet {g : GG} {n : Int} {L : Int32} (hy : Ly g)  {I : pI} {J : pJ} {R : pR} (hr : Rf g R) (hI : MP g n L I) (a : Int32) (b : Int32) (c : Int32) (e : Int32) (f : Int32) (h : Int32)  : SP g mX11_meet [.ref (ad g 0), .int a, .int b, .int c, .int e, .int f, .int h] I J R (fun r I' J' R' => (MP g n L I' ∧ R' = R) ∧ ∃ v : Int32, r = some (.int v)) := by
  refine SP_of ⟨by decide, rfl⟩ (Nat.le_of_ble_eq_true rfl) ?_
  have e3175 : I (ad g 0) 1 = L := hI.1.2
  have b3176 := BT_get hI.1.1 0 1 2 (0) (0) (900) (by decide) 1 (by decide) (by decide)
  rw [e3175] at b3176
  refine WP_aload_n dX11_meet_0 rfl ?_
  refine WP_iload_n dX11_meet_1 rfl ?_
  refine WP_callV1 (k := 11) dX11_meet_2 ⟨⟨⟨by decide, by decide⟩, zX11_isSort⟩, lX11_367, by decide, rfl, vX11_isSort.1, vX11_isSort.2⟩ (ly_is hy 0 11 rfl) (sm_isSort hy hr hI a ) (Nat.le_of_ble_eq_true rfl) ?_
  intro r Ia Ja Ra hq
  obtain ⟨⟨ea, eb, ec⟩, v3177, rfl, av3177, bv3177, cv3177⟩ := hq
  show WP _ _ _ _ (.int _ :: _) _ _ _ _
  rw [ea, eb, ec]
  clear ea eb ec Ia Ja Ra
  obtain ⟨w3178, ew3178⟩ : ∃ w : Int32, I (ad g 0) 10 = w := ⟨_, rfl⟩
  have bw3178 := BT_get hI.1.1 0 10 11 (0) (0) (4) (by decide) 10 (by decide) (by decide)
  rw [ew3178] at bw3178
  rw [ew3178] at cv3177
  refine WQ_if_eq 47 dX11_meet_5 rfl (fun c3178 => ?_) (fun c3178 => ?_)
  · refine WP_ldcw (-1000000) dX11_meet_47 kX11_544 ?_
    obtain ⟨v3180, hv3180, ev3180⟩ : ∃ v : Int32, v.toInt = -1000000 ∧ ((-1000000) : Int32) = v := ⟨(-1000000), rfl, rfl⟩
    rw [ev3180]; clear ev3180
    exact WP_iret dX11_meet_50 rfl ⟨⟨hI, rfl⟩, _, rfl⟩
  · refine WP_iload_n dX11_meet_8 rfl ?_
    refine WQ_i2l dX11_meet_9 (fun l3181 hl3181 => ?_)
    refine WP_lconst (0) dX11_meet_10 rfl ?_
    obtain ⟨l3182, hl3182, el3182⟩ : ∃ v : Int64, v.toInt = 0 ∧ (0 : Int64) = v := ⟨_, rfl, rfl⟩
    rw [el3182]; clear el3182
    refine WP_lconst (1) dX11_meet_11 rfl ?_
    obtain ⟨l3183, hl3183, el3183⟩ : ∃ v : Int64, v.toInt = 1 ∧ (1 : Int64) = v := ⟨_, rfl, rfl⟩
    rw [el3183]; clear el3183
    refine WP_aload_n dX11_meet_12 rfl ?_
    refine WQ_getim dX11_meet_13 fX11_329 rfl (ly_is hy 0 11 rfl) ew3178 ?_
    refine WQ_lshl dX11_meet_16 (fun l3184 => ?_)
    refine WP_lconst (1) dX11_meet_17 rfl ?_
    obtain ⟨l3185, hl3185, el3185⟩ : ∃ v : Int64, v.toInt = 1 ∧ (1 : Int64) = v := ⟨_, rfl, rfl⟩
    rw [el3185]; clear el3185
    refine WQ_lsub dX11_meet_18 (fun l3186 => ?_)
    refine WP_callS3 dX11_meet_19 ⟨⟨⟨by decide, by decide⟩, zX11_in⟩, lX11_52, tX11_in⟩ (sm_in hy hr hI l3181 l3182 l3186 ) (Nat.le_of_ble_eq_true rfl) ?_
    intro r Ia Ja Ra hq
    obtain ⟨⟨ea, eb, ec⟩, v3187, rfl, av3187, bv3187, cv3187⟩ := hq
    show WP _ _ _ _ (.int _ :: _) _ _ _ _
    rw [ea, eb, ec]
    clear ea eb ec Ia Ja Ra
    refine WQ_if_eq 47 dX11_meet_22 rfl (fun c3187 => ?_) (fun c3187 => ?_)
    · refine WP_ldcw (-1000000) dX11_meet_47 kX11_544 ?_
      obtain ⟨v3189, hv3189, ev3189⟩ : ∃ v : Int32, v.toInt = -1000000 ∧ ((-1000000) : Int32) = v := ⟨(-1000000), rfl, rfl⟩
      rw [ev3189]; clear ev3189
      exact WP_iret dX11_meet_50 rfl ⟨⟨hI, rfl⟩, _, rfl⟩
    · refine WP_iload_n dX11_meet_25 rfl ?_
      refine WP_iload dX11_meet_26 rfl ?_
      refine WP_iload dX11_meet_28 rfl ?_
      refine WP_callS3 dX11_meet_30 ⟨⟨⟨by decide, by decide⟩, zX11_isMeet⟩, lX11_540, tX11_isMeet⟩ (sm_isMeet hy hr hI c e f   ) (Nat.le_of_ble_eq_true rfl) ?_
      intro r Ia Ja Ra hq
      obtain ⟨⟨ea, eb, ec⟩, v3190, rfl, av3190, bv3190, cv3190⟩ := hq
      show WP _ _ _ _ (.int _ :: _) _ _ _ _
      rw [ea, eb, ec]
      clear ea eb ec Ia Ja Ra
      refine WQ_if_eq 47 dX11_meet_33 rfl (fun c3190 => ?_) (fun c3190 => ?_)
      · refine WP_ldcw (-1000000) dX11_meet_47 kX11_544 ?_
        obtain ⟨v3192, hv3192, ev3192⟩ : ∃ v : Int32, v.toInt = -1000000 ∧ ((-1000000) : Int32) = v := ⟨(-1000000), rfl, rfl⟩
        rw [ev3192]; clear ev3192
        exact WP_iret dX11_meet_50 rfl ⟨⟨hI, rfl⟩, _, rfl⟩
      · refine WP_iload dX11_meet_36 rfl ?_
        refine WQ_i2l dX11_meet_38 (fun l3193 hl3193 => ?_)
        refine WP_lconst (0) dX11_meet_39 rfl ?_
        obtain ⟨l3194, hl3194, el3194⟩ : ∃ v : Int64, v.toInt = 0 ∧ (0 : Int64) = v := ⟨_, rfl, rfl⟩
        rw [el3194]; clear el3194
        refine WP_lconst (1) dX11_meet_40 rfl ?_
        obtain ⟨l3195, hl3195, el3195⟩ : ∃ v : Int64, v.toInt = 1 ∧ (1 : Int64) = v := ⟨_, rfl, rfl⟩
        rw [el3195]; clear el3195
        refine WP_callS3 dX11_meet_41 ⟨⟨⟨by decide, by decide⟩, zX11_in⟩, lX11_52, tX11_in⟩ (sm_in hy hr hI l3193 l3194 l3195 ) (Nat.le_of_ble_eq_true rfl) ?_
        intro r Ia Ja Ra hq
        obtain ⟨⟨ea, eb, ec⟩, v3196, rfl, av3196, bv3196, cv3196⟩ := hq
        show WP _ _ _ _ (.int _ :: _) _ _ _ _
        rw [ea, eb, ec]
        clear ea eb ec Ia Ja Ra
        refine WQ_if_ne 51 dX11_meet_44 rfl (fun c3196 => ?_) (fun c3196 => ?_)
        · refine WP_aload_n dX11_meet_51 rfl ?_
          refine WP_iload_n dX11_meet_52 rfl ?_
          refine WP_iload_n dX11_meet_53 rfl ?_
          refine WP_iload_n dX11_meet_54 rfl ?_
          refine WP_iload dX11_meet_55 rfl ?_
          refine WP_iload dX11_meet_57 rfl ?_
          refine WP_callV5 (k := 11) dX11_meet_59 ⟨⟨⟨by decide, by decide⟩, zX11_findMeet⟩, lX11_545, by decide, rfl, vX11_findMeet.1, vX11_findMeet.2⟩ (ly_is hy 0 11 rfl) (sm_findMeet hy hr hI a b c e f (by omega) (by omega)    (by omega) (by omega) (by rw [ew3178]; omega)) (Nat.le_of_ble_eq_true rfl) ?_
          intro r I3198 J3199 Ra hq
          obtain ⟨⟨hI3198, ec, pI3198⟩, rfl⟩ := hq
          rw [ec]
          clear ec Ra
          have e3200 : I3198 (ad g 0) 1 = L := hI3198.1.2
          have b3201 := BT_get hI3198.1.1 0 1 2 (0) (0) (900) (by decide) 1 (by decide) (by decide)
          rw [e3200] at b3201
          obtain ⟨w3202, ew3202⟩ : ∃ w : Int32, I3198 (ad g 0) 10 = w := ⟨_, rfl⟩
          have bw3202 := BT_get hI3198.1.1 0 10 11 (0) (0) (4) (by decide) 10 (by decide) (by decide)
          rw [ew3202] at bw3202
          rw [ew3202] at pI3198
          refine WP_iload dX11_meet_62 rfl ?_
          refine WQ_if_ne 74 dX11_meet_64 rfl (fun c3204 => ?_) (fun c3204 => ?_)
          · refine WP_aload_n dX11_meet_74 rfl ?_
            refine WQ_getl dX11_meet_75 fX11_530 rfl (ly_is hy 0 11 rfl) (fun l3206 el3206 => ?_)
            refine WQ_l2i dX11_meet_78 (fun v3207 => ?_)
            exact WP_iret dX11_meet_79 rfl ⟨⟨hI3198, rfl⟩, _, rfl⟩
          · refine WP_aload_n dX11_meet_67 rfl ?_
            refine WQ_getl dX11_meet_68 fX11_527 rfl (ly_is hy 0 11 rfl) (fun l3208 el3208 => ?_)
            refine WP_goto 78 dX11_meet_71 rfl ?_
            refine WQ_l2i dX11_meet_78 (fun v3209 => ?_)
            exact WP_iret dX11_meet_79 rfl ⟨⟨hI3198, rfl⟩, _, rfl⟩
        · refine WP_ldcw (-1000000) dX11_meet_47 kX11_544 ?_
          obtain ⟨v3210, hv3210, ev3210⟩ : ∃ v : Int32, v.toInt = -1000000 ∧ ((-1000000) : Int32) = v := ⟨(-1000000), rfl, rfl⟩
          rw [ev3210]; clear ev3210
          exact WP_iret dX11_meet_50 rfl ⟨⟨hI, rfl⟩, _, rfl⟩
set_option maxHeartbeats 4000000 in
set_option maxRecDepth 100000 in
theorem sm_rests {g : GG} {n : Int} {L : Int32} (hy : Ly g)  {I : pI} {J : pJ} {R : pR} (hr : Rf g R) (hI : MP g n L I) (a : Int32) (b : Int32) (c : Int32)  : SP g mX11_rests [.ref (ad g 0), .int a, .int b, .int c] I J R (fun r I' J' R' => (MP g n L I' ∧ R' = R) ∧ ∃ v : Int32, r = some (.int v)) := by
  refine SP_of ⟨by decide, rfl⟩ (Nat.le_of_ble_eq_true rfl) ?_
  have e3211 : I (ad g 0) 1 = L := hI.1.2
  have b3212 := BT_get hI.1.1 0 1 2 (0) (0) (900) (by decide) 1 (by decide) (by decide)
  rw [e3211] at b3212
  refine WP_iload_n dX11_rests_0 rfl ?_
  refine WP_iload_n dX11_rests_1 rfl ?_
  refine WP_iload_n dX11_rests_2 rfl ?_
  refine WP_callS3 dX11_rests_3 ⟨⟨⟨by decide, by decide⟩, zX11_isMeet⟩, lX11_540, tX11_isMeet⟩ (sm_isMeet hy hr hI a b c   ) (Nat.le_of_ble_eq_true rfl) ?_
  intro r Ia Ja Ra hq
  obtain ⟨⟨ea, eb, ec⟩, v3213, rfl, av3213, bv3213, cv3213⟩ := hq
  show WP _ _ _ _ (.int _ :: _) _ _ _ _
  rw [ea, eb, ec]
  clear ea eb ec Ia Ja Ra
  refine WQ_if_ne 12 dX11_rests_6 rfl (fun c3213 => ?_) (fun c3213 => ?_)
  · refine WQ_iconst (0) (0) dX11_rests_12 rfl rfl (fun v3215 hv3215 => ?_)
    refine WP_istore (ls' := [(0, _), (1, _), (2, _), (3, _), (4, _)]) dX11_rests_13 (by decide) rfl ?_
    refine WQ_iconst (0) (0) dX11_rests_15 rfl rfl (fun v3216 hv3216 => ?_)
    refine WP_istore (ls' := [(0, _), (1, _), (2, _), (3, _), (4, _), (5, _)]) dX11_rests_16 (by decide) rfl ?_
    have lp18_3220 : ∀ (mz : Nat) (i3217 : Int32) (i3218 : Int32) (I3219 : pI) (J3220 : pJ), MP g n L I3219 → 0 ≤ i3218.toInt → i3218.toInt ≤ 16 → (17 - i3218.toInt).toNat < mz → WP g mX11_rests 18 [(0, .ref (ad g 0)), (1, .int a), (2, .int b), (3, .int c), (4, .int i3217), (5, .int i3218)] [] I3219 J3220 R (fun r I' J' R' => (MP g n L I' ∧ R' = R) ∧ ∃ v : Int32, r = some (.int v)) := by
      intro mz
      induction mz with
      | zero =>
        intro i3217 i3218 I3219 J3220 hI3219 ai3218 bi3218 hmlp18_3220
        exact absurd hmlp18_3220 (Nat.not_lt_zero _)
      | succ mz ihlp18_3220 =>
        intro i3217 i3218 I3219 J3220 hI3219 ai3218 bi3218 hmlp18_3220
        have e3222 : I3219 (ad g 0) 1 = L := hI3219.1.2
        have b3223 := BT_get hI3219.1.1 0 1 2 (0) (0) (900) (by decide) 1 (by decide) (by decide)
        rw [e3222] at b3223
        refine WP_iload dX11_rests_18 rfl ?_
        refine WQ_iconst (1) (1) dX11_rests_20 rfl rfl (fun v3224 hv3224 => ?_)
        refine WP_aload_n dX11_rests_21 rfl ?_
        refine WQ_geti dX11_rests_22 fX11_329 rfl (ly_is hy 0 11 rfl) (BT_get hI3219.1.1 0 10 11 (0) (0) (4) (by decide) 10 (by decide) (by decide)) (fun v3225 ev3225 av3225 bv3225 => ?_)
        refine WQ_ishl1 dX11_rests_25 hv3224 (by omega) (by omega) (fun v3226 av3226 bv3226 => ?_)
        refine WQ_icmp_ge 146 dX11_rests_26 rfl (fun c3226 => ?_) (fun c3226 => ?_)
        · refine WP_iload dX11_rests_146 rfl ?_
          exact WP_iret dX11_rests_148 rfl ⟨⟨hI3219, rfl⟩, _, rfl⟩
        · refine WQ_iconst (1) (1) dX11_rests_29 rfl rfl (fun v3228 hv3228 => ?_)
          refine WP_istore (ls' := [(0, _), (1, _), (2, _), (3, _), (4, _), (5, _), (6, _)]) dX11_rests_30 (by decide) rfl ?_
          refine WQ_iconst (0) (0) dX11_rests_32 rfl rfl (fun v3229 hv3229 => ?_)
          refine WP_istore (ls' := [(0, _), (1, _), (2, _), (3, _), (4, _), (5, _), (6, _), (7, _)]) dX11_rests_33 (by decide) rfl ?_
          have lp35_3233 : ∀ (mz : Nat) (i3230 : Int32) (i3231 : Int32) (I3232 : pI) (J3233 : pJ), MP g n L I3232 → 0 ≤ i3230.toInt → i3230.toInt ≤ 1 → 0 ≤ i3231.toInt → i3231.toInt ≤ 4 → (5 - i3231.toInt).toNat < mz → WP g mX11_rests 35 [(0, .ref (ad g 0)), (1, .int a), (2, .int b), (3, .int c), (4, .int i3217), (5, .int i3218), (6, .int i3230), (7, .int i3231)] [] I3232 J3233 R (fun r I' J' R' => (MP g n L I' ∧ R' = R) ∧ ∃ v : Int32, r = some (.int v)) := by
            intro mz
            induction mz with
            | zero =>
              intro i3230 i3231 I3232 J3233 hI3232 ai3230 bi3230 ai3231 bi3231 hmlp35_3233
              exact absurd hmlp35_3233 (Nat.not_lt_zero _)
            | succ mz ihlp35_3233 =>
              intro i3230 i3231 I3232 J3233 hI3232 ai3230 bi3230 ai3231 bi3231 hmlp35_3233
              have e3235 : I3232 (ad g 0) 1 = L := hI3232.1.2
              have b3236 := BT_get hI3232.1.1 0 1 2 (0) (0) (900) (by decide) 1 (by decide) (by decide)
              rw [e3235] at b3236
              refine WP_iload dX11_rests_35 rfl ?_
              refine WP_aload_n dX11_rests_37 rfl ?_
              refine WQ_geti dX11_rests_38 fX11_329 rfl (ly_is hy 0 11 rfl) (BT_get hI3232.1.1 0 10 11 (0) (0) (4) (by decide) 10 (by decide) (by decide)) (fun v3237 ev3237 av3237 bv3237 => ?_)
              refine WQ_icmp_ge 122 dX11_rests_41 rfl (fun c3237 => ?_) (fun c3237 => ?_)
              · refine WP_iload dX11_rests_122 rfl ?_
                refine WP_iload dX11_rests_124 rfl ?_
                have jn137_3242 : ∀ (v3242 : Int32), WP g mX11_rests 137 [(0, .ref (ad g 0)), (1, .int a), (2, .int b), (3, .int c), (4, .int i3217), (5, .int i3218), (6, .int i3230), (7, .int i3231)] [.int v3242, .int i3217] I3232 J3233 R (fun r I' J' R' => (MP g n L I' ∧ R' = R) ∧ ∃ v : Int32, r = some (.int v)) := by
                  intro v3242 
                  refine WQ_ioru dX11_rests_137 (fun v3244 => ?_)
                  refine WP_istore (ls' := [(0, _), (1, _), (2, _), (3, _), (4, _), (5, _), (6, _), (7, _)]) dX11_rests_138 (by decide) rfl ?_
                  refine WP_iinc (ls' := [(0, _), (1, _), (2, _), (3, _), (4, _), (5, _), (6, _), (7, _)]) dX11_rests_140 rfl (by decide) rfl ?_
                  have hv3245 : (i3218 + Int32.ofInt (1)).toInt = i3218.toInt + (1) := ia_n rfl (by omega) (by omega)
                  generalize i3218 + Int32.ofInt (1) = v3245 at hv3245 ⊢
                  refine WP_goto 18 dX11_rests_143 rfl ?_
                  exact WP_sub (fc rfl (fc rfl (fc rfl (fc rfl (fc rfl (fc rfl fn)))))) (ihlp18_3220 v3244 v3245 I3232 J3233 hI3232 (by omega) (by omega) (by omega))
                refine WQ_if_eq 136 dX11_rests_126 rfl (fun c3245 => ?_) (fun c3245 => ?_)
                · refine WQ_iconst (0) (0) dX11_rests_136 rfl rfl (fun v3247 hv3247 => ?_)
                  exact WP_sub (fc rfl (fc rfl (fc rfl (fc rfl (fc rfl (fc rfl (fc rfl (fc rfl fn)))))))) (jn137_3242 v3247)
                · refine WQ_iconst (1) (1) dX11_rests_129 rfl rfl (fun v3248 hv3248 => ?_)
                  refine WP_iload dX11_rests_130 rfl ?_
                  refine WQ_ishlu dX11_rests_132 (fun v3249 => ?_)
                  refine WP_goto 137 dX11_rests_133 rfl ?_
                  exact WP_sub (fc rfl (fc rfl (fc rfl (fc rfl (fc rfl (fc rfl (fc rfl (fc rfl fn)))))))) (jn137_3242 v3249)
              · refine WP_iload dX11_rests_44 rfl ?_
                refine WQ_if_eq 122 dX11_rests_46 rfl (fun c3249 => ?_) (fun c3249 => ?_)
                · refine WP_iload dX11_rests_122 rfl ?_
                  refine WP_iload dX11_rests_124 rfl ?_
                  have jn137_3252 : ∀ (v3252 : Int32), 0 ≤ v3252.toInt → v3252.toInt ≤ 0 → WP g mX11_rests 137 [(0, .ref (ad g 0)), (1, .int a), (2, .int b), (3, .int c), (4, .int i3217), (5, .int i3218), (6, .int i3230), (7, .int i3231)] [.int v3252, .int i3217] I3232 J3233 R (fun r I' J' R' => (MP g n L I' ∧ R' = R) ∧ ∃ v : Int32, r = some (.int v)) := by
                    intro v3252 av3252 bv3252
                    refine WQ_ioru dX11_rests_137 (fun v3254 => ?_)
                    refine WP_istore (ls' := [(0, _), (1, _), (2, _), (3, _), (4, _), (5, _), (6, _), (7, _)]) dX11_rests_138 (by decide) rfl ?_
                    refine WP_iinc (ls' := [(0, _), (1, _), (2, _), (3, _), (4, _), (5, _), (6, _), (7, _)]) dX11_rests_140 rfl (by decide) rfl ?_
                    have hv3255 : (i3218 + Int32.ofInt (1)).toInt = i3218.toInt + (1) := ia_n rfl (by omega) (by omega)
                    generalize i3218 + Int32.ofInt (1) = v3255 at hv3255 ⊢
                    refine WP_goto 18 dX11_rests_143 rfl ?_
                    exact WP_sub (fc rfl (fc rfl (fc rfl (fc rfl (fc rfl (fc rfl fn)))))) (ihlp18_3220 v3254 v3255 I3232 J3233 hI3232 (by omega) (by omega) (by omega))
                  refine WQ_if_eq 136 dX11_rests_126 rfl (fun c3255 => ?_) (fun c3255 => False.elim (by omega))
                  refine WQ_iconst (0) (0) dX11_rests_136 rfl rfl (fun v3257 hv3257 => ?_)
                  exact WP_sub (fc rfl (fc rfl (fc rfl (fc rfl (fc rfl (fc rfl (fc rfl (fc rfl fn)))))))) (jn137_3252 v3257 (by omega) (by omega))
                · refine WP_aload_n dX11_rests_49 rfl ?_
                  refine WP_iload dX11_rests_50 rfl ?_
                  refine WP_iload dX11_rests_52 rfl ?_
                  refine WP_iload_n dX11_rests_54 rfl ?_
                  refine WP_iload_n dX11_rests_55 rfl ?_
                  refine WP_iload_n dX11_rests_56 rfl ?_
                  refine WP_callV5 (k := 11) dX11_rests_57 ⟨⟨⟨by decide, by decide⟩, zX11_findMeet⟩, lX11_545, by decide, rfl, vX11_findMeet.1, vX11_findMeet.2⟩ (ly_is hy 0 11 rfl) (sm_findMeet hy hr hI3232 i3231 i3218 a b c (by omega) (by omega)    (by omega) (by omega) (by rw [ev3237]; omega)) (Nat.le_of_ble_eq_true rfl) ?_
                  intro r I3258 J3259 Ra hq
                  obtain ⟨⟨hI3258, ec, pI3258⟩, rfl⟩ := hq
                  rw [ec]
                  clear ec Ra
                  have e3260 : I3258 (ad g 0) 1 = L := hI3258.1.2
                  have b3261 := BT_get hI3258.1.1 0 1 2 (0) (0) (900) (by decide) 1 (by decide) (by decide)
                  rw [e3260] at b3261
                  obtain ⟨w3262, ew3262⟩ : ∃ w : Int32, I3258 (ad g 0) 10 = w := ⟨_, rfl⟩
                  have bw3262 := BT_get hI3258.1.1 0 10 11 (0) (0) (4) (by decide) 10 (by decide) (by decide)
                  rw [ew3262] at bw3262
                  rw [ew3262] at pI3258
                  refine WP_aload_n dX11_rests_60 rfl ?_
                  refine WQ_getl dX11_rests_61 fX11_527 rfl (ly_is hy 0 11 rfl) (fun l3263 el3263 => ?_)
                  refine WP_aload_n dX11_rests_64 rfl ?_
                  refine WQ_getl dX11_rests_65 fX11_530 rfl (ly_is hy 0 11 rfl) (fun l3264 el3264 => ?_)
                  refine WQ_lsub dX11_rests_68 (fun l3265 => ?_)
                  refine WP_ldc2 (1000) dX11_rests_69 klX11_488 ?_
                  obtain ⟨l3266, hl3266, el3266⟩ : ∃ v : Int64, v.toInt = (1000) ∧ ((1000) : Int64) = v := ⟨_, rfl, rfl⟩
                  rw [el3266]; clear el3266
                  refine WP_aload_n dX11_rests_72 rfl ?_
                  refine WP_getr dX11_rests_73 fX11_313 rfl (ly_is hy 0 11 rfl) (rf hr 0 72 47 (by decide)) ?_
                  refine WP_iload dX11_rests_76 rfl ?_
                  refine WQ_ialdu dX11_rests_78 (ly_is hy 47 13 rfl) (ly_n hy 47 4 rfl) (by omega) (by omega) (fun v3267 => ?_)
                  refine WQ_i2l dX11_rests_79 (fun l3268 hl3268 => ?_)
                  refine WQ_lmul dX11_rests_80 (fun l3269 => ?_)
                  refine WQ_lcmpu dX11_rests_81 (fun v3270 => ?_)
                  have jn90_3273 : ∀ (v3273 : Int32), 0 ≤ v3273.toInt → v3273.toInt ≤ 1 → WP g mX11_rests 90 [(0, .ref (ad g 0)), (1, .int a), (2, .int b), (3, .int c), (4, .int i3217), (5, .int i3218), (6, .int i3230), (7, .int i3231)] [.int v3273] I3258 J3259 R (fun r I' J' R' => (MP g n L I' ∧ R' = R) ∧ ∃ v : Int32, r = some (.int v)) := by
                    intro v3273 av3273 bv3273
                    refine WP_iload dX11_rests_90 rfl ?_
                    refine WP_iload dX11_rests_92 rfl ?_
                    refine WQ_ishru dX11_rests_94 (fun v3275 => ?_)
                    refine WQ_iconst (1) (1) dX11_rests_95 rfl rfl (fun v3276 hv3276 => ?_)
                    refine WQ_iandu dX11_rests_96 (fun v3277 => ?_)
                    refine WQ_iconst (1) (1) dX11_rests_97 rfl rfl (fun v3278 hv3278 => ?_)
                    have jn106_3281 : ∀ (v3281 : Int32), 0 ≤ v3281.toInt → v3281.toInt ≤ 1 → WP g mX11_rests 106 [(0, .ref (ad g 0)), (1, .int a), (2, .int b), (3, .int c), (4, .int i3217), (5, .int i3218), (6, .int i3230), (7, .int i3231)] [.int v3281, .int v3273] I3258 J3259 R (fun r I' J' R' => (MP g n L I' ∧ R' = R) ∧ ∃ v : Int32, r = some (.int v)) := by
                      intro v3281 av3281 bv3281
                      have jn114_3285 : ∀ (v3285 : Int32), 0 ≤ v3285.toInt → v3285.toInt ≤ 1 → WP g mX11_rests 114 [(0, .ref (ad g 0)), (1, .int a), (2, .int b), (3, .int c), (4, .int i3217), (5, .int i3218), (6, .int i3230), (7, .int i3231)] [.int v3285] I3258 J3259 R (fun r I' J' R' => (MP g n L I' ∧ R' = R) ∧ ∃ v : Int32, r = some (.int v)) := by
                        intro v3285 av3285 bv3285
                        refine WP_istore (ls' := [(0, _), (1, _), (2, _), (3, _), (4, _), (5, _), (6, _), (7, _)]) dX11_rests_114 (by decide) rfl ?_
                        refine WP_iinc (ls' := [(0, _), (1, _), (2, _), (3, _), (4, _), (5, _), (6, _), (7, _)]) dX11_rests_116 rfl (by decide) rfl ?_
                        have hv3287 : (i3231 + Int32.ofInt (1)).toInt = i3231.toInt + (1) := ia_n rfl (by omega) (by omega)
                        generalize i3231 + Int32.ofInt (1) = v3287 at hv3287 ⊢
                        refine WP_goto 35 dX11_rests_119 rfl ?_
                        exact WP_sub (fc rfl (fc rfl (fc rfl (fc rfl (fc rfl (fc rfl (fc rfl (fc rfl fn)))))))) (ihlp35_3233 v3285 v3287 I3258 J3259 hI3258 (by omega) (by omega) (by omega) (by omega) (by omega))
                      refine WQ_icmp_ne 113 dX11_rests_106 rfl (fun c3287 => ?_) (fun c3287 => ?_)
                      · refine WQ_iconst (0) (0) dX11_rests_113 rfl rfl (fun v3289 hv3289 => ?_)
                        exact WP_sub (fc rfl (fc rfl (fc rfl (fc rfl (fc rfl (fc rfl (fc rfl (fc rfl fn)))))))) (jn114_3285 v3289 (by omega) (by omega))
                      · refine WQ_iconst (1) (1) dX11_rests_109 rfl rfl (fun v3290 hv3290 => ?_)
                        refine WP_goto 114 dX11_rests_110 rfl ?_
                        exact WP_sub (fc rfl (fc rfl (fc rfl (fc rfl (fc rfl (fc rfl (fc rfl (fc rfl fn)))))))) (jn114_3285 v3290 (by omega) (by omega))
                    refine WQ_icmp_ne 105 dX11_rests_98 rfl (fun c3290 => ?_) (fun c3290 => ?_)
                    · refine WQ_iconst (0) (0) dX11_rests_105 rfl rfl (fun v3292 hv3292 => ?_)
                      exact WP_sub (fc rfl (fc rfl (fc rfl (fc rfl (fc rfl (fc rfl (fc rfl (fc rfl fn)))))))) (jn106_3281 v3292 (by omega) (by omega))
                    · refine WQ_iconst (1) (1) dX11_rests_101 rfl rfl (fun v3293 hv3293 => ?_)
                      refine WP_goto 106 dX11_rests_102 rfl ?_
                      exact WP_sub (fc rfl (fc rfl (fc rfl (fc rfl (fc rfl (fc rfl (fc rfl (fc rfl fn)))))))) (jn106_3281 v3293 (by omega) (by omega))
                  refine WQ_if_lt 89 dX11_rests_82 rfl (fun c3293 => ?_) (fun c3293 => ?_)
                  · refine WQ_iconst (0) (0) dX11_rests_89 rfl rfl (fun v3295 hv3295 => ?_)
                    exact WP_sub (fc rfl (fc rfl (fc rfl (fc rfl (fc rfl (fc rfl (fc rfl (fc rfl fn)))))))) (jn90_3273 v3295 (by omega) (by omega))
                  · refine WQ_iconst (1) (1) dX11_rests_85 rfl rfl (fun v3296 hv3296 => ?_)
                    refine WP_goto 90 dX11_rests_86 rfl ?_
                    exact WP_sub (fc rfl (fc rfl (fc rfl (fc rfl (fc rfl (fc rfl (fc rfl (fc rfl fn)))))))) (jn90_3273 v3296 (by omega) (by omega))
          exact WP_sub (fc rfl (fc rfl (fc rfl (fc rfl (fc rfl (fc rfl (fc rfl (fc rfl fn)))))))) (lp35_3233 _ v3228 v3229 I3219 J3220 hI3219 (by omega) (by omega) (by omega) (by omega) (Nat.lt_succ_self _))
    exact WP_sub (fc rfl (fc rfl (fc rfl (fc rfl (fc rfl (fc rfl fn)))))) (lp18_3220 _ v3215 v3216 I J hI (by omega) (by omega) (Nat.lt_succ_self _))
  · refine WQ_bipush (-2) (-2) dX11_rests_9 rfl rfl (fun v3297 hv3297 => ?_)
    exact WP_iret dX11_rests_11 rfl ⟨⟨hI, rfl⟩, _, rfl⟩
set_option maxHeartbeats 4000000 in
set_option maxRecDepth 100000 in
theorem sm_follow {g : GG} {n : Int} {L : Int32} (hy : Ly g)  {I : pI} {J : pJ} {R : pR} (hr : Rf g R) (hI : MP g n L I) (k : Int32) (a : Int32) (b : Int32) (r : Int32) (k_lo : 0 ≤ k.toInt) (k_hi : k.toInt ≤ 20) (a_lo : 0 ≤ a.toInt) (a_hi : a.toInt ≤ 9) (b_lo : 0 ≤ b.toInt) (b_hi : b.toInt ≤ 9) (r_lo : 1 ≤ r.toInt) (r_hi : r.toInt ≤ 20) : SP g mX11_follow [.ref (ad g 0), .int k, .int a, .int b, .int r] I J R (fun r I' J' R' => (I' = I ∧ J' = J ∧ R' = R) ∧ ∃ v : Int32, r = some (.int v)) := by
  refine SP_of ⟨by decide, rfl⟩ (Nat.le_of_ble_eq_true rfl) ?_
  have e3298 : I (ad g 0) 1 = L := hI.1.2
  have b3299 := BT_get hI.1.1 0 1 2 (0) (0) (900) (by decide) 1 (by decide) (by decide)
  rw [e3298] at b3299
  refine WP_aload_n dX11_follow_0 rfl ?_
  refine WP_getr dX11_follow_1 fX11_307 rfl (ly_is hy 0 11 rfl) (rf hr 0 69 45 (by decide)) ?_
  refine WQ_bipush (100) (100) dX11_follow_4 rfl rfl (fun v3300 hv3300 => ?_)
  refine WP_iload_n dX11_follow_6 rfl ?_
  refine WQ_imulK (100) dX11_follow_7 hv3300 (by omega) (by omega) (fun v3301 hv3301 => ?_)
  refine WQ_bipush (10) (10) dX11_follow_8 rfl rfl (fun v3302 hv3302 => ?_)
  refine WP_iload_n dX11_follow_10 rfl ?_
  have jn30_3308 : ∀ (v3308 : Int32), 0 ≤ v3308.toInt → v3308.toInt ≤ 9 → WP g mX11_follow 30 [(0, .ref (ad g 0)), (1, .int k), (2, .int a), (3, .int b), (4, .int r)] [.int v3308, .int v3302, .int v3301, .ref (ad g 45)] I J R (fun r I' J' R' => (I' = I ∧ J' = J ∧ R' = R) ∧ ∃ v : Int32, r = some (.int v)) := by
    intro v3308 av3308 bv3308
    refine WQ_imulK (10) dX11_follow_30 hv3302 (by omega) (by omega) (fun v3310 hv3310 => ?_)
    refine WQ_iadd dX11_follow_31 (by omega) (by omega) (fun v3311 hv3311 => ?_)
    refine WP_iload_n dX11_follow_32 rfl ?_
    refine WQ_iadd dX11_follow_33 (by omega) (by omega) (fun v3312 hv3312 => ?_)
    refine WQ_ialdu dX11_follow_34 (ly_is hy 45 13 rfl) (ly_n hy 45 2100 rfl) (by omega) (by omega) (fun v3313 => ?_)
    exact WP_iret dX11_follow_35 rfl ⟨⟨rfl, rfl, rfl⟩, _, rfl⟩
  refine WQ_if_le 29 dX11_follow_11 rfl (fun c3313 => ?_) (fun c3313 => ?_)
  · refine WP_iload_n dX11_follow_29 rfl ?_
    exact WP_sub (fc rfl (fc rfl (fc rfl (fc rfl (fc rfl fn))))) (jn30_3308 a (by omega) (by omega))
  · refine WP_iload_n dX11_follow_14 rfl ?_
    refine WQ_iconst (1) (1) dX11_follow_15 rfl rfl (fun v3315 hv3315 => ?_)
    refine WQ_iadd dX11_follow_16 (by omega) (by omega) (fun v3316 hv3316 => ?_)
    refine WP_iload dX11_follow_17 rfl ?_
    refine WQ_iremu dX11_follow_19 (by omega) (fun v3317 => ?_)
    refine WX_if_ne 29 dX11_follow_20 rfl ?_ ?_
    · refine WP_iload_n dX11_follow_29 rfl ?_
      exact WP_sub (fc rfl (fc rfl (fc rfl (fc rfl (fc rfl fn))))) (jn30_3308 a (by omega) (by omega))
    · refine WP_iload_n dX11_follow_23 rfl ?_
      refine WQ_iconst (1) (1) dX11_follow_24 rfl rfl (fun v3318 hv3318 => ?_)
      refine WQ_isub dX11_follow_25 (by omega) (by omega) (fun v3319 hv3319 => ?_)
      refine WP_goto 30 dX11_follow_26 rfl ?_
      exact WP_sub (fc rfl (fc rfl (fc rfl (fc rfl (fc rfl fn))))) (jn30_3308 v3319 (by omega) (by omega))
set_option maxHeartbeats 4000000 in
set_option maxRecDepth 100000 in
theorem sm_offer {g : GG} {n : Int} {L : Int32} (hy : Ly g)  {I : pI} {J : pJ} {R : pR} (hr : Rf g R) (hI : MP g n L I) (k : Int32) (a : Int32) (b : Int32) (p : Int32) (q : Int32) (r : Int32) (k_lo : 1 ≤ k.toInt) (k_hi : k.toInt ≤ 20) (a_lo : 0 ≤ a.toInt) (a_hi : a.toInt ≤ 9) (b_lo : 0 ≤ b.toInt) (b_hi : b.toInt ≤ 9) (r_lo : 1 ≤ r.toInt) (r_hi : r.toInt ≤ 20) : SP g mX11_offer [.ref (ad g 0), .int k, .int a, .int b, .int p, .int q, .int r] I J R (fun r I' J' R' => (MP g n L I' ∧ R' = R) ∧ ∃ v : Int32, r = some (.int v)) := by
  refine SP_of ⟨by decide, rfl⟩ (Nat.le_of_ble_eq_true rfl) ?_
  have e3320 : I (ad g 0) 1 = L := hI.1.2
  have b3321 := BT_get hI.1.1 0 1 2 (0) (0) (900) (by decide) 1 (by decide) (by decide)
  rw [e3320] at b3321
  refine WP_aload_n dX11_offer_0 rfl ?_
  refine WP_iload_n dX11_offer_1 rfl ?_
  refine WQ_iconst (1) (1) dX11_offer_2 rfl rfl (fun v3322 hv3322 => ?_)
  refine WQ_isub dX11_offer_3 (by omega) (by omega) (fun v3323 hv3323 => ?_)
  refine WP_iload_n dX11_offer_4 rfl ?_
  refine WP_iload_n dX11_offer_5 rfl ?_
  refine WP_iload dX11_offer_6 rfl ?_
  refine WP_callV4 (k := 11) dX11_offer_8 ⟨⟨⟨by decide, by decide⟩, zX11_follow⟩, lX11_508, by decide, rfl, vX11_follow.1, vX11_follow.2⟩ (ly_is hy 0 11 rfl) (sm_follow hy hr hI v3323 a b r (by omega) (by omega) (by omega) (by omega) (by omega) (by omega) (by omega) (by omega)) (Nat.le_of_ble_eq_true rfl) ?_
  intro r Ia Ja Ra hq
  obtain ⟨⟨ea, eb, ec⟩, v3324, rfl⟩ := hq
  show WP _ _ _ _ (.int _ :: _) _ _ _ _
  rw [ea, eb, ec]
  clear ea eb ec Ia Ja Ra
  refine WP_istore (ls' := [(0, _), (1, _), (2, _), (3, _), (4, _), (5, _), (6, _), (7, _)]) dX11_offer_11 (by decide) rfl ?_
  refine WP_iload_n dX11_offer_13 rfl ?_
  have jn53_3340 : ∀ (v3340 : Int32), WP g mX11_offer 53 [(0, .ref (ad g 0)), (1, .int k), (2, .int a), (3, .int b), (4, .int p), (5, .int q), (6, .int r), (7, .int v3324)] [.int v3340] I J R (fun r I' J' R' => (MP g n L I' ∧ R' = R) ∧ ∃ v : Int32, r = some (.int v)) := by
    intro v3340 
    refine WP_istore (ls' := [(0, _), (1, _), (2, _), (3, _), (4, _), (5, _), (6, _), (7, _), (8, _)]) dX11_offer_53 (by decide) rfl ?_
    refine WP_iload_n dX11_offer_55 rfl ?_
    have jn95_3357 : ∀ (v3357 : Int32), WP g mX11_offer 95 [(0, .ref (ad g 0)), (1, .int k), (2, .int a), (3, .int b), (4, .int p), (5, .int q), (6, .int r), (7, .int v3324), (8, .int v3340)] [.int v3357] I J R (fun r I' J' R' => (MP g n L I' ∧ R' = R) ∧ ∃ v : Int32, r = some (.int v)) := by
      intro v3357 
      refine WP_istore (ls' := [(0, _), (1, _), (2, _), (3, _), (4, _), (5, _), (6, _), (7, _), (8, _), (9, _)]) dX11_offer_95 (by decide) rfl ?_
      refine WP_aload_n dX11_offer_97 rfl ?_
      refine WP_iload dX11_offer_98 rfl ?_
      refine WP_iload dX11_offer_100 rfl ?_
      have jn110_3361 : ∀ (v3361 : Int32), 0 ≤ v3361.toInt → v3361.toInt ≤ 1 → WP g mX11_offer 110 [(0, .ref (ad g 0)), (1, .int k), (2, .int a), (3, .int b), (4, .int p), (5, .int q), (6, .int r), (7, .int v3324), (8, .int v3340), (9, .int v3357)] [.int v3361, .ref (ad g 0)] I J R (fun r I' J' R' => (MP g n L I' ∧ R' = R) ∧ ∃ v : Int32, r = some (.int v)) := by
        intro v3361 av3361 bv3361
        refine WQ_putz dX11_offer_110 fX11_512 rfl rfl (by omega) (ly_is hy 0 11 rfl) (fun I3363 eI3363 => ?_)
        have hI3363 : MP g n L I3363 := by rw [eI3363]; exact (mp_w hy hI (c := 0) (mi_f hy hI.1 (c := 0) (0) (0) (1) (by decide) (Or.inr (by decide)) (by decide) (by omega) (by omega)) (by decide) (by decide) (Or.inr (by decide)))
        have e3364 : I3363 (ad g 0) 1 = L := by rw [eI3363, pp_ne _ _ (Or.inr (by decide))]; exact e3320
        have e3365 : I3363 (ad g 0) 70 = v3361 := by rw [eI3363, pp_self]
        clear eI3363
        refine WQ_iconst (0) (0) dX11_offer_113 rfl rfl (fun v3366 hv3366 => ?_)
        refine WP_iload dX11_offer_114 rfl ?_
        refine WP_iload dX11_offer_116 rfl ?_
        refine WQ_max dX11_offer_118 lX11_387 ⟨by decide, Nat.le_of_ble_eq_true rfl⟩ (fun v3367 av3367 bv3367 cv3367 => ?_)
        refine WQ_max dX11_offer_121 lX11_387 ⟨by decide, Nat.le_of_ble_eq_true rfl⟩ (fun v3368 av3368 bv3368 cv3368 => ?_)
        exact WP_iret dX11_offer_124 rfl ⟨⟨hI3363, rfl⟩, _, rfl⟩
      refine WX_icmp_lt 109 dX11_offer_102 rfl ?_ ?_
      · refine WQ_iconst (0) (0) dX11_offer_109 rfl rfl (fun v3369 hv3369 => ?_)
        exact WP_sub (fc rfl (fc rfl (fc rfl (fc rfl (fc rfl (fc rfl (fc rfl (fc rfl (fc rfl (fc rfl fn)))))))))) (jn110_3361 v3369 (by omega) (by omega))
      · refine WQ_iconst (1) (1) dX11_offer_105 rfl rfl (fun v3370 hv3370 => ?_)
        refine WP_goto 110 dX11_offer_106 rfl ?_
        exact WP_sub (fc rfl (fc rfl (fc rfl (fc rfl (fc rfl (fc rfl (fc rfl (fc rfl (fc rfl (fc rfl fn)))))))))) (jn110_3361 v3370 (by omega) (by omega))
    refine WQ_if_ne 63 dX11_offer_56 rfl (fun c3370 => ?_) (fun c3370 => ?_)
    · refine WP_iload dX11_offer_63 rfl ?_
      refine WQ_sipush (1000) (1000) dX11_offer_65 rfl rfl (fun v3372 hv3372 => ?_)
      refine WP_aload_n dX11_offer_68 rfl ?_
      refine WP_iload_n dX11_offer_69 rfl ?_
      refine WQ_iconst (1) (1) dX11_offer_70 rfl rfl (fun v3373 hv3373 => ?_)
      refine WQ_isub dX11_offer_71 (by omega) (by omega) (fun v3374 hv3374 => ?_)
      refine WP_iload_n dX11_offer_72 rfl ?_
      refine WP_iload_n dX11_offer_73 rfl ?_
      refine WQ_iconst (1) (1) dX11_offer_74 rfl rfl (fun v3375 hv3375 => ?_)
      refine WQ_isub dX11_offer_75 (by omega) (by omega) (fun v3376 hv3376 => ?_)
      refine WP_iload dX11_offer_76 rfl ?_
      refine WP_callV4 (k := 11) dX11_offer_78 ⟨⟨⟨by decide, by decide⟩, zX11_follow⟩, lX11_508, by decide, rfl, vX11_follow.1, vX11_follow.2⟩ (ly_is hy 0 11 rfl) (sm_follow hy hr hI v3374 a v3376 r (by omega) (by omega) (by omega) (by omega) (by omega) (by omega) (by omega) (by omega)) (Nat.le_of_ble_eq_true rfl) ?_
      intro r Ia Ja Ra hq
      obtain ⟨⟨ea, eb, ec⟩, v3377, rfl⟩ := hq
      show WP _ _ _ _ (.int _ :: _) _ _ _ _
      rw [ea, eb, ec]
      clear ea eb ec Ia Ja Ra
      refine WQ_iaddu dX11_offer_81 (fun v3378 => ?_)
      refine WQ_imulu dX11_offer_82 (fun v3379 => ?_)
      refine WQ_bipush (100) (100) dX11_offer_83 rfl rfl (fun v3380 hv3380 => ?_)
      refine WP_iload dX11_offer_85 rfl ?_
      refine WQ_isubu dX11_offer_87 (fun v3381 => ?_)
      refine WP_iload dX11_offer_88 rfl ?_
      refine WQ_imulu dX11_offer_90 (fun v3382 => ?_)
      refine WQ_iaddu dX11_offer_91 (fun v3383 => ?_)
      refine WQ_bipush (100) (100) dX11_offer_92 rfl rfl (fun v3384 hv3384 => ?_)
      refine WQ_idivu dX11_offer_94 (by omega) (fun v3385 => ?_)
      exact WP_sub (fc rfl (fc rfl (fc rfl (fc rfl (fc rfl (fc rfl (fc rfl (fc rfl (fc rfl fn))))))))) (jn95_3357 v3385)
    · refine WQ_iconst (-1) (-1) dX11_offer_59 rfl rfl (fun v3386 hv3386 => ?_)
      refine WP_goto 95 dX11_offer_60 rfl ?_
      exact WP_sub (fc rfl (fc rfl (fc rfl (fc rfl (fc rfl (fc rfl (fc rfl (fc rfl (fc rfl fn))))))))) (jn95_3357 v3386)
  refine WQ_if_ne 21 dX11_offer_14 rfl (fun c3386 => ?_) (fun c3386 => ?_)
  · refine WP_iload dX11_offer_21 rfl ?_
    refine WQ_sipush (1000) (1000) dX11_offer_23 rfl rfl (fun v3388 hv3388 => ?_)
    refine WP_aload_n dX11_offer_26 rfl ?_
    refine WP_iload_n dX11_offer_27 rfl ?_
    refine WQ_iconst (1) (1) dX11_offer_28 rfl rfl (fun v3389 hv3389 => ?_)
    refine WQ_isub dX11_offer_29 (by omega) (by omega) (fun v3390 hv3390 => ?_)
    refine WP_iload_n dX11_offer_30 rfl ?_
    refine WQ_iconst (1) (1) dX11_offer_31 rfl rfl (fun v3391 hv3391 => ?_)
    refine WQ_isub dX11_offer_32 (by omega) (by omega) (fun v3392 hv3392 => ?_)
    refine WP_iload_n dX11_offer_33 rfl ?_
    refine WP_iload dX11_offer_34 rfl ?_
    refine WP_callV4 (k := 11) dX11_offer_36 ⟨⟨⟨by decide, by decide⟩, zX11_follow⟩, lX11_508, by decide, rfl, vX11_follow.1, vX11_follow.2⟩ (ly_is hy 0 11 rfl) (sm_follow hy hr hI v3390 v3392 b r (by omega) (by omega) (by omega) (by omega) (by omega) (by omega) (by omega) (by omega)) (Nat.le_of_ble_eq_true rfl) ?_
    intro r Ia Ja Ra hq
    obtain ⟨⟨ea, eb, ec⟩, v3393, rfl⟩ := hq
    show WP _ _ _ _ (.int _ :: _) _ _ _ _
    rw [ea, eb, ec]
    clear ea eb ec Ia Ja Ra
    refine WQ_iaddu dX11_offer_39 (fun v3394 => ?_)
    refine WQ_imulu dX11_offer_40 (fun v3395 => ?_)
    refine WQ_bipush (100) (100) dX11_offer_41 rfl rfl (fun v3396 hv3396 => ?_)
    refine WP_iload dX11_offer_43 rfl ?_
    refine WQ_isubu dX11_offer_45 (fun v3397 => ?_)
    refine WP_iload dX11_offer_46 rfl ?_
    refine WQ_imulu dX11_offer_48 (fun v3398 => ?_)
    refine WQ_iaddu dX11_offer_49 (fun v3399 => ?_)
    refine WQ_bipush (100) (100) dX11_offer_50 rfl rfl (fun v3400 hv3400 => ?_)
    refine WQ_idivu dX11_offer_52 (by omega) (fun v3401 => ?_)
    exact WP_sub (fc rfl (fc rfl (fc rfl (fc rfl (fc rfl (fc rfl (fc rfl (fc rfl fn)))))))) (jn53_3340 v3401)
  · refine WQ_iconst (-1) (-1) dX11_offer_17 rfl rfl (fun v3402 hv3402 => ?_)
    refine WP_goto 53 dX11_offer_18 rfl ?_
    exact WP_sub (fc rfl (fc rfl (fc rfl (fc rfl (fc rfl (fc rfl (fc rfl (fc rfl fn)))))))) (jn53_3340 v3402)
set_option maxHeartbeats 4000000 in
set_option maxRecDepth 100000 in
theorem sm_two {g : GG} {n : Int} {L : Int32} (hy : Ly g)  {I : pI} {J : pJ} {R : pR} (hr : Rf g R) (hI : MP g n L I) (a : Int32) (b : Int32) (p : Int32) (q : Int32) (k : Int32) (r : Int32) (wh : Int32)  : SP g mX11_two [.ref (ad g 0), .int a, .int b, .int p, .int q, .int k, .int r, .int wh] I J R (fun r I' J' R' => (MP g n L I' ∧ R' = R) ∧ ∃ v : Int32, r = some (.int v)) := by
  refine SP_of ⟨by decide, rfl⟩ (Nat.le_of_ble_eq_true rfl) ?_
  have e3403 : I (ad g 0) 1 = L := hI.1.2
  have b3404 := BT_get hI.1.1 0 1 2 (0) (0) (900) (by decide) 1 (by decide) (by decide)
  rw [e3403] at b3404
  refine WP_iload_n dX11_two_0 rfl ?_
  refine WQ_i2l dX11_two_1 (fun l3405 hl3405 => ?_)
  refine WP_lconst (0) dX11_two_2 rfl ?_
  obtain ⟨l3406, hl3406, el3406⟩ : ∃ v : Int64, v.toInt = 0 ∧ (0 : Int64) = v := ⟨_, rfl, rfl⟩
  rw [el3406]; clear el3406
  refine WP_ldc2 (9) dX11_two_3 klX11_515 ?_
  obtain ⟨l3407, hl3407, el3407⟩ : ∃ v : Int64, v.toInt = (9) ∧ ((9) : Int64) = v := ⟨_, rfl, rfl⟩
  rw [el3407]; clear el3407
  refine WP_callS3 dX11_two_6 ⟨⟨⟨by decide, by decide⟩, zX11_in⟩, lX11_52, tX11_in⟩ (sm_in hy hr hI l3405 l3406 l3407 ) (Nat.le_of_ble_eq_true rfl) ?_
  intro r Ia Ja Ra hq
  obtain ⟨⟨ea, eb, ec⟩, v3408, rfl, av3408, bv3408, cv3408⟩ := hq
  show WP _ _ _ _ (.int _ :: _) _ _ _ _
  rw [ea, eb, ec]
  clear ea eb ec Ia Ja Ra
  refine WQ_if_eq 86 dX11_two_9 rfl (fun c3408 => ?_) (fun c3408 => ?_)
  · refine WQ_bipush (-2) (-2) dX11_two_86 rfl rfl (fun v3410 hv3410 => ?_)
    exact WP_iret dX11_two_88 rfl ⟨⟨hI, rfl⟩, _, rfl⟩
  · refine WP_iload_n dX11_two_12 rfl ?_
    refine WQ_i2l dX11_two_13 (fun l3411 hl3411 => ?_)
    refine WP_lconst (0) dX11_two_14 rfl ?_
    obtain ⟨l3412, hl3412, el3412⟩ : ∃ v : Int64, v.toInt = 0 ∧ (0 : Int64) = v := ⟨_, rfl, rfl⟩
    rw [el3412]; clear el3412
    refine WP_ldc2 (9) dX11_two_15 klX11_515 ?_
    obtain ⟨l3413, hl3413, el3413⟩ : ∃ v : Int64, v.toInt = (9) ∧ ((9) : Int64) = v := ⟨_, rfl, rfl⟩
    rw [el3413]; clear el3413
    refine WP_callS3 dX11_two_18 ⟨⟨⟨by decide, by decide⟩, zX11_in⟩, lX11_52, tX11_in⟩ (sm_in hy hr hI l3411 l3412 l3413 ) (Nat.le_of_ble_eq_true rfl) ?_
    intro r Ia Ja Ra hq
    obtain ⟨⟨ea, eb, ec⟩, v3414, rfl, av3414, bv3414, cv3414⟩ := hq
    show WP _ _ _ _ (.int _ :: _) _ _ _ _
    rw [ea, eb, ec]
    clear ea eb ec Ia Ja Ra
    refine WQ_if_eq 86 dX11_two_21 rfl (fun c3414 => ?_) (fun c3414 => ?_)
    · refine WQ_bipush (-2) (-2) dX11_two_86 rfl rfl (fun v3416 hv3416 => ?_)
      exact WP_iret dX11_two_88 rfl ⟨⟨hI, rfl⟩, _, rfl⟩
    · refine WP_iload_n dX11_two_24 rfl ?_
      refine WQ_i2l dX11_two_25 (fun l3417 hl3417 => ?_)
      refine WP_lconst (0) dX11_two_26 rfl ?_
      obtain ⟨l3418, hl3418, el3418⟩ : ∃ v : Int64, v.toInt = 0 ∧ (0 : Int64) = v := ⟨_, rfl, rfl⟩
      rw [el3418]; clear el3418
      refine WP_ldc2 (100) dX11_two_27 klX11_517 ?_
      obtain ⟨l3419, hl3419, el3419⟩ : ∃ v : Int64, v.toInt = (100) ∧ ((100) : Int64) = v := ⟨_, rfl, rfl⟩
      rw [el3419]; clear el3419
      refine WP_callS3 dX11_two_30 ⟨⟨⟨by decide, by decide⟩, zX11_in⟩, lX11_52, tX11_in⟩ (sm_in hy hr hI l3417 l3418 l3419 ) (Nat.le_of_ble_eq_true rfl) ?_
      intro r Ia Ja Ra hq
      obtain ⟨⟨ea, eb, ec⟩, v3420, rfl, av3420, bv3420, cv3420⟩ := hq
      show WP _ _ _ _ (.int _ :: _) _ _ _ _
      rw [ea, eb, ec]
      clear ea eb ec Ia Ja Ra
      refine WQ_if_eq 86 dX11_two_33 rfl (fun c3420 => ?_) (fun c3420 => ?_)
      · refine WQ_bipush (-2) (-2) dX11_two_86 rfl rfl (fun v3422 hv3422 => ?_)
        exact WP_iret dX11_two_88 rfl ⟨⟨hI, rfl⟩, _, rfl⟩
      · refine WP_iload dX11_two_36 rfl ?_
        refine WQ_i2l dX11_two_38 (fun l3423 hl3423 => ?_)
        refine WP_lconst (0) dX11_two_39 rfl ?_
        obtain ⟨l3424, hl3424, el3424⟩ : ∃ v : Int64, v.toInt = 0 ∧ (0 : Int64) = v := ⟨_, rfl, rfl⟩
        rw [el3424]; clear el3424
        refine WP_ldc2 (100) dX11_two_40 klX11_517 ?_
        obtain ⟨l3425, hl3425, el3425⟩ : ∃ v : Int64, v.toInt = (100) ∧ ((100) : Int64) = v := ⟨_, rfl, rfl⟩
        rw [el3425]; clear el3425
        refine WP_callS3 dX11_two_43 ⟨⟨⟨by decide, by decide⟩, zX11_in⟩, lX11_52, tX11_in⟩ (sm_in hy hr hI l3423 l3424 l3425 ) (Nat.le_of_ble_eq_true rfl) ?_
        intro r Ia Ja Ra hq
        obtain ⟨⟨ea, eb, ec⟩, v3426, rfl, av3426, bv3426, cv3426⟩ := hq
        show WP _ _ _ _ (.int _ :: _) _ _ _ _
        rw [ea, eb, ec]
        clear ea eb ec Ia Ja Ra
        refine WQ_if_eq 86 dX11_two_46 rfl (fun c3426 => ?_) (fun c3426 => ?_)
        · refine WQ_bipush (-2) (-2) dX11_two_86 rfl rfl (fun v3428 hv3428 => ?_)
          exact WP_iret dX11_two_88 rfl ⟨⟨hI, rfl⟩, _, rfl⟩
        · refine WP_iload dX11_two_49 rfl ?_
          refine WQ_i2l dX11_two_51 (fun l3429 hl3429 => ?_)
          refine WP_lconst (0) dX11_two_52 rfl ?_
          obtain ⟨l3430, hl3430, el3430⟩ : ∃ v : Int64, v.toInt = 0 ∧ (0 : Int64) = v := ⟨_, rfl, rfl⟩
          rw [el3430]; clear el3430
          refine WP_ldc2 (20) dX11_two_53 klX11_357 ?_
          obtain ⟨l3431, hl3431, el3431⟩ : ∃ v : Int64, v.toInt = (20) ∧ ((20) : Int64) = v := ⟨_, rfl, rfl⟩
          rw [el3431]; clear el3431
          refine WP_callS3 dX11_two_56 ⟨⟨⟨by decide, by decide⟩, zX11_in⟩, lX11_52, tX11_in⟩ (sm_in hy hr hI l3429 l3430 l3431 ) (Nat.le_of_ble_eq_true rfl) ?_
          intro r Ia Ja Ra hq
          obtain ⟨⟨ea, eb, ec⟩, v3432, rfl, av3432, bv3432, cv3432⟩ := hq
          show WP _ _ _ _ (.int _ :: _) _ _ _ _
          rw [ea, eb, ec]
          clear ea eb ec Ia Ja Ra
          refine WQ_if_eq 86 dX11_two_59 rfl (fun c3432 => ?_) (fun c3432 => ?_)
          · refine WQ_bipush (-2) (-2) dX11_two_86 rfl rfl (fun v3434 hv3434 => ?_)
            exact WP_iret dX11_two_88 rfl ⟨⟨hI, rfl⟩, _, rfl⟩
          · refine WP_iload dX11_two_62 rfl ?_
            refine WQ_i2l dX11_two_64 (fun l3435 hl3435 => ?_)
            refine WP_lconst (1) dX11_two_65 rfl ?_
            obtain ⟨l3436, hl3436, el3436⟩ : ∃ v : Int64, v.toInt = 1 ∧ (1 : Int64) = v := ⟨_, rfl, rfl⟩
            rw [el3436]; clear el3436
            refine WP_ldc2 (20) dX11_two_66 klX11_357 ?_
            obtain ⟨l3437, hl3437, el3437⟩ : ∃ v : Int64, v.toInt = (20) ∧ ((20) : Int64) = v := ⟨_, rfl, rfl⟩
            rw [el3437]; clear el3437
            refine WP_callS3 dX11_two_69 ⟨⟨⟨by decide, by decide⟩, zX11_in⟩, lX11_52, tX11_in⟩ (sm_in hy hr hI l3435 l3436 l3437 ) (Nat.le_of_ble_eq_true rfl) ?_
            intro r Ia Ja Ra hq
            obtain ⟨⟨ea, eb, ec⟩, v3438, rfl, av3438, bv3438, cv3438⟩ := hq
            show WP _ _ _ _ (.int _ :: _) _ _ _ _
            rw [ea, eb, ec]
            clear ea eb ec Ia Ja Ra
            refine WQ_if_eq 86 dX11_two_72 rfl (fun c3438 => ?_) (fun c3438 => ?_)
            · refine WQ_bipush (-2) (-2) dX11_two_86 rfl rfl (fun v3440 hv3440 => ?_)
              exact WP_iret dX11_two_88 rfl ⟨⟨hI, rfl⟩, _, rfl⟩
            · refine WP_iload dX11_two_75 rfl ?_
              refine WQ_i2l dX11_two_77 (fun l3441 hl3441 => ?_)
              refine WP_lconst (0) dX11_two_78 rfl ?_
              obtain ⟨l3442, hl3442, el3442⟩ : ∃ v : Int64, v.toInt = 0 ∧ (0 : Int64) = v := ⟨_, rfl, rfl⟩
              rw [el3442]; clear el3442
              refine WP_lconst (1) dX11_two_79 rfl ?_
              obtain ⟨l3443, hl3443, el3443⟩ : ∃ v : Int64, v.toInt = 1 ∧ (1 : Int64) = v := ⟨_, rfl, rfl⟩
              rw [el3443]; clear el3443
              refine WP_callS3 dX11_two_80 ⟨⟨⟨by decide, by decide⟩, zX11_in⟩, lX11_52, tX11_in⟩ (sm_in hy hr hI l3441 l3442 l3443 ) (Nat.le_of_ble_eq_true rfl) ?_
              intro r Ia Ja Ra hq
              obtain ⟨⟨ea, eb, ec⟩, v3444, rfl, av3444, bv3444, cv3444⟩ := hq
              show WP _ _ _ _ (.int _ :: _) _ _ _ _
              rw [ea, eb, ec]
              clear ea eb ec Ia Ja Ra
              refine WQ_if_ne 89 dX11_two_83 rfl (fun c3444 => ?_) (fun c3444 => ?_)
              · refine WQ_iconst (0) (0) dX11_two_89 rfl rfl (fun v3446 hv3446 => ?_)
                refine WP_istore (ls' := [(0, _), (1, _), (2, _), (3, _), (4, _), (5, _), (6, _), (7, _), (8, _)]) dX11_two_90 (by decide) rfl ?_
                have lp92_3449 : ∀ (mz : Nat) (i3447 : Int32) (I3448 : pI) (J3449 : pJ), MP g n L I3448 → 0 ≤ i3447.toInt → i3447.toInt ≤ 100 → (101 - i3447.toInt).toNat < mz → WP g mX11_two 92 [(0, .ref (ad g 0)), (1, .int a), (2, .int b), (3, .int p), (4, .int q), (5, .int k), (6, .int r), (7, .int wh), (8, .int i3447)] [] I3448 J3449 R (fun r I' J' R' => (MP g n L I' ∧ R' = R) ∧ ∃ v : Int32, r = some (.int v)) := by
                  intro mz
                  induction mz with
                  | zero =>
                    intro i3447 I3448 J3449 hI3448 ai3447 bi3447 hmlp92_3449
                    exact absurd hmlp92_3449 (Nat.not_lt_zero _)
                  | succ mz ihlp92_3449 =>
                    intro i3447 I3448 J3449 hI3448 ai3447 bi3447 hmlp92_3449
                    have e3451 : I3448 (ad g 0) 1 = L := hI3448.1.2
                    have b3452 := BT_get hI3448.1.1 0 1 2 (0) (0) (900) (by decide) 1 (by decide) (by decide)
                    rw [e3451] at b3452
                    refine WP_iload dX11_two_92 rfl ?_
                    refine WQ_bipush (100) (100) dX11_two_94 rfl rfl (fun v3453 hv3453 => ?_)
                    refine WQ_icmp_ge 113 dX11_two_96 rfl (fun c3453 => ?_) (fun c3453 => ?_)
                    · refine WQ_iconst (1) (1) dX11_two_113 rfl rfl (fun v3455 hv3455 => ?_)
                      refine WP_istore (ls' := [(0, _), (1, _), (2, _), (3, _), (4, _), (5, _), (6, _), (7, _), (8, _)]) dX11_two_114 (by decide) rfl ?_
                      have lp116_3458 : ∀ (mz : Nat) (i3456 : Int32) (I3457 : pI) (J3458 : pJ), MP g n L I3457 → 1 ≤ i3456.toInt → i3456.toInt ≤ 21 → (22 - i3456.toInt).toNat < mz → WP g mX11_two 116 [(0, .ref (ad g 0)), (1, .int a), (2, .int b), (3, .int p), (4, .int q), (5, .int k), (6, .int r), (7, .int wh), (8, .int i3456)] [] I3457 J3458 R (fun r I' J' R' => (MP g n L I' ∧ R' = R) ∧ ∃ v : Int32, r = some (.int v)) := by
                        intro mz
                        induction mz with
                        | zero =>
                          intro i3456 I3457 J3458 hI3457 ai3456 bi3456 hmlp116_3458
                          exact absurd hmlp116_3458 (Nat.not_lt_zero _)
                        | succ mz ihlp116_3458 =>
                          intro i3456 I3457 J3458 hI3457 ai3456 bi3456 hmlp116_3458
                          have e3460 : I3457 (ad g 0) 1 = L := hI3457.1.2
                          have b3461 := BT_get hI3457.1.1 0 1 2 (0) (0) (900) (by decide) 1 (by decide) (by decide)
                          rw [e3460] at b3461
                          refine WP_iload dX11_two_116 rfl ?_
                          refine WP_iload dX11_two_118 rfl ?_
                          refine WQ_icmp_gt 179 dX11_two_120 rfl (fun c3461 => ?_) (fun c3461 => ?_)
                          · refine WP_iload dX11_two_179 rfl ?_
                            refine WQ_if_ne 202 dX11_two_181 rfl (fun c3462 => ?_) (fun c3462 => ?_)
                            · refine WP_iload dX11_two_202 rfl ?_
                              refine WQ_if_eq 213 dX11_two_204 rfl (fun c3463 => ?_) (fun c3463 => ?_)
                              · refine WQ_iconst (-1) (-1) dX11_two_213 rfl rfl (fun v3465 hv3465 => ?_)
                                exact WP_iret dX11_two_214 rfl ⟨⟨hI3457, rfl⟩, _, rfl⟩
                              · refine WP_iload_n dX11_two_207 rfl ?_
                                refine WP_iload_n dX11_two_208 rfl ?_
                                refine WQ_iadd dX11_two_209 (by omega) (by omega) (fun v3466 hv3466 => ?_)
                                refine WQ_if_ne 215 dX11_two_210 rfl (fun c3466 => ?_) (fun c3466 => ?_)
                                · refine WP_aload_n dX11_two_215 rfl ?_
                                  refine WP_iload dX11_two_216 rfl ?_
                                  refine WP_iload_n dX11_two_218 rfl ?_
                                  refine WP_iload_n dX11_two_219 rfl ?_
                                  refine WP_iload_n dX11_two_220 rfl ?_
                                  refine WP_iload dX11_two_221 rfl ?_
                                  refine WP_iload dX11_two_223 rfl ?_
                                  refine WP_callV6 (k := 11) dX11_two_225 ⟨⟨⟨by decide, by decide⟩, zX11_offer⟩, lX11_519, by decide, rfl, vX11_offer.1, vX11_offer.2⟩ (ly_is hy 0 11 rfl) (sm_offer hy hr hI3457 k a b p q r (by omega) (by omega) (by omega) (by omega) (by omega) (by omega)   (by omega) (by omega)) (Nat.le_of_ble_eq_true rfl) ?_
                                  intro r I3468 J3469 Ra hq
                                  obtain ⟨⟨hI3468, ec⟩, v3470, rfl⟩ := hq
                                  show WP _ _ _ _ (.int _ :: _) _ _ _ _
                                  rw [ec]
                                  clear ec Ra
                                  have e3471 : I3468 (ad g 0) 1 = L := hI3468.1.2
                                  have b3472 := BT_get hI3468.1.1 0 1 2 (0) (0) (900) (by decide) 1 (by decide) (by decide)
                                  rw [e3471] at b3472
                                  refine WP_pop dX11_two_228 rfl ?_
                                  refine WP_aload_n dX11_two_229 rfl ?_
                                  refine WQ_geti dX11_two_230 fX11_512 rfl (ly_is hy 0 11 rfl) (BT_get hI3468.1.1 0 70 71 (0) (0) (1) (by decide) 70 (by decide) (by decide)) (fun v3473 ev3473 av3473 bv3473 => ?_)
                                  have jn241_3476 : ∀ (v3476 : Int32), 0 ≤ v3476.toInt → v3476.toInt ≤ 1 → WP g mX11_two 241 [(0, .ref (ad g 0)), (1, .int a), (2, .int b), (3, .int p), (4, .int q), (5, .int k), (6, .int r), (7, .int wh), (8, .int i3456)] [.int v3476] I3468 J3469 R (fun r I' J' R' => (MP g n L I' ∧ R' = R) ∧ ∃ v : Int32, r = some (.int v)) := by
                                    intro v3476 av3476 bv3476
                                    exact WP_iret dX11_two_241 rfl ⟨⟨hI3468, rfl⟩, _, rfl⟩
                                  refine WQ_if_eq 240 dX11_two_233 rfl (fun c3477 => ?_) (fun c3477 => ?_)
                                  · refine WQ_iconst (1) (1) dX11_two_240 rfl rfl (fun v3479 hv3479 => ?_)
                                    exact WP_sub (fc rfl (fc rfl (fc rfl (fc rfl (fc rfl (fc rfl (fc rfl (fc rfl (fc rfl fn))))))))) (jn241_3476 v3479 (by omega) (by omega))
                                  · refine WQ_iconst (0) (0) dX11_two_236 rfl rfl (fun v3480 hv3480 => ?_)
                                    refine WP_goto 241 dX11_two_237 rfl ?_
                                    exact WP_sub (fc rfl (fc rfl (fc rfl (fc rfl (fc rfl (fc rfl (fc rfl (fc rfl (fc rfl fn))))))))) (jn241_3476 v3480 (by omega) (by omega))
                                · refine WQ_iconst (-1) (-1) dX11_two_213 rfl rfl (fun v3481 hv3481 => ?_)
                                  exact WP_iret dX11_two_214 rfl ⟨⟨hI3457, rfl⟩, _, rfl⟩
                            · refine WP_aload_n dX11_two_184 rfl ?_
                              refine WP_getr dX11_two_185 fX11_307 rfl (ly_is hy 0 11 rfl) (rf hr 0 69 45 (by decide)) ?_
                              refine WQ_bipush (100) (100) dX11_two_188 rfl rfl (fun v3482 hv3482 => ?_)
                              refine WP_iload dX11_two_190 rfl ?_
                              refine WQ_imulK (100) dX11_two_192 hv3482 (by omega) (by omega) (fun v3483 hv3483 => ?_)
                              refine WQ_bipush (10) (10) dX11_two_193 rfl rfl (fun v3484 hv3484 => ?_)
                              refine WP_iload_n dX11_two_195 rfl ?_
                              refine WQ_imulK (10) dX11_two_196 hv3484 (by omega) (by omega) (fun v3485 hv3485 => ?_)
                              refine WQ_iadd dX11_two_197 (by omega) (by omega) (fun v3486 hv3486 => ?_)
                              refine WP_iload_n dX11_two_198 rfl ?_
                              refine WQ_iadd dX11_two_199 (by omega) (by omega) (fun v3487 hv3487 => ?_)
                              refine WQ_ialdu dX11_two_200 (ly_is hy 45 13 rfl) (ly_n hy 45 2100 rfl) (by omega) (by omega) (fun v3488 => ?_)
                              exact WP_iret dX11_two_201 rfl ⟨⟨hI3457, rfl⟩, _, rfl⟩
                          · refine WQ_iconst (0) (0) dX11_two_123 rfl rfl (fun v3489 hv3489 => ?_)
                            refine WP_istore (ls' := [(0, _), (1, _), (2, _), (3, _), (4, _), (5, _), (6, _), (7, _), (8, _), (9, _)]) dX11_two_124 (by decide) rfl ?_
                            have lp126_3492 : ∀ (mz : Nat) (i3490 : Int32) (I3491 : pI) (J3492 : pJ), MP g n L I3491 → 0 ≤ i3490.toInt → i3490.toInt ≤ 100 → (101 - i3490.toInt).toNat < mz → WP g mX11_two 126 [(0, .ref (ad g 0)), (1, .int a), (2, .int b), (3, .int p), (4, .int q), (5, .int k), (6, .int r), (7, .int wh), (8, .int i3456), (9, .int i3490)] [] I3491 J3492 R (fun r I' J' R' => (MP g n L I' ∧ R' = R) ∧ ∃ v : Int32, r = some (.int v)) := by
                              intro mz
                              induction mz with
                              | zero =>
                                intro i3490 I3491 J3492 hI3491 ai3490 bi3490 hmlp126_3492
                                exact absurd hmlp126_3492 (Nat.not_lt_zero _)
                              | succ mz ihlp126_3492 =>
                                intro i3490 I3491 J3492 hI3491 ai3490 bi3490 hmlp126_3492
                                have e3494 : I3491 (ad g 0) 1 = L := hI3491.1.2
                                have b3495 := BT_get hI3491.1.1 0 1 2 (0) (0) (900) (by decide) 1 (by decide) (by decide)
                                rw [e3494] at b3495
                                refine WP_iload dX11_two_126 rfl ?_
                                refine WQ_bipush (100) (100) dX11_two_128 rfl rfl (fun v3496 hv3496 => ?_)
                                refine WQ_icmp_ge 173 dX11_two_130 rfl (fun c3496 => ?_) (fun c3496 => ?_)
                                · refine WP_iinc (ls' := [(0, _), (1, _), (2, _), (3, _), (4, _), (5, _), (6, _), (7, _), (8, _), (9, _)]) dX11_two_173 rfl (by decide) rfl ?_
                                  have hv3498 : (i3456 + Int32.ofInt (1)).toInt = i3456.toInt + (1) := ia_n rfl (by omega) (by omega)
                                  generalize i3456 + Int32.ofInt (1) = v3498 at hv3498 ⊢
                                  refine WP_goto 116 dX11_two_176 rfl ?_
                                  exact WP_sub (fc rfl (fc rfl (fc rfl (fc rfl (fc rfl (fc rfl (fc rfl (fc rfl (fc rfl fn))))))))) (ihlp116_3458 v3498 I3491 J3492 hI3491 (by omega) (by omega) (by omega))
                                · refine WP_aload_n dX11_two_133 rfl ?_
                                  refine WP_getr dX11_two_134 fX11_307 rfl (ly_is hy 0 11 rfl) (rf hr 0 69 45 (by decide)) ?_
                                  refine WQ_bipush (100) (100) dX11_two_137 rfl rfl (fun v3499 hv3499 => ?_)
                                  refine WP_iload dX11_two_139 rfl ?_
                                  refine WQ_imulK (100) dX11_two_141 hv3499 (by omega) (by omega) (fun v3500 hv3500 => ?_)
                                  refine WP_iload dX11_two_142 rfl ?_
                                  refine WQ_iadd dX11_two_144 (by omega) (by omega) (fun v3501 hv3501 => ?_)
                                  refine WP_aload_n dX11_two_145 rfl ?_
                                  refine WP_iload dX11_two_146 rfl ?_
                                  refine WP_iload dX11_two_148 rfl ?_
                                  refine WQ_bipush (10) (10) dX11_two_150 rfl rfl (fun v3502 hv3502 => ?_)
                                  refine WQ_idivk (10) dX11_two_152 hv3502 (by decide) (by omega) (fun v3503 hv3503 => ?_)
                                  refine WP_iload dX11_two_153 rfl ?_
                                  refine WQ_bipush (10) (10) dX11_two_155 rfl rfl (fun v3504 hv3504 => ?_)
                                  refine WQ_iremk (10) dX11_two_157 hv3504 (by decide) (by omega) (fun v3505 hv3505 => ?_)
                                  refine WP_iload_n dX11_two_158 rfl ?_
                                  refine WP_iload dX11_two_159 rfl ?_
                                  refine WP_iload dX11_two_161 rfl ?_
                                  refine WP_callV6 (k := 11) dX11_two_163 ⟨⟨⟨by decide, by decide⟩, zX11_offer⟩, lX11_519, by decide, rfl, vX11_offer.1, vX11_offer.2⟩ (ly_is hy 0 11 rfl) (sm_offer hy hr hI3491 i3456 v3503 v3505 p q r (by omega) (by omega) (by omega) (by omega) (by omega) (by omega)   (by omega) (by omega)) (Nat.le_of_ble_eq_true rfl) ?_
                                  intro r I3506 J3507 Ra hq
                                  obtain ⟨⟨hI3506, ec⟩, v3508, rfl⟩ := hq
                                  show WP _ _ _ _ (.int _ :: _) _ _ _ _
                                  rw [ec]
                                  clear ec Ra
                                  have e3509 : I3506 (ad g 0) 1 = L := hI3506.1.2
                                  have b3510 := BT_get hI3506.1.1 0 1 2 (0) (0) (900) (by decide) 1 (by decide) (by decide)
                                  rw [e3509] at b3510
                                  refine WQ_iast dX11_two_166 (ly_is hy 45 13 rfl) (ly_n hy 45 2100 rfl) (by omega) (by omega) (fun I3511 eI3511 => ?_)
                                  have hI3511 : MP g n L I3511 := by rw [eI3511]; exact (mp_w hy hI3506 (c := 45) (mi_r0 hy hI3506.1 (c := 45) (by decide) (Or.inl (by decide)) (by decide)) (by decide) (by decide) (Or.inl (by decide)))
                                  have e3512 : I3511 (ad g 0) 1 = L := by rw [eI3511, pp_ne _ _ (Or.inl (ly_ne hy (by decide) (by decide) (by decide)))]; exact e3509
                                  clear eI3511
                                  refine WP_iinc (ls' := [(0, _), (1, _), (2, _), (3, _), (4, _), (5, _), (6, _), (7, _), (8, _), (9, _)]) dX11_two_167 rfl (by decide) rfl ?_
                                  have hv3513 : (i3490 + Int32.ofInt (1)).toInt = i3490.toInt + (1) := ia_n rfl (by omega) (by omega)
                                  generalize i3490 + Int32.ofInt (1) = v3513 at hv3513 ⊢
                                  refine WP_goto 126 dX11_two_170 rfl ?_
                                  exact WP_sub (fc rfl (fc rfl (fc rfl (fc rfl (fc rfl (fc rfl (fc rfl (fc rfl (fc rfl (fc rfl fn)))))))))) (ihlp126_3492 v3513 I3511 J3507 hI3511 (by omega) (by omega) (by omega))
                            exact WP_sub (fc rfl (fc rfl (fc rfl (fc rfl (fc rfl (fc rfl (fc rfl (fc rfl (fc rfl (fc rfl fn)))))))))) (lp126_3492 _ v3489 I3457 J3458 hI3457 (by omega) (by omega) (Nat.lt_succ_self _))
                      exact WP_sub (fc rfl (fc rfl (fc rfl (fc rfl (fc rfl (fc rfl (fc rfl (fc rfl (fc rfl fn))))))))) (lp116_3458 _ v3455 I3448 J3449 hI3448 (by omega) (by omega) (Nat.lt_succ_self _))
                    · refine WP_aload_n dX11_two_99 rfl ?_
                      refine WP_getr dX11_two_100 fX11_307 rfl (ly_is hy 0 11 rfl) (rf hr 0 69 45 (by decide)) ?_
                      refine WP_iload dX11_two_103 rfl ?_
                      refine WQ_iconst (0) (0) dX11_two_105 rfl rfl (fun v3514 hv3514 => ?_)
                      refine WQ_iast dX11_two_106 (ly_is hy 45 13 rfl) (ly_n hy 45 2100 rfl) (by omega) (by omega) (fun I3515 eI3515 => ?_)
                      have hI3515 : MP g n L I3515 := by rw [eI3515]; exact (mp_w hy hI3448 (c := 45) (mi_r0 hy hI3448.1 (c := 45) (by decide) (Or.inl (by decide)) (by decide)) (by decide) (by decide) (Or.inl (by decide)))
                      have e3516 : I3515 (ad g 0) 1 = L := by rw [eI3515, pp_ne _ _ (Or.inl (ly_ne hy (by decide) (by decide) (by decide)))]; exact e3451
                      clear eI3515
                      refine WP_iinc (ls' := [(0, _), (1, _), (2, _), (3, _), (4, _), (5, _), (6, _), (7, _), (8, _)]) dX11_two_107 rfl (by decide) rfl ?_
                      have hv3517 : (i3447 + Int32.ofInt (1)).toInt = i3447.toInt + (1) := ia_n rfl (by omega) (by omega)
                      generalize i3447 + Int32.ofInt (1) = v3517 at hv3517 ⊢
                      refine WP_goto 92 dX11_two_110 rfl ?_
                      exact WP_sub (fc rfl (fc rfl (fc rfl (fc rfl (fc rfl (fc rfl (fc rfl (fc rfl (fc rfl fn))))))))) (ihlp92_3449 v3517 I3515 J3449 hI3515 (by omega) (by omega) (by omega))
                exact WP_sub (fc rfl (fc rfl (fc rfl (fc rfl (fc rfl (fc rfl (fc rfl (fc rfl (fc rfl fn))))))))) (lp92_3449 _ v3446 I J hI (by omega) (by omega) (Nat.lt_succ_self _))
              · refine WQ_bipush (-2) (-2) dX11_two_86 rfl rfl (fun v3518 hv3518 => ?_)
                exact WP_iret dX11_two_88 rfl ⟨⟨hI, rfl⟩, _, rfl⟩
set_option maxHeartbeats 4000000 in
set_option maxRecDepth 100000 in
theorem sm_canBuy {g : GG} {n : Int} {L : Int32} (hy : Ly g)  {I : pI} {J : pJ} {R : pR} (hr : Rf g R) (hI : MP g n L I) (wi : Int32) (co : Int32) (cs : Int32) (wi_lo : 0 ≤ wi.toInt) (wi_hi : wi.toInt ≤ 3) (co_lo : 0 ≤ co.toInt) (co_hi : co.toInt ≤ 60) (cs_lo : 0 ≤ cs.toInt) (cs_hi : cs.toInt ≤ 20) : SP g mX11_canBuy [.int wi, .int co, .int cs] I J R (fun r I' J' R' => (I' = I ∧ J' = J ∧ R' = R) ∧ ∃ v : Int32, r = some (.int v) ∧ 0 ≤ v.toInt ∧ v.toInt ≤ 3 ∧ v.toInt ≤ wi.toInt) := by
  refine SP_of ⟨by decide, rfl⟩ (Nat.le_of_ble_eq_true rfl) ?_
  have e3519 : I (ad g 0) 1 = L := hI.1.2
  have b3520 := BT_get hI.1.1 0 1 2 (0) (0) (900) (by decide) 1 (by decide) (by decide)
  rw [e3519] at b3520
  refine WP_iload_n dX11_canBuy_0 rfl ?_
  refine WP_iload_n dX11_canBuy_1 rfl ?_
  refine WQ_if_ne 9 dX11_canBuy_2 rfl (fun c3520 => ?_) (fun c3520 => ?_)
  · refine WP_iload_n dX11_canBuy_9 rfl ?_
    refine WP_iload_n dX11_canBuy_10 rfl ?_
    refine WQ_idivb dX11_canBuy_11 (by omega) (by omega) (fun v3522 pv3522 av3522 bv3522 cv3522 => ?_)
    refine WQ_min dX11_canBuy_12 lX11_417 ⟨by decide, Nat.le_of_ble_eq_true rfl⟩ (fun v3523 av3523 bv3523 cv3523 => ?_)
    exact WP_iret dX11_canBuy_15 rfl ⟨⟨rfl, rfl, rfl⟩, _, rfl, by omega, by omega, by omega⟩
  · refine WP_iload_n dX11_canBuy_5 rfl ?_
    refine WP_goto 12 dX11_canBuy_6 rfl ?_
    refine WQ_min dX11_canBuy_12 lX11_417 ⟨by decide, Nat.le_of_ble_eq_true rfl⟩ (fun v3524 av3524 bv3524 cv3524 => ?_)
    exact WP_iret dX11_canBuy_15 rfl ⟨⟨rfl, rfl, rfl⟩, _, rfl, by omega, by omega, by omega⟩
set_option maxHeartbeats 4000000 in
set_option maxRecDepth 100000 in
theorem sm_each {g : GG} {n : Int} {L : Int32} (hy : Ly g)  {I : pI} {J : pJ} {R : pR} (hr : Rf g R) (hI : MP g n L I) (th : Int32) (so : Int32) (th_lo : -1 ≤ th.toInt) (th_hi : th.toInt ≤ 2) (so_lo : 0 ≤ so.toInt) (so_hi : so.toInt ≤ 3) (hb : so.toInt < (I (ad g 0) 10).toInt) : SP g mX11_each [.ref (ad g 0), .int th, .int so] I J R (fun r I' J' R' => (I' = I ∧ J' = J ∧ R' = R) ∧ ∃ v : Int32, r = some (.int v) ∧ 0 ≤ v.toInt ∧ v.toInt ≤ 1000000) := by
  refine SP_of ⟨by decide, rfl⟩ (Nat.le_of_ble_eq_true rfl) ?_
  have e3525 : I (ad g 0) 1 = L := hI.1.2
  have b3526 := BT_get hI.1.1 0 1 2 (0) (0) (900) (by decide) 1 (by decide) (by decide)
  rw [e3525] at b3526
  obtain ⟨w3527, ew3527⟩ : ∃ w : Int32, I (ad g 0) 10 = w := ⟨_, rfl⟩
  have bw3527 := BT_get hI.1.1 0 10 11 (0) (0) (4) (by decide) 10 (by decide) (by decide)
  rw [ew3527] at bw3527
  rw [ew3527] at hb
  refine WP_iload_n dX11_each_0 rfl ?_
  refine WQ_iconst (-1) (-1) dX11_each_1 rfl rfl (fun v3528 hv3528 => ?_)
  have jn36_3537 : ∀ (v3537 : Int32), 0 ≤ v3537.toInt → v3537.toInt ≤ 1000000 → WP g mX11_each 36 [(0, .ref (ad g 0)), (1, .int th), (2, .int so)] [.int v3537] I J R (fun r I' J' R' => (I' = I ∧ J' = J ∧ R' = R) ∧ ∃ v : Int32, r = some (.int v) ∧ 0 ≤ v.toInt ∧ v.toInt ≤ 1000000) := by
    intro v3537 av3537 bv3537
    exact WP_iret dX11_each_36 rfl ⟨⟨rfl, rfl, rfl⟩, _, rfl, by omega, by omega⟩
  refine WQ_icmp_eq 17 dX11_each_2 rfl (fun c3538 => ?_) (fun c3538 => ?_)
  · refine WP_ldcw (1000000) dX11_each_17 kX11_460 ?_
    obtain ⟨v3540, hv3540, ev3540⟩ : ∃ v : Int32, v.toInt = 1000000 ∧ ((1000000) : Int32) = v := ⟨(1000000), rfl, rfl⟩
    rw [ev3540]; clear ev3540
    refine WP_goto 36 dX11_each_20 rfl ?_
    exact WP_sub (fc rfl (fc rfl (fc rfl fn))) (jn36_3537 v3540 (by omega) (by omega))
  · refine WP_aload_n dX11_each_5 rfl ?_
    refine WP_getr dX11_each_6 fX11_289 rfl (ly_is hy 0 11 rfl) (rf hr 0 62 40 (by decide)) ?_
    refine WP_iload_n dX11_each_9 rfl ?_
    refine WQ_iald dX11_each_10 (ly_is hy 40 13 rfl) (ly_n hy 40 3 rfl) (by omega) (by omega) (fun q hq => BT_get hI.1.1 40 0 3 (0) (0) (1000000) (by decide) q (Nat.zero_le _) hq) (fun v3541 av3541 bv3541 ev3541 => ?_)
    clear ev3541
    refine WP_ldcw (1000000) dX11_each_11 kX11_460 ?_
    obtain ⟨v3542, hv3542, ev3542⟩ : ∃ v : Int32, v.toInt = 1000000 ∧ ((1000000) : Int32) = v := ⟨(1000000), rfl, rfl⟩
    rw [ev3542]; clear ev3542
    refine WQ_icmp_ne 23 dX11_each_14 rfl (fun c3542 => ?_) (fun c3542 => ?_)
    · refine WP_aload_n dX11_each_23 rfl ?_
      refine WP_getr dX11_each_24 fX11_289 rfl (ly_is hy 0 11 rfl) (rf hr 0 62 40 (by decide)) ?_
      refine WP_iload_n dX11_each_27 rfl ?_
      refine WQ_iald dX11_each_28 (ly_is hy 40 13 rfl) (ly_n hy 40 3 rfl) (by omega) (by omega) (fun q hq => BT_get hI.1.1 40 0 3 (0) (0) (1000000) (by decide) q (Nat.zero_le _) hq) (fun v3544 av3544 bv3544 ev3544 => ?_)
      clear ev3544
      refine WP_aload_n dX11_each_29 rfl ?_
      refine WP_getr dX11_each_30 fX11_235 rfl (ly_is hy 0 11 rfl) (rf hr 0 26 8 (by decide)) ?_
      refine WP_iload_n dX11_each_33 rfl ?_
      refine WQ_ialdf (q := so.toInt.toNat) dX11_each_34 (ly_is hy 8 13 rfl) (ly_n hy 8 4 rfl) (by omega) (by omega) (by omega) (pp_get hI (by omega) (by rw [ew3527]; omega)) (fun v3545 av3545 bv3545 => ?_)
      refine WQ_idivb dX11_each_35 (by omega) (by omega) (fun v3546 pv3546 av3546 bv3546 cv3546 => ?_)
      exact WP_sub (fc rfl (fc rfl (fc rfl fn))) (jn36_3537 v3546 (by omega) (by omega))
    · refine WP_ldcw (1000000) dX11_each_17 kX11_460 ?_
      obtain ⟨v3547, hv3547, ev3547⟩ : ∃ v : Int32, v.toInt = 1000000 ∧ ((1000000) : Int32) = v := ⟨(1000000), rfl, rfl⟩
      rw [ev3547]; clear ev3547
      refine WP_goto 36 dX11_each_20 rfl ?_
      exact WP_sub (fc rfl (fc rfl (fc rfl fn))) (jn36_3537 v3547 (by omega) (by omega))
set_option maxHeartbeats 4000000 in
set_option maxRecDepth 100000 in
theorem sm_values {g : GG} {n : Int} {L : Int32} (hy : Ly g)  {I : pI} {J : pJ} {R : pR} (hr : Rf g R) (hI : MP g n L I)   : SP g mX11_values [.ref (ad g 0)] I J R (fun r I' J' R' => ((∃ L2 : Int32, MP g n L2 I' ∧ L2.toInt = 0) ∧ R' = R) ∧ ∃ v : Int32, r = some (.int v)) := by
  refine SP_of ⟨by decide, rfl⟩ (Nat.le_of_ble_eq_true rfl) ?_
  have e3548 : I (ad g 0) 1 = L := hI.1.2
  have b3549 := BT_get hI.1.1 0 1 2 (0) (0) (900) (by decide) 1 (by decide) (by decide)
  rw [e3548] at b3549
  refine WP_aload_n dX11_values_0 rfl ?_
  refine WQ_getiu dX11_values_1 fX11_3 rfl (ly_is hy 0 11 rfl) (fun v3550 ev3550 => ?_)
  refine WP_istore_n (ls' := [(0, _), (1, _)]) dX11_values_4 (by decide) rfl ?_
  refine WP_aload_n dX11_values_5 rfl ?_
  refine WQ_getiu dX11_values_6 fX11_10 rfl (ly_is hy 0 11 rfl) (fun v3551 ev3551 => ?_)
  refine WP_istore_n (ls' := [(0, _), (1, _), (2, _)]) dX11_values_9 (by decide) rfl ?_
  refine WP_aload_n dX11_values_10 rfl ?_
  refine WP_callV0 (k := 11) dX11_values_11 ⟨⟨⟨by decide, by decide⟩, zX11_open⟩, lX11_323, by decide, rfl, vX11_open.1, vX11_open.2⟩ (ly_is hy 0 11 rfl) (sm_open hy hr hI  ) (Nat.le_of_ble_eq_true rfl) ?_
  intro r I3552 J3553 Ra hq
  obtain ⟨⟨⟨L3554, hI3552, qL3554⟩, ec, pI3552⟩, rfl⟩ := hq
  rw [ec]
  clear ec Ra
  have e3555 : I3552 (ad g 0) 1 = L3554 := hI3552.1.2
  have b3556 := BT_get hI3552.1.1 0 1 2 (0) (0) (900) (by decide) 1 (by decide) (by decide)
  rw [e3555] at b3556
  obtain ⟨w3557, ew3557⟩ : ∃ w : Int32, I3552 (ad g 0) 4 = w := ⟨_, rfl⟩
  have bw3557 := BT_get hI3552.1.1 0 4 5 (0) (0) (900) (by decide) 4 (by decide) (by decide)
  rw [ew3557] at bw3557
  obtain ⟨w3558, ew3558⟩ : ∃ w : Int32, I3552 (ad g 0) 2 = w := ⟨_, rfl⟩
  have bw3558 := BT_get hI3552.1.1 0 2 3 (0) (0) (900) (by decide) 2 (by decide) (by decide)
  rw [ew3558] at bw3558
  rw [ew3557, ew3558] at pI3552
  refine WQ_iconst (1) (1) dX11_values_14 rfl rfl (fun v3559 hv3559 => ?_)
  refine WP_istore_n (ls' := [(0, _), (1, _), (2, _), (3, _)]) dX11_values_15 (by decide) rfl ?_
  refine WQ_iconst (0) (0) dX11_values_16 rfl rfl (fun v3560 hv3560 => ?_)
  refine WP_istore (ls' := [(0, _), (1, _), (2, _), (3, _), (4, _)]) dX11_values_17 (by decide) rfl ?_
  have lp19_3566 : ∀ (mz : Nat) (i3561 : Int32) (i3562 : Int32) (I3563 : pI) (J3564 : pJ), MP g n L3554 I3563 → ∀ (w3565 : Int32), I3563 (ad g 0) 4 = w3565 → ∀ (w3566 : Int32), I3563 (ad g 0) 2 = w3566 → 0 ≤ i3561.toInt → i3561.toInt ≤ 1 → 0 ≤ i3562.toInt → i3562.toInt ≤ 4 → w3565.toInt ≤ w3566.toInt → (5 - i3562.toInt).toNat < mz → WP g mX11_values 19 [(0, .ref (ad g 0)), (1, .int v3550), (2, .int v3551), (3, .int i3561), (4, .int i3562)] [] I3563 J3564 R (fun r I' J' R' => ((∃ L2 : Int32, MP g n L2 I' ∧ L2.toInt = 0) ∧ R' = R) ∧ ∃ v : Int32, r = some (.int v)) := by
    intro mz
    induction mz with
    | zero =>
      intro i3561 i3562 I3563 J3564 hI3563 w3565 ew3565 w3566 ew3566 ai3561 bi3561 ai3562 bi3562 j0_I3563 hmlp19_3566
      exact absurd hmlp19_3566 (Nat.not_lt_zero _)
    | succ mz ihlp19_3566 =>
      intro i3561 i3562 I3563 J3564 hI3563 w3565 ew3565 w3566 ew3566 ai3561 bi3561 ai3562 bi3562 j0_I3563 hmlp19_3566
      have bw3565 := BT_get hI3563.1.1 0 4 5 (0) (0) (900) (by decide) 4 (by decide) (by decide)
      rw [ew3565] at bw3565
      have bw3566 := BT_get hI3563.1.1 0 2 3 (0) (0) (900) (by decide) 2 (by decide) (by decide)
      rw [ew3566] at bw3566
      have e3568 : I3563 (ad g 0) 1 = L3554 := hI3563.1.2
      have b3569 := BT_get hI3563.1.1 0 1 2 (0) (0) (900) (by decide) 1 (by decide) (by decide)
      rw [e3568] at b3569
      refine WP_iload dX11_values_19 rfl ?_
      refine WP_aload_n dX11_values_21 rfl ?_
      refine WQ_geti dX11_values_22 fX11_329 rfl (ly_is hy 0 11 rfl) (BT_get hI3563.1.1 0 10 11 (0) (0) (4) (by decide) 10 (by decide) (by decide)) (fun v3570 ev3570 av3570 bv3570 => ?_)
      refine WQ_icmp_ge 98 dX11_values_25 rfl (fun c3570 => ?_) (fun c3570 => ?_)
      · refine WP_iload_n dX11_values_98 rfl ?_
        have jn114_3577 : ∀ (v3577 : Int32), 0 ≤ v3577.toInt → v3577.toInt ≤ 1 → WP g mX11_values 114 [(0, .ref (ad g 0)), (1, .int v3550), (2, .int v3551), (3, .int i3561), (4, .int i3562)] [.int v3577] I3563 J3564 R (fun r I' J' R' => ((∃ L2 : Int32, MP g n L2 I' ∧ L2.toInt = 0) ∧ R' = R) ∧ ∃ v : Int32, r = some (.int v)) := by
          intro v3577 av3577 bv3577
          refine WP_istore_n (ls' := [(0, _), (1, _), (2, _), (3, _), (4, _)]) dX11_values_114 (by decide) rfl ?_
          refine WP_aload_n dX11_values_115 rfl ?_
          refine WP_iload_n dX11_values_116 rfl ?_
          refine WQ_puti dX11_values_117 fX11_3 rfl rfl (ly_is hy 0 11 rfl) (fun I3579 eI3579 => ?_)
          have hI3579 : MP g n L3554 I3579 := by rw [eI3579]; exact (mp_w hy hI3563 (c := 0) (mi_f0 hy hI3563.1 (c := 0) (by decide) (Or.inr (by decide)) (by decide)) (by decide) (by decide) (Or.inr (by decide)))
          have e3580 : I3579 (ad g 0) 4 = w3565 := by rw [eI3579, pp_ne _ _ (Or.inr (by decide))]; exact ew3565
          have e3581 : I3579 (ad g 0) 2 = w3566 := by rw [eI3579, pp_ne _ _ (Or.inr (by decide))]; exact ew3566
          have e3582 : I3579 (ad g 0) 1 = L3554 := by rw [eI3579, pp_ne _ _ (Or.inr (by decide))]; exact e3568
          have e3583 : I3579 (ad g 0) 10 = v3570 := by rw [eI3579, pp_ne _ _ (Or.inr (by decide))]; exact ev3570
          have e3584 : I3579 (ad g 0) 8 = v3550 := by rw [eI3579, pp_self]
          clear eI3579
          refine WP_aload_n dX11_values_120 rfl ?_
          refine WP_iload_n dX11_values_121 rfl ?_
          refine WQ_puti dX11_values_122 fX11_10 rfl rfl (ly_is hy 0 11 rfl) (fun I3585 eI3585 => ?_)
          have hI3585 : MP g n L3554 I3585 := by rw [eI3585]; exact (mp_w hy hI3579 (c := 0) (mi_f0 hy hI3579.1 (c := 0) (by decide) (Or.inr (by decide)) (by decide)) (by decide) (by decide) (Or.inr (by decide)))
          have e3586 : I3585 (ad g 0) 4 = w3565 := by rw [eI3585, pp_ne _ _ (Or.inr (by decide))]; exact e3580
          have e3587 : I3585 (ad g 0) 2 = w3566 := by rw [eI3585, pp_ne _ _ (Or.inr (by decide))]; exact e3581
          have e3588 : I3585 (ad g 0) 1 = L3554 := by rw [eI3585, pp_ne _ _ (Or.inr (by decide))]; exact e3582
          have e3589 : I3585 (ad g 0) 10 = v3570 := by rw [eI3585, pp_ne _ _ (Or.inr (by decide))]; exact e3583
          have e3590 : I3585 (ad g 0) 8 = v3550 := by rw [eI3585, pp_ne _ _ (Or.inr (by decide))]; exact e3584
          have e3591 : I3585 (ad g 0) 9 = v3551 := by rw [eI3585, pp_self]
          clear eI3585
          refine WP_iload_n dX11_values_125 rfl ?_
          refine WQ_if_ne 131 dX11_values_126 rfl (fun c3591 => ?_) (fun c3591 => ?_)
          · refine WQ_iconst (0) (0) dX11_values_131 rfl rfl (fun v3593 hv3593 => ?_)
            refine WP_istore (ls' := [(0, _), (1, _), (2, _), (3, _), (4, _)]) dX11_values_132 (by decide) rfl ?_
            have lp134_3596 : ∀ (mz : Nat) (i3594 : Int32) (I3595 : pI) (J3596 : pJ), MP g n L3554 I3595 → 0 ≤ i3594.toInt → i3594.toInt ≤ 4 → (5 - i3594.toInt).toNat < mz → WP g mX11_values 134 [(0, .ref (ad g 0)), (1, .int v3550), (2, .int v3551), (3, .int v3577), (4, .int i3594)] [] I3595 J3596 R (fun r I' J' R' => ((∃ L2 : Int32, MP g n L2 I' ∧ L2.toInt = 0) ∧ R' = R) ∧ ∃ v : Int32, r = some (.int v)) := by
              intro mz
              induction mz with
              | zero =>
                intro i3594 I3595 J3596 hI3595 ai3594 bi3594 hmlp134_3596
                exact absurd hmlp134_3596 (Nat.not_lt_zero _)
              | succ mz ihlp134_3596 =>
                intro i3594 I3595 J3596 hI3595 ai3594 bi3594 hmlp134_3596
                have e3598 : I3595 (ad g 0) 1 = L3554 := hI3595.1.2
                have b3599 := BT_get hI3595.1.1 0 1 2 (0) (0) (900) (by decide) 1 (by decide) (by decide)
                rw [e3598] at b3599
                refine WP_iload dX11_values_134 rfl ?_
                refine WP_aload_n dX11_values_136 rfl ?_
                refine WQ_geti dX11_values_137 fX11_329 rfl (ly_is hy 0 11 rfl) (BT_get hI3595.1.1 0 10 11 (0) (0) (4) (by decide) 10 (by decide) (by decide)) (fun v3600 ev3600 av3600 bv3600 => ?_)
                refine WQ_icmp_ge 183 dX11_values_140 rfl (fun c3600 => ?_) (fun c3600 => ?_)
                · refine WQ_iconst (1) (1) dX11_values_183 rfl rfl (fun v3602 hv3602 => ?_)
                  exact WP_iret dX11_values_184 rfl ⟨⟨⟨_, hI3595, by omega⟩, rfl⟩, _, rfl⟩
                · refine WP_aload_n dX11_values_143 rfl ?_
                  refine WP_getr dX11_values_144 fX11_310 rfl (ly_is hy 0 11 rfl) (rf hr 0 71 46 (by decide)) ?_
                  refine WP_iload dX11_values_147 rfl ?_
                  refine WP_aload_n dX11_values_149 rfl ?_
                  refine WP_getr dX11_values_150 fX11_316 rfl (ly_is hy 0 11 rfl) (rf hr 0 73 48 (by decide)) ?_
                  refine WQ_iconst (2) (2) dX11_values_153 rfl rfl (fun v3603 hv3603 => ?_)
                  refine WP_iload dX11_values_154 rfl ?_
                  refine WQ_imulK (2) dX11_values_156 hv3603 (by omega) (by omega) (fun v3604 hv3604 => ?_)
                  refine WQ_ialdu dX11_values_157 (ly_is hy 48 13 rfl) (ly_n hy 48 8 rfl) (by omega) (by omega) (fun v3605 => ?_)
                  refine WQ_iast dX11_values_158 (ly_is hy 46 13 rfl) (ly_n hy 46 4 rfl) (by omega) (by omega) (fun I3606 eI3606 => ?_)
                  have hI3606 : MP g n L3554 I3606 := by rw [eI3606]; exact (mp_w hy hI3595 (c := 46) (mi_r0 hy hI3595.1 (c := 46) (by decide) (Or.inl (by decide)) (by decide)) (by decide) (by decide) (Or.inl (by decide)))
                  have e3607 : I3606 (ad g 0) 1 = L3554 := by rw [eI3606, pp_ne _ _ (Or.inl (ly_ne hy (by decide) (by decide) (by decide)))]; exact e3598
                  have e3608 : I3606 (ad g 0) 10 = v3600 := by rw [eI3606, pp_ne _ _ (Or.inl (ly_ne hy (by decide) (by decide) (by decide)))]; exact ev3600
                  clear eI3606
                  refine WP_aload_n dX11_values_159 rfl ?_
                  refine WP_getr dX11_values_160 fX11_313 rfl (ly_is hy 0 11 rfl) (rf hr 0 72 47 (by decide)) ?_
                  refine WP_iload dX11_values_163 rfl ?_
                  refine WP_aload_n dX11_values_165 rfl ?_
                  refine WP_getr dX11_values_166 fX11_316 rfl (ly_is hy 0 11 rfl) (rf hr 0 73 48 (by decide)) ?_
                  refine WQ_iconst (2) (2) dX11_values_169 rfl rfl (fun v3609 hv3609 => ?_)
                  refine WP_iload dX11_values_170 rfl ?_
                  refine WQ_imulK (2) dX11_values_172 hv3609 (by omega) (by omega) (fun v3610 hv3610 => ?_)
                  refine WQ_iconst (1) (1) dX11_values_173 rfl rfl (fun v3611 hv3611 => ?_)
                  refine WQ_iadd dX11_values_174 (by omega) (by omega) (fun v3612 hv3612 => ?_)
                  refine WQ_ialdu dX11_values_175 (ly_is hy 48 13 rfl) (ly_n hy 48 8 rfl) (by omega) (by omega) (fun v3613 => ?_)
                  refine WQ_iast dX11_values_176 (ly_is hy 47 13 rfl) (ly_n hy 47 4 rfl) (by omega) (by omega) (fun I3614 eI3614 => ?_)
                  have hI3614 : MP g n L3554 I3614 := by rw [eI3614]; exact (mp_w hy hI3606 (c := 47) (mi_r0 hy hI3606.1 (c := 47) (by decide) (Or.inl (by decide)) (by decide)) (by decide) (by decide) (Or.inl (by decide)))
                  have e3615 : I3614 (ad g 0) 1 = L3554 := by rw [eI3614, pp_ne _ _ (Or.inl (ly_ne hy (by decide) (by decide) (by decide)))]; exact e3607
                  have e3616 : I3614 (ad g 0) 10 = v3600 := by rw [eI3614, pp_ne _ _ (Or.inl (ly_ne hy (by decide) (by decide) (by decide)))]; exact e3608
                  clear eI3614
                  refine WP_iinc (ls' := [(0, _), (1, _), (2, _), (3, _), (4, _)]) dX11_values_177 rfl (by decide) rfl ?_
                  have hv3617 : (i3594 + Int32.ofInt (1)).toInt = i3594.toInt + (1) := ia_n rfl (by omega) (by omega)
                  generalize i3594 + Int32.ofInt (1) = v3617 at hv3617 ⊢
                  refine WP_goto 134 dX11_values_180 rfl ?_
                  exact WP_sub (fc rfl (fc rfl (fc rfl (fc rfl (fc rfl fn))))) (ihlp134_3596 v3617 I3614 J3596 hI3614 (by omega) (by omega) (by omega))
            exact WP_sub (fc rfl (fc rfl (fc rfl (fc rfl (fc rfl fn))))) (lp134_3596 _ v3593 I3585 J3564 hI3585 (by omega) (by omega) (Nat.lt_succ_self _))
          · refine WQ_iconst (-1) (-1) dX11_values_129 rfl rfl (fun v3618 hv3618 => ?_)
            exact WP_iret dX11_values_130 rfl ⟨⟨⟨_, hI3585, by omega⟩, rfl⟩, _, rfl⟩
        refine WQ_if_eq 113 dX11_values_99 rfl (fun c3618 => ?_) (fun c3618 => ?_)
        · refine WQ_iconst (0) (0) dX11_values_113 rfl rfl (fun v3620 hv3620 => ?_)
          exact WP_sub (fc rfl (fc rfl (fc rfl (fc rfl (fc rfl fn))))) (jn114_3577 v3620 (by omega) (by omega))
        · refine WP_aload_n dX11_values_102 rfl ?_
          refine WQ_geti dX11_values_103 fX11_27 rfl (ly_is hy 0 11 rfl) (BT_get hI3563.1.1 0 5 6 (0) (0) (4) (by decide) 5 (by decide) (by decide)) (fun v3621 ev3621 av3621 bv3621 => ?_)
          refine WQ_if_ne 113 dX11_values_106 rfl (fun c3621 => ?_) (fun c3621 => ?_)
          · refine WQ_iconst (0) (0) dX11_values_113 rfl rfl (fun v3623 hv3623 => ?_)
            exact WP_sub (fc rfl (fc rfl (fc rfl (fc rfl (fc rfl fn))))) (jn114_3577 v3623 (by omega) (by omega))
          · refine WQ_iconst (1) (1) dX11_values_109 rfl rfl (fun v3624 hv3624 => ?_)
            refine WP_goto 114 dX11_values_110 rfl ?_
            exact WP_sub (fc rfl (fc rfl (fc rfl (fc rfl (fc rfl fn))))) (jn114_3577 v3624 (by omega) (by omega))
      · refine WP_iload_n dX11_values_28 rfl ?_
        refine WQ_if_eq 98 dX11_values_29 rfl (fun c3624 => ?_) (fun c3624 => ?_)
        · refine WP_iload_n dX11_values_98 rfl ?_
          have jn114_3627 : ∀ (v3627 : Int32), 0 ≤ v3627.toInt → v3627.toInt ≤ 0 → WP g mX11_values 114 [(0, .ref (ad g 0)), (1, .int v3550), (2, .int v3551), (3, .int i3561), (4, .int i3562)] [.int v3627] I3563 J3564 R (fun r I' J' R' => ((∃ L2 : Int32, MP g n L2 I' ∧ L2.toInt = 0) ∧ R' = R) ∧ ∃ v : Int32, r = some (.int v)) := by
            intro v3627 av3627 bv3627
            refine WP_istore_n (ls' := [(0, _), (1, _), (2, _), (3, _), (4, _)]) dX11_values_114 (by decide) rfl ?_
            refine WP_aload_n dX11_values_115 rfl ?_
            refine WP_iload_n dX11_values_116 rfl ?_
            refine WQ_puti dX11_values_117 fX11_3 rfl rfl (ly_is hy 0 11 rfl) (fun I3629 eI3629 => ?_)
            have hI3629 : MP g n L3554 I3629 := by rw [eI3629]; exact (mp_w hy hI3563 (c := 0) (mi_f0 hy hI3563.1 (c := 0) (by decide) (Or.inr (by decide)) (by decide)) (by decide) (by decide) (Or.inr (by decide)))
            have e3630 : I3629 (ad g 0) 4 = w3565 := by rw [eI3629, pp_ne _ _ (Or.inr (by decide))]; exact ew3565
            have e3631 : I3629 (ad g 0) 2 = w3566 := by rw [eI3629, pp_ne _ _ (Or.inr (by decide))]; exact ew3566
            have e3632 : I3629 (ad g 0) 1 = L3554 := by rw [eI3629, pp_ne _ _ (Or.inr (by decide))]; exact e3568
            have e3633 : I3629 (ad g 0) 10 = v3570 := by rw [eI3629, pp_ne _ _ (Or.inr (by decide))]; exact ev3570
            have e3634 : I3629 (ad g 0) 8 = v3550 := by rw [eI3629, pp_self]
            clear eI3629
            refine WP_aload_n dX11_values_120 rfl ?_
            refine WP_iload_n dX11_values_121 rfl ?_
            refine WQ_puti dX11_values_122 fX11_10 rfl rfl (ly_is hy 0 11 rfl) (fun I3635 eI3635 => ?_)
            have hI3635 : MP g n L3554 I3635 := by rw [eI3635]; exact (mp_w hy hI3629 (c := 0) (mi_f0 hy hI3629.1 (c := 0) (by decide) (Or.inr (by decide)) (by decide)) (by decide) (by decide) (Or.inr (by decide)))
            have e3636 : I3635 (ad g 0) 4 = w3565 := by rw [eI3635, pp_ne _ _ (Or.inr (by decide))]; exact e3630
            have e3637 : I3635 (ad g 0) 2 = w3566 := by rw [eI3635, pp_ne _ _ (Or.inr (by decide))]; exact e3631
            have e3638 : I3635 (ad g 0) 1 = L3554 := by rw [eI3635, pp_ne _ _ (Or.inr (by decide))]; exact e3632
            have e3639 : I3635 (ad g 0) 10 = v3570 := by rw [eI3635, pp_ne _ _ (Or.inr (by decide))]; exact e3633
            have e3640 : I3635 (ad g 0) 8 = v3550 := by rw [eI3635, pp_ne _ _ (Or.inr (by decide))]; exact e3634
            have e3641 : I3635 (ad g 0) 9 = v3551 := by rw [eI3635, pp_self]
            clear eI3635
            refine WP_iload_n dX11_values_125 rfl ?_
            refine WQ_if_ne 131 dX11_values_126 rfl (fun c3641 => False.elim (by omega)) (fun c3641 => ?_)
            refine WQ_iconst (-1) (-1) dX11_values_129 rfl rfl (fun v3643 hv3643 => ?_)
            exact WP_iret dX11_values_130 rfl ⟨⟨⟨_, hI3635, by omega⟩, rfl⟩, _, rfl⟩
          refine WQ_if_eq 113 dX11_values_99 rfl (fun c3643 => ?_) (fun c3643 => False.elim (by omega))
          refine WQ_iconst (0) (0) dX11_values_113 rfl rfl (fun v3645 hv3645 => ?_)
          exact WP_sub (fc rfl (fc rfl (fc rfl (fc rfl (fc rfl fn))))) (jn114_3627 v3645 (by omega) (by omega))
        · refine WQ_iconst (0) (0) dX11_values_32 rfl rfl (fun v3646 hv3646 => ?_)
          refine WP_istore (ls' := [(0, _), (1, _), (2, _), (3, _), (4, _), (5, _)]) dX11_values_33 (by decide) rfl ?_
          have lp35_3652 : ∀ (mz : Nat) (i3647 : Int32) (i3648 : Int32) (I3649 : pI) (J3650 : pJ), MP g n L3554 I3649 → ∀ (w3651 : Int32), I3649 (ad g 0) 4 = w3651 → ∀ (w3652 : Int32), I3649 (ad g 0) 2 = w3652 → 0 ≤ i3647.toInt → i3647.toInt ≤ 1 → 0 ≤ i3648.toInt → i3648.toInt ≤ 2 → w3651.toInt ≤ w3652.toInt → (3 - i3648.toInt).toNat < mz → WP g mX11_values 35 [(0, .ref (ad g 0)), (1, .int v3550), (2, .int v3551), (3, .int i3647), (4, .int i3562), (5, .int i3648)] [] I3649 J3650 R (fun r I' J' R' => ((∃ L2 : Int32, MP g n L2 I' ∧ L2.toInt = 0) ∧ R' = R) ∧ ∃ v : Int32, r = some (.int v)) := by
            intro mz
            induction mz with
            | zero =>
              intro i3647 i3648 I3649 J3650 hI3649 w3651 ew3651 w3652 ew3652 ai3647 bi3647 ai3648 bi3648 j0_I3649 hmlp35_3652
              exact absurd hmlp35_3652 (Nat.not_lt_zero _)
            | succ mz ihlp35_3652 =>
              intro i3647 i3648 I3649 J3650 hI3649 w3651 ew3651 w3652 ew3652 ai3647 bi3647 ai3648 bi3648 j0_I3649 hmlp35_3652
              have bw3651 := BT_get hI3649.1.1 0 4 5 (0) (0) (900) (by decide) 4 (by decide) (by decide)
              rw [ew3651] at bw3651
              have bw3652 := BT_get hI3649.1.1 0 2 3 (0) (0) (900) (by decide) 2 (by decide) (by decide)
              rw [ew3652] at bw3652
              have e3654 : I3649 (ad g 0) 1 = L3554 := hI3649.1.2
              have b3655 := BT_get hI3649.1.1 0 1 2 (0) (0) (900) (by decide) 1 (by decide) (by decide)
              rw [e3654] at b3655
              refine WP_iload dX11_values_35 rfl ?_
              refine WQ_iconst (2) (2) dX11_values_37 rfl rfl (fun v3656 hv3656 => ?_)
              refine WQ_icmp_ge 75 dX11_values_38 rfl (fun c3656 => ?_) (fun c3656 => ?_)
              · refine WP_iload_n dX11_values_75 rfl ?_
                refine WQ_if_eq 90 dX11_values_76 rfl (fun c3657 => ?_) (fun c3657 => ?_)
                · refine WQ_iconst (0) (0) dX11_values_90 rfl rfl (fun v3659 hv3659 => ?_)
                  refine WP_istore_n (ls' := [(0, _), (1, _), (2, _), (3, _), (4, _), (5, _)]) dX11_values_91 (by decide) rfl ?_
                  refine WP_iinc (ls' := [(0, _), (1, _), (2, _), (3, _), (4, _), (5, _)]) dX11_values_92 rfl (by decide) rfl ?_
                  have hv3660 : (i3562 + Int32.ofInt (1)).toInt = i3562.toInt + (1) := ia_n rfl (by omega) (by omega)
                  generalize i3562 + Int32.ofInt (1) = v3660 at hv3660 ⊢
                  refine WP_goto 19 dX11_values_95 rfl ?_
                  exact WP_sub (fc rfl (fc rfl (fc rfl (fc rfl (fc rfl fn))))) (ihlp19_3566 v3659 v3660 I3649 J3650 hI3649 w3651 ew3651 w3652 ew3652 (by omega) (by omega) (by omega) (by omega) (by omega) (by omega))
                · refine WP_aload_n dX11_values_79 rfl ?_
                  refine WP_callV0 (k := 11) dX11_values_80 ⟨⟨⟨by decide, by decide⟩, zX11_close⟩, lX11_213, by decide, rfl, vX11_close.1, vX11_close.2⟩ (ly_is hy 0 11 rfl) (sm_close hy hr hI3649   (by rw [ew3651, ew3652]; omega)) (Nat.le_of_ble_eq_true rfl) ?_
                  intro r I3661 J3662 Ra hq
                  obtain ⟨⟨hI3661, ec, ⟨pI3661, sI3661_0_15, sI3661_0_16⟩⟩, v3663, rfl, av3663, bv3663⟩ := hq
                  show WP _ _ _ _ (.int _ :: _) _ _ _ _
                  rw [ec]
                  clear ec Ra
                  have e3664 : I3661 (ad g 0) 1 = L3554 := hI3661.1.2
                  have b3665 := BT_get hI3661.1.1 0 1 2 (0) (0) (900) (by decide) 1 (by decide) (by decide)
                  rw [e3664] at b3665
                  obtain ⟨w3666, ew3666⟩ : ∃ w : Int32, I3661 (ad g 0) 4 = w := ⟨_, rfl⟩
                  have bw3666 := BT_get hI3661.1.1 0 4 5 (0) (0) (900) (by decide) 4 (by decide) (by decide)
                  rw [ew3666] at bw3666
                  obtain ⟨w3667, ew3667⟩ : ∃ w : Int32, I3661 (ad g 0) 2 = w := ⟨_, rfl⟩
                  have bw3667 := BT_get hI3661.1.1 0 2 3 (0) (0) (900) (by decide) 2 (by decide) (by decide)
                  rw [ew3667] at bw3667
                  rw [ew3666, ew3667] at pI3661
                  have jn91_3670 : ∀ (v3670 : Int32), 0 ≤ v3670.toInt → v3670.toInt ≤ 1 → WP g mX11_values 91 [(0, .ref (ad g 0)), (1, .int v3550), (2, .int v3551), (3, .int i3647), (4, .int i3562), (5, .int i3648)] [.int v3670] I3661 J3662 R (fun r I' J' R' => ((∃ L2 : Int32, MP g n L2 I' ∧ L2.toInt = 0) ∧ R' = R) ∧ ∃ v : Int32, r = some (.int v)) := by
                    intro v3670 av3670 bv3670
                    refine WP_istore_n (ls' := [(0, _), (1, _), (2, _), (3, _), (4, _), (5, _)]) dX11_values_91 (by decide) rfl ?_
                    refine WP_iinc (ls' := [(0, _), (1, _), (2, _), (3, _), (4, _), (5, _)]) dX11_values_92 rfl (by decide) rfl ?_
                    have hv3672 : (i3562 + Int32.ofInt (1)).toInt = i3562.toInt + (1) := ia_n rfl (by omega) (by omega)
                    generalize i3562 + Int32.ofInt (1) = v3672 at hv3672 ⊢
                    refine WP_goto 19 dX11_values_95 rfl ?_
                    exact WP_sub (fc rfl (fc rfl (fc rfl (fc rfl (fc rfl fn))))) (ihlp19_3566 v3670 v3672 I3661 J3662 hI3661 w3666 ew3666 w3667 ew3667 (by omega) (by omega) (by omega) (by omega) (by omega) (by omega))
                  refine WQ_if_eq 90 dX11_values_83 rfl (fun c3672 => ?_) (fun c3672 => ?_)
                  · refine WQ_iconst (0) (0) dX11_values_90 rfl rfl (fun v3674 hv3674 => ?_)
                    exact WP_sub (fc rfl (fc rfl (fc rfl (fc rfl (fc rfl (fc rfl fn)))))) (jn91_3670 v3674 (by omega) (by omega))
                  · refine WQ_iconst (1) (1) dX11_values_86 rfl rfl (fun v3675 hv3675 => ?_)
                    refine WP_goto 91 dX11_values_87 rfl ?_
                    exact WP_sub (fc rfl (fc rfl (fc rfl (fc rfl (fc rfl (fc rfl fn)))))) (jn91_3670 v3675 (by omega) (by omega))
              · refine WP_iload_n dX11_values_41 rfl ?_
                refine WQ_if_eq 75 dX11_values_42 rfl (fun c3675 => ?_) (fun c3675 => ?_)
                · refine WP_iload_n dX11_values_75 rfl ?_
                  refine WQ_if_eq 90 dX11_values_76 rfl (fun c3676 => ?_) (fun c3676 => False.elim (by omega))
                  refine WQ_iconst (0) (0) dX11_values_90 rfl rfl (fun v3678 hv3678 => ?_)
                  refine WP_istore_n (ls' := [(0, _), (1, _), (2, _), (3, _), (4, _), (5, _)]) dX11_values_91 (by decide) rfl ?_
                  refine WP_iinc (ls' := [(0, _), (1, _), (2, _), (3, _), (4, _), (5, _)]) dX11_values_92 rfl (by decide) rfl ?_
                  have hv3679 : (i3562 + Int32.ofInt (1)).toInt = i3562.toInt + (1) := ia_n rfl (by omega) (by omega)
                  generalize i3562 + Int32.ofInt (1) = v3679 at hv3679 ⊢
                  refine WP_goto 19 dX11_values_95 rfl ?_
                  exact WP_sub (fc rfl (fc rfl (fc rfl (fc rfl (fc rfl fn))))) (ihlp19_3566 v3678 v3679 I3649 J3650 hI3649 w3651 ew3651 w3652 ew3652 (by omega) (by omega) (by omega) (by omega) (by omega) (by omega))
                · refine WP_aload_n dX11_values_45 rfl ?_
                  refine WQ_iconst (0) (0) dX11_values_46 rfl rfl (fun v3680 hv3680 => ?_)
                  refine WQ_bipush (99) (99) dX11_values_47 rfl rfl (fun v3681 hv3681 => ?_)
                  refine WP_callV2 (k := 11) dX11_values_49 ⟨⟨⟨by decide, by decide⟩, zX11_number⟩, lX11_81, by decide, rfl, vX11_number.1, vX11_number.2⟩ (ly_is hy 0 11 rfl) (sm_number hy hr hI3649 v3680 v3681 (by omega) (by omega) (by omega) (by omega) (by rw [ew3651, ew3652]; omega)) (Nat.le_of_ble_eq_true rfl) ?_
                  intro r I3682 J3683 Ra hq
                  obtain ⟨⟨hI3682, ec, ⟨pI3682, sI3682_0_15, sI3682_0_16⟩⟩, v3684, rfl, av3684, bv3684, cv3684⟩ := hq
                  show WP _ _ _ _ (.int _ :: _) _ _ _ _
                  rw [ec]
                  clear ec Ra
                  have e3685 : I3682 (ad g 0) 1 = L3554 := hI3682.1.2
                  have b3686 := BT_get hI3682.1.1 0 1 2 (0) (0) (900) (by decide) 1 (by decide) (by decide)
                  rw [e3685] at b3686
                  obtain ⟨w3687, ew3687⟩ : ∃ w : Int32, I3682 (ad g 0) 4 = w := ⟨_, rfl⟩
                  have bw3687 := BT_get hI3682.1.1 0 4 5 (0) (0) (900) (by decide) 4 (by decide) (by decide)
                  rw [ew3687] at bw3687
                  obtain ⟨w3688, ew3688⟩ : ∃ w : Int32, I3682 (ad g 0) 2 = w := ⟨_, rfl⟩
                  have bw3688 := BT_get hI3682.1.1 0 2 3 (0) (0) (900) (by decide) 2 (by decide) (by decide)
                  rw [ew3688] at bw3688
                  rw [ew3687, ew3688] at pI3682
                  obtain ⟨w3689, ew3689⟩ : ∃ w : Int32, I3682 (ad g 0) 7 = w := ⟨_, rfl⟩
                  have bw3689 := BT_get hI3682.1.1 0 7 8 (-1) (0) (1000) (by decide) 7 (by decide) (by decide)
                  rw [ew3689] at bw3689
                  rw [ew3689] at cv3684
                  refine WP_istore_n (ls' := [(0, _), (1, _), (2, _), (3, _), (4, _), (5, _)]) dX11_values_52 (by decide) rfl ?_
                  refine WP_aload_n dX11_values_53 rfl ?_
                  refine WP_getr dX11_values_54 fX11_316 rfl (ly_is hy 0 11 rfl) (rf hr 0 73 48 (by decide)) ?_
                  refine WQ_iconst (2) (2) dX11_values_57 rfl rfl (fun v3690 hv3690 => ?_)
                  refine WP_iload dX11_values_58 rfl ?_
                  refine WQ_imulK (2) dX11_values_60 hv3690 (by omega) (by omega) (fun v3691 hv3691 => ?_)
                  refine WP_iload dX11_values_61 rfl ?_
                  refine WQ_iadd dX11_values_63 (by omega) (by omega) (fun v3692 hv3692 => ?_)
                  refine WP_aload_n dX11_values_64 rfl ?_
                  refine WQ_getim dX11_values_65 fX11_56 rfl (ly_is hy 0 11 rfl) ew3689 ?_
                  refine WQ_iast dX11_values_68 (ly_is hy 48 13 rfl) (ly_n hy 48 8 rfl) (by omega) (by omega) (fun I3693 eI3693 => ?_)
                  have hI3693 : MP g n L3554 I3693 := by rw [eI3693]; exact (mp_w hy hI3682 (c := 48) (mi_r0 hy hI3682.1 (c := 48) (by decide) (Or.inl (by decide)) (by decide)) (by decide) (by decide) (Or.inl (by decide)))
                  have e3694 : I3693 (ad g 0) 1 = L3554 := by rw [eI3693, pp_ne _ _ (Or.inl (ly_ne hy (by decide) (by decide) (by decide)))]; exact e3685
                  have e3695 : I3693 (ad g 0) 4 = w3687 := by rw [eI3693, pp_ne _ _ (Or.inl (ly_ne hy (by decide) (by decide) (by decide)))]; exact ew3687
                  have e3696 : I3693 (ad g 0) 2 = w3688 := by rw [eI3693, pp_ne _ _ (Or.inl (ly_ne hy (by decide) (by decide) (by decide)))]; exact ew3688
                  have e3697 : I3693 (ad g 0) 7 = w3689 := by rw [eI3693, pp_ne _ _ (Or.inl (ly_ne hy (by decide) (by decide) (by decide)))]; exact ew3689
                  clear eI3693
                  refine WP_iinc (ls' := [(0, _), (1, _), (2, _), (3, _), (4, _), (5, _)]) dX11_values_69 rfl (by decide) rfl ?_
                  have hv3698 : (i3648 + Int32.ofInt (1)).toInt = i3648.toInt + (1) := ia_n rfl (by omega) (by omega)
                  generalize i3648 + Int32.ofInt (1) = v3698 at hv3698 ⊢
                  refine WP_goto 35 dX11_values_72 rfl ?_
                  exact WP_sub (fc rfl (fc rfl (fc rfl (fc rfl (fc rfl (fc rfl fn)))))) (ihlp35_3652 v3684 v3698 I3693 J3683 hI3693 w3687 e3695 w3688 e3696 (by omega) (by omega) (by omega) (by omega) (by omega) (by omega))
          exact WP_sub (fc rfl (fc rfl (fc rfl (fc rfl (fc rfl (fc rfl fn)))))) (lp35_3652 _ i3561 v3646 I3563 J3564 hI3563 w3565 ew3565 w3566 ew3566 (by omega) (by omega) (by omega) (by omega) (by omega) (Nat.lt_succ_self _))
  exact WP_sub (fc rfl (fc rfl (fc rfl (fc rfl (fc rfl fn))))) (lp19_3566 _ v3559 v3560 I3552 J3553 hI3552 w3557 ew3557 w3558 ew3558 (by omega) (by omega) (by omega) (by omega) (by omega) (Nat.lt_succ_self _))
set_option maxHeartbeats 4000000 in
set_option maxRecDepth 100000 in
theorem sm_isBest {g : GG} {n : Int} {L : Int32} (hy : Ly g)  {I : pI} {J : pJ} {R : pR} (hr : Rf g R) (hI : MP g n L I) (a : Int32) (b : Int32) (c : Int32) (e : Int32) (k : Int32)  : SP g mX11_isBest [.ref (ad g 0), .int a, .int b, .int c, .int e, .int k] I J R (fun r I' J' R' => (I' = I ∧ J' = J ∧ R' = R) ∧ ∃ v : Int32, r = some (.int v) ∧ 0 ≤ v.toInt ∧ v.toInt ≤ 1 ∧ (v.toInt = 1 → (0 ≤ a.toInt ∧ a.toInt ≤ 3 ∧ a.toInt < (I (ad g 0) 10).toInt) ∧ (0 ≤ b.toInt ∧ b.toInt ≤ 6) ∧ (0 ≤ c.toInt ∧ c.toInt ≤ 60) ∧ (0 ≤ e.toInt ∧ e.toInt ≤ 5) ∧ (0 ≤ k.toInt ∧ k.toInt ≤ 28))) := by
  refine SP_of ⟨by decide, rfl⟩ (Nat.le_of_ble_eq_true rfl) ?_
  have e3699 : I (ad g 0) 1 = L := hI.1.2
  have b3700 := BT_get hI.1.1 0 1 2 (0) (0) (900) (by decide) 1 (by decide) (by decide)
  rw [e3699] at b3700
  refine WP_aload_n dX11_isBest_0 rfl ?_
  refine WP_iload_n dX11_isBest_1 rfl ?_
  refine WP_callV1 (k := 11) dX11_isBest_2 ⟨⟨⟨by decide, by decide⟩, zX11_isSort⟩, lX11_367, by decide, rfl, vX11_isSort.1, vX11_isSort.2⟩ (ly_is hy 0 11 rfl) (sm_isSort hy hr hI a ) (Nat.le_of_ble_eq_true rfl) ?_
  intro r Ia Ja Ra hq
  obtain ⟨⟨ea, eb, ec⟩, v3701, rfl, av3701, bv3701, cv3701⟩ := hq
  show WP _ _ _ _ (.int _ :: _) _ _ _ _
  rw [ea, eb, ec]
  clear ea eb ec Ia Ja Ra
  obtain ⟨w3702, ew3702⟩ : ∃ w : Int32, I (ad g 0) 10 = w := ⟨_, rfl⟩
  have bw3702 := BT_get hI.1.1 0 10 11 (0) (0) (4) (by decide) 10 (by decide) (by decide)
  rw [ew3702] at bw3702
  rw [ew3702] at cv3701
  refine WQ_if_eq 47 dX11_isBest_5 rfl (fun c3702 => ?_) (fun c3702 => ?_)
  · refine WQ_iconst (0) (0) dX11_isBest_47 rfl rfl (fun v3704 hv3704 => ?_)
    exact WP_zret dX11_isBest_48 rfl (nar_z (by omega)) ⟨⟨rfl, rfl, rfl⟩, _, rfl, by omega, by omega, by (try rw [ew3702]); omega⟩
  · refine WP_iload_n dX11_isBest_8 rfl ?_
    refine WP_callS1 dX11_isBest_9 ⟨⟨⟨by decide, by decide⟩, zX11_isDay⟩, lX11_370, tX11_isDay⟩ (sm_isDay hy hr hI b ) (Nat.le_of_ble_eq_true rfl) ?_
    intro r Ia Ja Ra hq
    obtain ⟨⟨ea, eb, ec⟩, v3705, rfl, av3705, bv3705, cv3705⟩ := hq
    show WP _ _ _ _ (.int _ :: _) _ _ _ _
    rw [ea, eb, ec]
    clear ea eb ec Ia Ja Ra
    refine WQ_if_eq 47 dX11_isBest_12 rfl (fun c3705 => ?_) (fun c3705 => ?_)
    · refine WQ_iconst (0) (0) dX11_isBest_47 rfl rfl (fun v3707 hv3707 => ?_)
      exact WP_zret dX11_isBest_48 rfl (nar_z (by omega)) ⟨⟨rfl, rfl, rfl⟩, _, rfl, by omega, by omega, by (try rw [ew3702]); omega⟩
    · refine WP_iload_n dX11_isBest_15 rfl ?_
      refine WP_callS1 dX11_isBest_16 ⟨⟨⟨by decide, by decide⟩, zX11_areCoins⟩, lX11_392, tX11_areCoins⟩ (sm_areCoins hy hr hI c ) (Nat.le_of_ble_eq_true rfl) ?_
      intro r Ia Ja Ra hq
      obtain ⟨⟨ea, eb, ec⟩, v3708, rfl, av3708, bv3708, cv3708⟩ := hq
      show WP _ _ _ _ (.int _ :: _) _ _ _ _
      rw [ea, eb, ec]
      clear ea eb ec Ia Ja Ra
      refine WQ_if_eq 47 dX11_isBest_19 rfl (fun c3708 => ?_) (fun c3708 => ?_)
      · refine WQ_iconst (0) (0) dX11_isBest_47 rfl rfl (fun v3710 hv3710 => ?_)
        exact WP_zret dX11_isBest_48 rfl (nar_z (by omega)) ⟨⟨rfl, rfl, rfl⟩, _, rfl, by omega, by omega, by (try rw [ew3702]); omega⟩
      · refine WP_iload dX11_isBest_22 rfl ?_
        refine WP_callS1 dX11_isBest_24 ⟨⟨⟨by decide, by decide⟩, zX11_isStore⟩, lX11_395, tX11_isStore⟩ (sm_isStore hy hr hI e ) (Nat.le_of_ble_eq_true rfl) ?_
        intro r Ia Ja Ra hq
        obtain ⟨⟨ea, eb, ec⟩, v3711, rfl, av3711, bv3711, cv3711⟩ := hq
        show WP _ _ _ _ (.int _ :: _) _ _ _ _
        rw [ea, eb, ec]
        clear ea eb ec Ia Ja Ra
        refine WQ_if_eq 47 dX11_isBest_27 rfl (fun c3711 => ?_) (fun c3711 => ?_)
        · refine WQ_iconst (0) (0) dX11_isBest_47 rfl rfl (fun v3713 hv3713 => ?_)
          exact WP_zret dX11_isBest_48 rfl (nar_z (by omega)) ⟨⟨rfl, rfl, rfl⟩, _, rfl, by omega, by omega, by (try rw [ew3702]); omega⟩
        · refine WP_iload dX11_isBest_30 rfl ?_
          refine WQ_i2l dX11_isBest_32 (fun l3714 hl3714 => ?_)
          refine WP_lconst (0) dX11_isBest_33 rfl ?_
          obtain ⟨l3715, hl3715, el3715⟩ : ∃ v : Int64, v.toInt = 0 ∧ (0 : Int64) = v := ⟨_, rfl, rfl⟩
          rw [el3715]; clear el3715
          refine WP_ldc2 (28) dX11_isBest_34 klX11_433 ?_
          obtain ⟨l3716, hl3716, el3716⟩ : ∃ v : Int64, v.toInt = (28) ∧ ((28) : Int64) = v := ⟨_, rfl, rfl⟩
          rw [el3716]; clear el3716
          refine WP_callS3 dX11_isBest_37 ⟨⟨⟨by decide, by decide⟩, zX11_in⟩, lX11_52, tX11_in⟩ (sm_in hy hr hI l3714 l3715 l3716 ) (Nat.le_of_ble_eq_true rfl) ?_
          intro r Ia Ja Ra hq
          obtain ⟨⟨ea, eb, ec⟩, v3717, rfl, av3717, bv3717, cv3717⟩ := hq
          show WP _ _ _ _ (.int _ :: _) _ _ _ _
          rw [ea, eb, ec]
          clear ea eb ec Ia Ja Ra
          refine WQ_if_eq 47 dX11_isBest_40 rfl (fun c3717 => ?_) (fun c3717 => ?_)
          · refine WQ_iconst (0) (0) dX11_isBest_47 rfl rfl (fun v3719 hv3719 => ?_)
            exact WP_zret dX11_isBest_48 rfl (nar_z (by omega)) ⟨⟨rfl, rfl, rfl⟩, _, rfl, by omega, by omega, by (try rw [ew3702]); omega⟩
          · refine WQ_iconst (1) (1) dX11_isBest_43 rfl rfl (fun v3720 hv3720 => ?_)
            refine WP_goto 48 dX11_isBest_44 rfl ?_
            exact WP_zret dX11_isBest_48 rfl (nar_z (by omega)) ⟨⟨rfl, rfl, rfl⟩, _, rfl, by omega, by omega, by (try rw [ew3702]); omega⟩
set_option maxHeartbeats 4000000 in
set_option maxRecDepth 100000 in
theorem sm_earned {g : GG} {n : Int} {L : Int32} (hy : Ly g)  {I : pI} {J : pJ} {R : pR} (hr : Rf g R) (hI : MP g n L I) (so : Int32) (da : Int32) (co : Int32) (so_lo : 0 ≤ so.toInt) (so_hi : so.toInt ≤ 3) (da_lo : 0 ≤ da.toInt) (da_hi : da.toInt ≤ 6) (co_lo : 0 ≤ co.toInt) (co_hi : co.toInt ≤ 60) : SP g mX11_earned [.ref (ad g 0), .int so, .int da, .int co] I J R (fun r I' J' R' => (I' = I ∧ J' = J ∧ R' = R) ∧ ∃ v : Int32, r = some (.int v) ∧ 0 ≤ v.toInt ∧ v.toInt ≤ 60) := by
  refine SP_of ⟨by decide, rfl⟩ (Nat.le_of_ble_eq_true rfl) ?_
  have e3721 : I (ad g 0) 1 = L := hI.1.2
  have b3722 := BT_get hI.1.1 0 1 2 (0) (0) (900) (by decide) 1 (by decide) (by decide)
  rw [e3721] at b3722
  refine WQ_bipush (60) (60) dX11_earned_0 rfl rfl (fun v3723 hv3723 => ?_)
  refine WP_iload_n dX11_earned_2 rfl ?_
  refine WP_aload_n dX11_earned_3 rfl ?_
  refine WP_getr dX11_earned_4 fX11_252 rfl (ly_is hy 0 11 rfl) (rf hr 0 38 20 (by decide)) ?_
  refine WQ_bipush (7) (7) dX11_earned_7 rfl rfl (fun v3724 hv3724 => ?_)
  refine WP_iload_n dX11_earned_9 rfl ?_
  refine WQ_imulK (7) dX11_earned_10 hv3724 (by omega) (by omega) (fun v3725 hv3725 => ?_)
  refine WP_iload_n dX11_earned_11 rfl ?_
  refine WQ_iadd dX11_earned_12 (by omega) (by omega) (fun v3726 hv3726 => ?_)
  refine WQ_iald dX11_earned_13 (ly_is hy 20 13 rfl) (ly_n hy 20 28 rfl) (by omega) (by omega) (fun q hq => BT_get hI.1.1 20 0 28 (0) (0) (20) (by decide) q (Nat.zero_le _) hq) (fun v3727 av3727 bv3727 ev3727 => ?_)
  clear ev3727
  refine WQ_iadd dX11_earned_14 (by omega) (by omega) (fun v3728 hv3728 => ?_)
  refine WQ_min dX11_earned_15 lX11_417 ⟨by decide, Nat.le_of_ble_eq_true rfl⟩ (fun v3729 av3729 bv3729 cv3729 => ?_)
  exact WP_iret dX11_earned_18 rfl ⟨⟨rfl, rfl, rfl⟩, _, rfl, by omega, by omega⟩
