set_option maxHeartbeats 8000000 in
set_option maxRecDepth 100000 in
theorem n_X11b {B : GB} (hB : KB B kT nT) : SN B mX11_init 1 (49, 48, 24519) [.ref (b_b B + 0)] (fun _ _ => 0) (fun _ _ => 0) (fun _ _ => none) (fun I' J' R' => Rf (gk B 49) R' ∧ MP (gk B 49) 0 0 I' ∧ MS0 (gk B 49) I') := by
  refine SN_of ⟨by decide, rfl, rfl⟩ (Nat.le_of_ble_eq_true rfl) ?_
  have hE : RI B (eM.drop 48) (fun _ _ => none) := fun e he => absurd he (by rw [show eM.drop 48 = [] from rfl]; exact List.not_mem_nil)
  refine WN_aload_n dX11_init_0 rfl ?_
  refine WN_obji dX11_init_1 lX11_216 (by decide) ?_
  refine WN_aload_n dX11_init_4 rfl ?_
  refine WN_sipush (900) dX11_init_5 rfl ?_
  refine WN_newaQ (N := 900) (k2 := 2) (c2 := 1) (s2 := 900) 0 ⟨rfl, rfl, rfl, rfl⟩ dX11_init_8 nw_byte (kx hB rfl) (nx hB rfl) (by decide) (by decide) (by decide) ?_
  refine WN_putr (E := (eM.drop 48)) (c := 0) (t := 1) dX11_init_10 fX11_16 rfl rfl rfl rfl (by decide) (kx hB rfl) hE (by decide) (fun R9 hE9 => ?_)
  clear hE; have hE : RI B (eM.drop 47) R9 := hE9; clear hE9
  refine WN_aload_n dX11_init_13 rfl ?_
  refine WN_iconst (-1) dX11_init_14 rfl ?_
  refine WN_puti dX11_init_15 fX11_10 rfl rfl (gk_is 11 (by decide) (kx hB rfl)) ?_
  refine WN_aload_n dX11_init_18 rfl ?_
  refine WN_iconst (-1) dX11_init_19 rfl ?_
  refine WN_puti dX11_init_20 fX11_221 rfl rfl (gk_is 11 (by decide) (kx hB rfl)) ?_
  refine WN_aload_n dX11_init_23 rfl ?_
  refine WN_iconst (-1) dX11_init_24 rfl ?_
  refine WN_puti dX11_init_25 fX11_224 rfl rfl (gk_is 11 (by decide) (kx hB rfl)) ?_
  refine WN_aload_n dX11_init_28 rfl ?_
  refine WN_iconst (4) dX11_init_29 rfl ?_
  refine WN_newaQ (N := 4) (k2 := 3) (c2 := 2) (s2 := 904) 1 ⟨rfl, rfl, rfl, rfl⟩ dX11_init_30 nw_long (kx hB rfl) (nx hB rfl) (by decide) (by decide) (by decide) ?_
  refine WN_putr (E := (eM.drop 47)) (c := 0) (t := 2) dX11_init_32 fX11_227 rfl rfl rfl rfl (by decide) (kx hB rfl) hE (by decide) (fun R9 hE9 => ?_)
  clear hE; have hE : RI B (eM.drop 46) R9 := hE9; clear hE9
  refine WN_aload_n dX11_init_35 rfl ?_
  refine WN_iconst (3) dX11_init_36 rfl ?_
  refine WN_newaQ (N := 3) (k2 := 4) (c2 := 3) (s2 := 907) 2 ⟨rfl, rfl, rfl, rfl⟩ dX11_init_37 nw_long (kx hB rfl) (nx hB rfl) (by decide) (by decide) (by decide) ?_
  refine WN_putr (E := (eM.drop 46)) (c := 0) (t := 3) dX11_init_39 fX11_230 rfl rfl rfl rfl (by decide) (kx hB rfl) hE (by decide) (fun R9 hE9 => ?_)
  clear hE; have hE : RI B (eM.drop 45) R9 := hE9; clear hE9
  refine WN_aload_n dX11_init_42 rfl ?_
  refine WN_iconst (4) dX11_init_43 rfl ?_
  refine WN_newaQ (N := 4) (k2 := 5) (c2 := 4) (s2 := 911) 3 ⟨rfl, rfl, rfl, rfl⟩ dX11_init_44 nw_long (kx hB rfl) (nx hB rfl) (by decide) (by decide) (by decide) ?_
  refine WN_putr (E := (eM.drop 45)) (c := 0) (t := 4) dX11_init_46 fX11_91 rfl rfl rfl rfl (by decide) (kx hB rfl) hE (by decide) (fun R9 hE9 => ?_)
  clear hE; have hE : RI B (eM.drop 44) R9 := hE9; clear hE9
  refine WN_aload_n dX11_init_49 rfl ?_
  refine WN_iconst (3) dX11_init_50 rfl ?_
  refine WN_newaQ (N := 3) (k2 := 6) (c2 := 5) (s2 := 914) 4 ⟨rfl, rfl, rfl, rfl⟩ dX11_init_51 nw_long (kx hB rfl) (nx hB rfl) (by decide) (by decide) (by decide) ?_
  refine WN_putr (E := (eM.drop 44)) (c := 0) (t := 5) dX11_init_53 fX11_129 rfl rfl rfl rfl (by decide) (kx hB rfl) hE (by decide) (fun R9 hE9 => ?_)
  clear hE; have hE : RI B (eM.drop 43) R9 := hE9; clear hE9
  refine WN_aload_n dX11_init_56 rfl ?_
  refine WN_bipush (7) dX11_init_57 rfl ?_
  refine WN_newaQ (N := 7) (k2 := 7) (c2 := 6) (s2 := 921) 5 ⟨rfl, rfl, rfl, rfl⟩ dX11_init_59 nw_int (kx hB rfl) (nx hB rfl) (by decide) (by decide) (by decide) ?_
  refine WN_putr (E := (eM.drop 43)) (c := 0) (t := 6) dX11_init_61 fX11_233 rfl rfl rfl rfl (by decide) (kx hB rfl) hE (by decide) (fun R9 hE9 => ?_)
  clear hE; have hE : RI B (eM.drop 42) R9 := hE9; clear hE9
  refine WN_aload_n dX11_init_64 rfl ?_
  refine WN_bipush (7) dX11_init_65 rfl ?_
  refine WN_newaQ (N := 7) (k2 := 8) (c2 := 7) (s2 := 928) 6 ⟨rfl, rfl, rfl, rfl⟩ dX11_init_67 nw_int (kx hB rfl) (nx hB rfl) (by decide) (by decide) (by decide) ?_
  refine WN_putr (E := (eM.drop 42)) (c := 0) (t := 7) dX11_init_69 fX11_84 rfl rfl rfl rfl (by decide) (kx hB rfl) hE (by decide) (fun R9 hE9 => ?_)
  clear hE; have hE : RI B (eM.drop 41) R9 := hE9; clear hE9
  refine WN_aload_n dX11_init_72 rfl ?_
  refine WN_iconst (4) dX11_init_73 rfl ?_
  refine WN_newaQ (N := 4) (k2 := 9) (c2 := 8) (s2 := 932) 7 ⟨rfl, rfl, rfl, rfl⟩ dX11_init_74 nw_int (kx hB rfl) (nx hB rfl) (by decide) (by decide) (by decide) ?_
  refine WN_putr (E := (eM.drop 41)) (c := 0) (t := 8) dX11_init_76 fX11_235 rfl rfl rfl rfl (by decide) (kx hB rfl) hE (by decide) (fun R9 hE9 => ?_)
  clear hE; have hE : RI B (eM.drop 40) R9 := hE9; clear hE9
  refine WN_aload_n dX11_init_79 rfl ?_
  refine WN_iconst (4) dX11_init_80 rfl ?_
  refine WN_newaQ (N := 4) (k2 := 10) (c2 := 9) (s2 := 936) 8 ⟨rfl, rfl, rfl, rfl⟩ dX11_init_81 nw_int (kx hB rfl) (nx hB rfl) (by decide) (by decide) (by decide) ?_
  refine WN_putr (E := (eM.drop 40)) (c := 0) (t := 9) dX11_init_83 fX11_238 rfl rfl rfl rfl (by decide) (kx hB rfl) hE (by decide) (fun R9 hE9 => ?_)
  clear hE; have hE : RI B (eM.drop 39) R9 := hE9; clear hE9
  refine WN_aload_n dX11_init_86 rfl ?_
  refine WN_iconst (4) dX11_init_87 rfl ?_
  refine WN_newaQ (N := 4) (k2 := 11) (c2 := 10) (s2 := 940) 9 ⟨rfl, rfl, rfl, rfl⟩ dX11_init_88 nw_int (kx hB rfl) (nx hB rfl) (by decide) (by decide) (by decide) ?_
  refine WN_putr (E := (eM.drop 39)) (c := 0) (t := 10) dX11_init_90 fX11_241 rfl rfl rfl rfl (by decide) (kx hB rfl) hE (by decide) (fun R9 hE9 => ?_)
  clear hE; have hE : RI B (eM.drop 38) R9 := hE9; clear hE9
  refine WN_aload_n dX11_init_93 rfl ?_
  refine WN_iconst (4) dX11_init_94 rfl ?_
  refine WN_newaQ (N := 4) (k2 := 12) (c2 := 11) (s2 := 944) 10 ⟨rfl, rfl, rfl, rfl⟩ dX11_init_95 nw_int (kx hB rfl) (nx hB rfl) (by decide) (by decide) (by decide) ?_
  refine WN_putr (E := (eM.drop 38)) (c := 0) (t := 11) dX11_init_97 fX11_244 rfl rfl rfl rfl (by decide) (kx hB rfl) hE (by decide) (fun R9 hE9 => ?_)
  clear hE; have hE : RI B (eM.drop 37) R9 := hE9; clear hE9
  refine WN_aload_n dX11_init_100 rfl ?_
  refine WN_iconst (3) dX11_init_101 rfl ?_
  refine WN_newaQ (N := 3) (k2 := 13) (c2 := 12) (s2 := 947) 11 ⟨rfl, rfl, rfl, rfl⟩ dX11_init_102 nw_int (kx hB rfl) (nx hB rfl) (by decide) (by decide) (by decide) ?_
  refine WN_putr (E := (eM.drop 37)) (c := 0) (t := 12) dX11_init_104 fX11_246 rfl rfl rfl rfl (by decide) (kx hB rfl) hE (by decide) (fun R9 hE9 => ?_)
  clear hE; have hE : RI B (eM.drop 36) R9 := hE9; clear hE9
  refine WN_aload_n dX11_init_107 rfl ?_
  refine WN_iconst (3) dX11_init_108 rfl ?_
  refine WN_newaQ (N := 3) (k2 := 14) (c2 := 13) (s2 := 950) 12 ⟨rfl, rfl, rfl, rfl⟩ dX11_init_109 nw_int (kx hB rfl) (nx hB rfl) (by decide) (by decide) (by decide) ?_
  refine WN_putr (E := (eM.drop 36)) (c := 0) (t := 13) dX11_init_111 fX11_249 rfl rfl rfl rfl (by decide) (kx hB rfl) hE (by decide) (fun R9 hE9 => ?_)
  clear hE; have hE : RI B (eM.drop 35) R9 := hE9; clear hE9
  refine WN_aload_n dX11_init_114 rfl ?_
  refine WN_iconst (4) dX11_init_115 rfl ?_
  refine WN_newaQ (N := 4) (k2 := 15) (c2 := 14) (s2 := 954) 13 ⟨rfl, rfl, rfl, rfl⟩ dX11_init_116 nw_int (kx hB rfl) (nx hB rfl) (by decide) (by decide) (by decide) ?_
  refine WN_putr (E := (eM.drop 35)) (c := 0) (t := 14) dX11_init_118 fX11_99 rfl rfl rfl rfl (by decide) (kx hB rfl) hE (by decide) (fun R9 hE9 => ?_)
  clear hE; have hE : RI B (eM.drop 34) R9 := hE9; clear hE9
  refine WN_aload_n dX11_init_121 rfl ?_
  refine WN_iconst (4) dX11_init_122 rfl ?_
  refine WN_newaQ (N := 4) (k2 := 16) (c2 := 15) (s2 := 958) 14 ⟨rfl, rfl, rfl, rfl⟩ dX11_init_123 nw_int (kx hB rfl) (nx hB rfl) (by decide) (by decide) (by decide) ?_
  refine WN_putr (E := (eM.drop 34)) (c := 0) (t := 15) dX11_init_125 fX11_102 rfl rfl rfl rfl (by decide) (kx hB rfl) hE (by decide) (fun R9 hE9 => ?_)
  clear hE; have hE : RI B (eM.drop 33) R9 := hE9; clear hE9
  refine WN_aload_n dX11_init_128 rfl ?_
  refine WN_iconst (4) dX11_init_129 rfl ?_
  refine WN_newaQ (N := 4) (k2 := 17) (c2 := 16) (s2 := 962) 15 ⟨rfl, rfl, rfl, rfl⟩ dX11_init_130 nw_int (kx hB rfl) (nx hB rfl) (by decide) (by decide) (by decide) ?_
  refine WN_putr (E := (eM.drop 33)) (c := 0) (t := 16) dX11_init_132 fX11_105 rfl rfl rfl rfl (by decide) (kx hB rfl) hE (by decide) (fun R9 hE9 => ?_)
  clear hE; have hE : RI B (eM.drop 32) R9 := hE9; clear hE9
  refine WN_aload_n dX11_init_135 rfl ?_
  refine WN_iconst (4) dX11_init_136 rfl ?_
  refine WN_newaQ (N := 4) (k2 := 18) (c2 := 17) (s2 := 966) 16 ⟨rfl, rfl, rfl, rfl⟩ dX11_init_137 nw_int (kx hB rfl) (nx hB rfl) (by decide) (by decide) (by decide) ?_
  refine WN_putr (E := (eM.drop 32)) (c := 0) (t := 17) dX11_init_139 fX11_108 rfl rfl rfl rfl (by decide) (kx hB rfl) hE (by decide) (fun R9 hE9 => ?_)
  clear hE; have hE : RI B (eM.drop 31) R9 := hE9; clear hE9
  refine WN_aload_n dX11_init_142 rfl ?_
  refine WN_iconst (3) dX11_init_143 rfl ?_
  refine WN_newaQ (N := 3) (k2 := 19) (c2 := 18) (s2 := 969) 17 ⟨rfl, rfl, rfl, rfl⟩ dX11_init_144 nw_int (kx hB rfl) (nx hB rfl) (by decide) (by decide) (by decide) ?_
  refine WN_putr (E := (eM.drop 31)) (c := 0) (t := 18) dX11_init_146 fX11_132 rfl rfl rfl rfl (by decide) (kx hB rfl) hE (by decide) (fun R9 hE9 => ?_)
  clear hE; have hE : RI B (eM.drop 30) R9 := hE9; clear hE9
  refine WN_aload_n dX11_init_149 rfl ?_
  refine WN_iconst (3) dX11_init_150 rfl ?_
  refine WN_newaQ (N := 3) (k2 := 20) (c2 := 19) (s2 := 972) 18 ⟨rfl, rfl, rfl, rfl⟩ dX11_init_151 nw_int (kx hB rfl) (nx hB rfl) (by decide) (by decide) (by decide) ?_
  refine WN_putr (E := (eM.drop 30)) (c := 0) (t := 19) dX11_init_153 fX11_135 rfl rfl rfl rfl (by decide) (kx hB rfl) hE (by decide) (fun R9 hE9 => ?_)
  clear hE; have hE : RI B (eM.drop 29) R9 := hE9; clear hE9
  refine WN_aload_n dX11_init_156 rfl ?_
  refine WN_bipush (28) dX11_init_157 rfl ?_
  refine WN_newaQ (N := 28) (k2 := 21) (c2 := 20) (s2 := 1000) 19 ⟨rfl, rfl, rfl, rfl⟩ dX11_init_159 nw_int (kx hB rfl) (nx hB rfl) (by decide) (by decide) (by decide) ?_
  refine WN_putr (E := (eM.drop 29)) (c := 0) (t := 20) dX11_init_161 fX11_252 rfl rfl rfl rfl (by decide) (kx hB rfl) hE (by decide) (fun R9 hE9 => ?_)
  clear hE; have hE : RI B (eM.drop 28) R9 := hE9; clear hE9
  refine WN_aload_n dX11_init_164 rfl ?_
  refine WN_bipush (21) dX11_init_165 rfl ?_
  refine WN_newaQ (N := 21) (k2 := 22) (c2 := 21) (s2 := 1021) 20 ⟨rfl, rfl, rfl, rfl⟩ dX11_init_167 nw_int (kx hB rfl) (nx hB rfl) (by decide) (by decide) (by decide) ?_
  refine WN_putr (E := (eM.drop 28)) (c := 0) (t := 21) dX11_init_169 fX11_254 rfl rfl rfl rfl (by decide) (kx hB rfl) hE (by decide) (fun R9 hE9 => ?_)
  clear hE; have hE : RI B (eM.drop 27) R9 := hE9; clear hE9
  refine WN_aload_n dX11_init_172 rfl ?_
  refine WN_bipush (21) dX11_init_173 rfl ?_
  refine WN_newaQ (N := 21) (k2 := 23) (c2 := 22) (s2 := 1042) 21 ⟨rfl, rfl, rfl, rfl⟩ dX11_init_175 nw_int (kx hB rfl) (nx hB rfl) (by decide) (by decide) (by decide) ?_
  refine WN_putr (E := (eM.drop 27)) (c := 0) (t := 22) dX11_init_177 fX11_257 rfl rfl rfl rfl (by decide) (kx hB rfl) hE (by decide) (fun R9 hE9 => ?_)
  clear hE; have hE : RI B (eM.drop 26) R9 := hE9; clear hE9
  refine WN_aload_n dX11_init_180 rfl ?_
  refine WN_bipush (21) dX11_init_181 rfl ?_
  refine WN_newaQ (N := 21) (k2 := 24) (c2 := 23) (s2 := 1063) 22 ⟨rfl, rfl, rfl, rfl⟩ dX11_init_183 nw_int (kx hB rfl) (nx hB rfl) (by decide) (by decide) (by decide) ?_
  refine WN_putr (E := (eM.drop 26)) (c := 0) (t := 23) dX11_init_185 fX11_259 rfl rfl rfl rfl (by decide) (kx hB rfl) hE (by decide) (fun R9 hE9 => ?_)
  clear hE; have hE : RI B (eM.drop 25) R9 := hE9; clear hE9
  refine WN_aload_n dX11_init_188 rfl ?_
  refine WN_bipush (28) dX11_init_189 rfl ?_
  refine WN_newaQ (N := 28) (k2 := 25) (c2 := 24) (s2 := 1091) 23 ⟨rfl, rfl, rfl, rfl⟩ dX11_init_191 nw_int (kx hB rfl) (nx hB rfl) (by decide) (by decide) (by decide) ?_
  refine WN_putr (E := (eM.drop 25)) (c := 0) (t := 24) dX11_init_193 fX11_261 rfl rfl rfl rfl (by decide) (kx hB rfl) hE (by decide) (fun R9 hE9 => ?_)
  clear hE; have hE : RI B (eM.drop 24) R9 := hE9; clear hE9
  refine WN_aload_n dX11_init_196 rfl ?_
  refine WN_bipush (28) dX11_init_197 rfl ?_
  refine WN_newaQ (N := 28) (k2 := 26) (c2 := 25) (s2 := 1119) 24 ⟨rfl, rfl, rfl, rfl⟩ dX11_init_199 nw_int (kx hB rfl) (nx hB rfl) (by decide) (by decide) (by decide) ?_
  refine WN_putr (E := (eM.drop 24)) (c := 0) (t := 25) dX11_init_201 fX11_264 rfl rfl rfl rfl (by decide) (kx hB rfl) hE (by decide) (fun R9 hE9 => ?_)
  clear hE; have hE : RI B (eM.drop 23) R9 := hE9; clear hE9
  refine WN_aload_n dX11_init_204 rfl ?_
  refine WN_bipush (28) dX11_init_205 rfl ?_
  refine WN_newaQ (N := 28) (k2 := 27) (c2 := 26) (s2 := 1147) 25 ⟨rfl, rfl, rfl, rfl⟩ dX11_init_207 nw_int (kx hB rfl) (nx hB rfl) (by decide) (by decide) (by decide) ?_
  refine WN_putr (E := (eM.drop 23)) (c := 0) (t := 26) dX11_init_209 fX11_267 rfl rfl rfl rfl (by decide) (kx hB rfl) hE (by decide) (fun R9 hE9 => ?_)
  clear hE; have hE : RI B (eM.drop 22) R9 := hE9; clear hE9
  refine WN_aload_n dX11_init_212 rfl ?_
  refine WN_bipush (28) dX11_init_213 rfl ?_
  refine WN_newaQ (N := 28) (k2 := 28) (c2 := 27) (s2 := 1175) 26 ⟨rfl, rfl, rfl, rfl⟩ dX11_init_215 nw_int (kx hB rfl) (nx hB rfl) (by decide) (by decide) (by decide) ?_
  refine WN_putr (E := (eM.drop 22)) (c := 0) (t := 27) dX11_init_217 fX11_114 rfl rfl rfl rfl (by decide) (kx hB rfl) hE (by decide) (fun R9 hE9 => ?_)
  clear hE; have hE : RI B (eM.drop 21) R9 := hE9; clear hE9
  refine WN_aload_n dX11_init_220 rfl ?_
  refine WN_bipush (21) dX11_init_221 rfl ?_
  refine WN_newaQ (N := 21) (k2 := 29) (c2 := 28) (s2 := 1196) 27 ⟨rfl, rfl, rfl, rfl⟩ dX11_init_223 nw_int (kx hB rfl) (nx hB rfl) (by decide) (by decide) (by decide) ?_
  refine WN_putr (E := (eM.drop 21)) (c := 0) (t := 28) dX11_init_225 fX11_141 rfl rfl rfl rfl (by decide) (kx hB rfl) hE (by decide) (fun R9 hE9 => ?_)
  clear hE; have hE : RI B (eM.drop 20) R9 := hE9; clear hE9
  refine WN_aload_n dX11_init_228 rfl ?_
  refine WN_bipush (21) dX11_init_229 rfl ?_
  refine WN_newaQ (N := 21) (k2 := 30) (c2 := 29) (s2 := 1217) 28 ⟨rfl, rfl, rfl, rfl⟩ dX11_init_231 nw_int (kx hB rfl) (nx hB rfl) (by decide) (by decide) (by decide) ?_
  refine WN_putr (E := (eM.drop 20)) (c := 0) (t := 29) dX11_init_233 fX11_144 rfl rfl rfl rfl (by decide) (kx hB rfl) hE (by decide) (fun R9 hE9 => ?_)
  clear hE; have hE : RI B (eM.drop 19) R9 := hE9; clear hE9
  refine WN_aload_n dX11_init_236 rfl ?_
  refine WN_bipush (28) dX11_init_237 rfl ?_
  refine WN_newaQ (N := 28) (k2 := 31) (c2 := 30) (s2 := 1245) 29 ⟨rfl, rfl, rfl, rfl⟩ dX11_init_239 nw_int (kx hB rfl) (nx hB rfl) (by decide) (by decide) (by decide) ?_
  refine WN_putr (E := (eM.drop 19)) (c := 0) (t := 30) dX11_init_241 fX11_117 rfl rfl rfl rfl (by decide) (kx hB rfl) hE (by decide) (fun R9 hE9 => ?_)
  clear hE; have hE : RI B (eM.drop 18) R9 := hE9; clear hE9
  refine WN_aload_n dX11_init_244 rfl ?_
  refine WN_bipush (28) dX11_init_245 rfl ?_
  refine WN_newaQ (N := 28) (k2 := 32) (c2 := 31) (s2 := 1273) 30 ⟨rfl, rfl, rfl, rfl⟩ dX11_init_247 nw_int (kx hB rfl) (nx hB rfl) (by decide) (by decide) (by decide) ?_
  refine WN_putr (E := (eM.drop 18)) (c := 0) (t := 31) dX11_init_249 fX11_120 rfl rfl rfl rfl (by decide) (kx hB rfl) hE (by decide) (fun R9 hE9 => ?_)
  clear hE; have hE : RI B (eM.drop 17) R9 := hE9; clear hE9
  refine WN_aload_n dX11_init_252 rfl ?_
  refine WN_bipush (28) dX11_init_253 rfl ?_
  refine WN_newaQ (N := 28) (k2 := 33) (c2 := 32) (s2 := 1301) 31 ⟨rfl, rfl, rfl, rfl⟩ dX11_init_255 nw_int (kx hB rfl) (nx hB rfl) (by decide) (by decide) (by decide) ?_
  refine WN_putr (E := (eM.drop 17)) (c := 0) (t := 32) dX11_init_257 fX11_123 rfl rfl rfl rfl (by decide) (kx hB rfl) hE (by decide) (fun R9 hE9 => ?_)
  clear hE; have hE : RI B (eM.drop 16) R9 := hE9; clear hE9
  refine WN_aload_n dX11_init_260 rfl ?_
  refine WN_iconst (4) dX11_init_261 rfl ?_
  refine WN_newaQ (N := 4) (k2 := 34) (c2 := 33) (s2 := 1305) 32 ⟨rfl, rfl, rfl, rfl⟩ dX11_init_262 nw_int (kx hB rfl) (nx hB rfl) (by decide) (by decide) (by decide) ?_
  refine WN_putr (E := (eM.drop 16)) (c := 0) (t := 33) dX11_init_264 fX11_111 rfl rfl rfl rfl (by decide) (kx hB rfl) hE (by decide) (fun R9 hE9 => ?_)
  clear hE; have hE : RI B (eM.drop 15) R9 := hE9; clear hE9
  refine WN_aload_n dX11_init_267 rfl ?_
  refine WN_iconst (3) dX11_init_268 rfl ?_
  refine WN_newaQ (N := 3) (k2 := 35) (c2 := 34) (s2 := 1308) 33 ⟨rfl, rfl, rfl, rfl⟩ dX11_init_269 nw_int (kx hB rfl) (nx hB rfl) (by decide) (by decide) (by decide) ?_
  refine WN_putr (E := (eM.drop 15)) (c := 0) (t := 34) dX11_init_271 fX11_138 rfl rfl rfl rfl (by decide) (kx hB rfl) hE (by decide) (fun R9 hE9 => ?_)
  clear hE; have hE : RI B (eM.drop 14) R9 := hE9; clear hE9
  refine WN_aload_n dX11_init_274 rfl ?_
  refine WN_sipush (10614) dX11_init_275 rfl ?_
  refine WN_newaQ (N := 10614) (k2 := 36) (c2 := 35) (s2 := 11922) 34 ⟨rfl, rfl, rfl, rfl⟩ dX11_init_278 nw_int (kx hB rfl) (nx hB rfl) (by decide) (by decide) (by decide) ?_
  refine WN_putr (E := (eM.drop 14)) (c := 0) (t := 35) dX11_init_280 fX11_270 rfl rfl rfl rfl (by decide) (kx hB rfl) hE (by decide) (fun R9 hE9 => ?_)
  clear hE; have hE : RI B (eM.drop 13) R9 := hE9; clear hE9
  refine WN_aload_n dX11_init_283 rfl ?_
  refine WN_iconst (-1) dX11_init_284 rfl ?_
  refine WN_puti dX11_init_285 fX11_273 rfl rfl (gk_is 11 (by decide) (kx hB rfl)) ?_
  refine WN_aload_n dX11_init_288 rfl ?_
  refine WN_sipush (10248) dX11_init_289 rfl ?_
  refine WN_newaQ (N := 10248) (k2 := 37) (c2 := 36) (s2 := 22170) 35 ⟨rfl, rfl, rfl, rfl⟩ dX11_init_292 nw_int (kx hB rfl) (nx hB rfl) (by decide) (by decide) (by decide) ?_
  refine WN_putr (E := (eM.drop 13)) (c := 0) (t := 36) dX11_init_294 fX11_276 rfl rfl rfl rfl (by decide) (kx hB rfl) hE (by decide) (fun R9 hE9 => ?_)
  clear hE; have hE : RI B (eM.drop 12) R9 := hE9; clear hE9
  refine WN_aload_n dX11_init_297 rfl ?_
  refine WN_bipush (28) dX11_init_298 rfl ?_
  refine WN_newaQ (N := 28) (k2 := 38) (c2 := 37) (s2 := 22198) 36 ⟨rfl, rfl, rfl, rfl⟩ dX11_init_300 nw_boolean (kx hB rfl) (nx hB rfl) (by decide) (by decide) (by decide) ?_
  refine WN_putr (E := (eM.drop 12)) (c := 0) (t := 37) dX11_init_302 fX11_279 rfl rfl rfl rfl (by decide) (kx hB rfl) hE (by decide) (fun R9 hE9 => ?_)
  clear hE; have hE : RI B (eM.drop 11) R9 := hE9; clear hE9
  refine WN_aload_n dX11_init_305 rfl ?_
  refine WN_bipush (35) dX11_init_306 rfl ?_
  refine WN_newaQ (N := 35) (k2 := 39) (c2 := 38) (s2 := 22233) 37 ⟨rfl, rfl, rfl, rfl⟩ dX11_init_308 nw_int (kx hB rfl) (nx hB rfl) (by decide) (by decide) (by decide) ?_
  refine WN_putr (E := (eM.drop 11)) (c := 0) (t := 38) dX11_init_310 fX11_283 rfl rfl rfl rfl (by decide) (kx hB rfl) hE (by decide) (fun R9 hE9 => ?_)
  clear hE; have hE : RI B (eM.drop 10) R9 := hE9; clear hE9
  refine WN_aload_n dX11_init_313 rfl ?_
  refine WN_bipush (35) dX11_init_314 rfl ?_
  refine WN_newaQ (N := 35) (k2 := 40) (c2 := 39) (s2 := 22268) 38 ⟨rfl, rfl, rfl, rfl⟩ dX11_init_316 nw_int (kx hB rfl) (nx hB rfl) (by decide) (by decide) (by decide) ?_
  refine WN_putr (E := (eM.drop 10)) (c := 0) (t := 39) dX11_init_318 fX11_286 rfl rfl rfl rfl (by decide) (kx hB rfl) hE (by decide) (fun R9 hE9 => ?_)
  clear hE; have hE : RI B (eM.drop 9) R9 := hE9; clear hE9
  refine WN_aload_n dX11_init_321 rfl ?_
  refine WN_iconst (3) dX11_init_322 rfl ?_
  refine WN_newaQ (N := 3) (k2 := 41) (c2 := 40) (s2 := 22271) 39 ⟨rfl, rfl, rfl, rfl⟩ dX11_init_323 nw_int (kx hB rfl) (nx hB rfl) (by decide) (by decide) (by decide) ?_
  refine WN_putr (E := (eM.drop 9)) (c := 0) (t := 40) dX11_init_325 fX11_289 rfl rfl rfl rfl (by decide) (kx hB rfl) hE (by decide) (fun R9 hE9 => ?_)
  clear hE; have hE : RI B (eM.drop 8) R9 := hE9; clear hE9
  refine WN_aload_n dX11_init_328 rfl ?_
  refine WN_bipush (21) dX11_init_329 rfl ?_
  refine WN_newaQ (N := 21) (k2 := 42) (c2 := 41) (s2 := 22292) 40 ⟨rfl, rfl, rfl, rfl⟩ dX11_init_331 nw_int (kx hB rfl) (nx hB rfl) (by decide) (by decide) (by decide) ?_
  refine WN_putr (E := (eM.drop 8)) (c := 0) (t := 41) dX11_init_333 fX11_292 rfl rfl rfl rfl (by decide) (kx hB rfl) hE (by decide) (fun R9 hE9 => ?_)
  clear hE; have hE : RI B (eM.drop 7) R9 := hE9; clear hE9
  refine WN_aload_n dX11_init_336 rfl ?_
  refine WN_bipush (105) dX11_init_337 rfl ?_
  refine WN_newaQ (N := 105) (k2 := 43) (c2 := 42) (s2 := 22397) 41 ⟨rfl, rfl, rfl, rfl⟩ dX11_init_339 nw_int (kx hB rfl) (nx hB rfl) (by decide) (by decide) (by decide) ?_
  refine WN_putr (E := (eM.drop 7)) (c := 0) (t := 42) dX11_init_341 fX11_295 rfl rfl rfl rfl (by decide) (kx hB rfl) hE (by decide) (fun R9 hE9 => ?_)
  clear hE; have hE : RI B (eM.drop 6) R9 := hE9; clear hE9
  refine WN_aload_n dX11_init_344 rfl ?_
  refine WN_iconst (3) dX11_init_345 rfl ?_
  refine WN_newaQ (N := 3) (k2 := 44) (c2 := 43) (s2 := 22400) 42 ⟨rfl, rfl, rfl, rfl⟩ dX11_init_346 nw_long (kx hB rfl) (nx hB rfl) (by decide) (by decide) (by decide) ?_
  refine WN_putr (E := (eM.drop 6)) (c := 0) (t := 43) dX11_init_348 fX11_298 rfl rfl rfl rfl (by decide) (kx hB rfl) hE (by decide) (fun R9 hE9 => ?_)
  clear hE; have hE : RI B (eM.drop 5) R9 := hE9; clear hE9
  refine WN_aload_n dX11_init_351 rfl ?_
  refine WN_iconst (3) dX11_init_352 rfl ?_
  refine WN_newaQ (N := 3) (k2 := 45) (c2 := 44) (s2 := 22403) 43 ⟨rfl, rfl, rfl, rfl⟩ dX11_init_353 nw_boolean (kx hB rfl) (nx hB rfl) (by decide) (by decide) (by decide) ?_
  refine WN_putr (E := (eM.drop 5)) (c := 0) (t := 44) dX11_init_355 fX11_301 rfl rfl rfl rfl (by decide) (kx hB rfl) hE (by decide) (fun R9 hE9 => ?_)
  clear hE; have hE : RI B (eM.drop 4) R9 := hE9; clear hE9
  refine WN_aload_n dX11_init_358 rfl ?_
  refine WN_iconst (-1) dX11_init_359 rfl ?_
  refine WN_puti dX11_init_360 fX11_304 rfl rfl (gk_is 11 (by decide) (kx hB rfl)) ?_
  refine WN_aload_n dX11_init_363 rfl ?_
  refine WN_sipush (2100) dX11_init_364 rfl ?_
  refine WN_newaQ (N := 2100) (k2 := 46) (c2 := 45) (s2 := 24503) 44 ⟨rfl, rfl, rfl, rfl⟩ dX11_init_367 nw_int (kx hB rfl) (nx hB rfl) (by decide) (by decide) (by decide) ?_
  refine WN_putr (E := (eM.drop 4)) (c := 0) (t := 45) dX11_init_369 fX11_307 rfl rfl rfl rfl (by decide) (kx hB rfl) hE (by decide) (fun R9 hE9 => ?_)
  clear hE; have hE : RI B (eM.drop 3) R9 := hE9; clear hE9
  refine WN_aload_n dX11_init_372 rfl ?_
  refine WN_iconst (4) dX11_init_373 rfl ?_
  refine WN_newaQ (N := 4) (k2 := 47) (c2 := 46) (s2 := 24507) 45 ⟨rfl, rfl, rfl, rfl⟩ dX11_init_374 nw_int (kx hB rfl) (nx hB rfl) (by decide) (by decide) (by decide) ?_
  refine WN_putr (E := (eM.drop 3)) (c := 0) (t := 46) dX11_init_376 fX11_310 rfl rfl rfl rfl (by decide) (kx hB rfl) hE (by decide) (fun R9 hE9 => ?_)
  clear hE; have hE : RI B (eM.drop 2) R9 := hE9; clear hE9
  refine WN_aload_n dX11_init_379 rfl ?_
  refine WN_iconst (4) dX11_init_380 rfl ?_
  refine WN_newaQ (N := 4) (k2 := 48) (c2 := 47) (s2 := 24511) 46 ⟨rfl, rfl, rfl, rfl⟩ dX11_init_381 nw_int (kx hB rfl) (nx hB rfl) (by decide) (by decide) (by decide) ?_
  refine WN_putr (E := (eM.drop 2)) (c := 0) (t := 47) dX11_init_383 fX11_313 rfl rfl rfl rfl (by decide) (kx hB rfl) hE (by decide) (fun R9 hE9 => ?_)
  clear hE; have hE : RI B (eM.drop 1) R9 := hE9; clear hE9
  refine WN_aload_n dX11_init_386 rfl ?_
  refine WN_bipush (8) dX11_init_387 rfl ?_
  refine WN_newaQ (N := 8) (k2 := 49) (c2 := 48) (s2 := 24519) 47 ⟨rfl, rfl, rfl, rfl⟩ dX11_init_389 nw_int (kx hB rfl) (nx hB rfl) (by decide) (by decide) (by decide) ?_
  refine WN_putr (E := (eM.drop 1)) (c := 0) (t := 48) dX11_init_391 fX11_316 rfl rfl rfl rfl (by decide) (kx hB rfl) hE (by decide) (fun R9 hE9 => ?_)
  clear hE; have hE : RI B (eM.drop 0) R9 := hE9; clear hE9
  refine WN_iconst (0) dX11_init_394 rfl ?_
  refine WN_istore_n (ls' := [(0, _), (1, _)]) dX11_init_395 (by decide) rfl ?_
  refine WN_iload_n dX11_init_396 rfl ?_
  refine WN_iconst (4) dX11_init_397 rfl ?_
  refine WN_icmp_ge 417 dX11_init_398 rfl (fun h => absurd h (by decide)) (fun _ => ?_)
  refine WN_aload_n dX11_init_401 rfl ?_
  refine WN_getr (b := b_b B + 38) dX11_init_402 fX11_283 rfl (gk_is 11 (by decide) (kx hB rfl)) (hE (0, 59, 38) (by decide)) ?_
  refine WN_bipush (28) dX11_init_405 rfl ?_
  refine WN_iload_n dX11_init_407 rfl ?_
  refine WN_iadd dX11_init_408 ?_
  refine WN_iconst (1) dX11_init_409 rfl ?_
  refine WN_iast dX11_init_410 (gk_is 13 (by decide) (kx hB rfl)) (lyg (gk_n 35 (nx hB rfl)) (by unfold vp_in; decide)) ?_
  rw [show ((28 + 0) : Int32).toNatClampNeg = 28 from by decide]
  refine WN_iinc (ls' := [(0, _), (1, _)]) dX11_init_411 rfl (by decide) rfl ?_
  refine WN_goto 396 dX11_init_414 rfl ?_
  refine WN_iload_n dX11_init_396 rfl ?_
  refine WN_iconst (4) dX11_init_397 rfl ?_
  refine WN_icmp_ge 417 dX11_init_398 rfl (fun h => absurd h (by decide)) (fun _ => ?_)
  refine WN_aload_n dX11_init_401 rfl ?_
  refine WN_getr (b := b_b B + 38) dX11_init_402 fX11_283 rfl (gk_is 11 (by decide) (kx hB rfl)) (hE (0, 59, 38) (by decide)) ?_
  refine WN_bipush (28) dX11_init_405 rfl ?_
  refine WN_iload_n dX11_init_407 rfl ?_
  refine WN_iadd dX11_init_408 ?_
  refine WN_iconst (1) dX11_init_409 rfl ?_
  refine WN_iast dX11_init_410 (gk_is 13 (by decide) (kx hB rfl)) (lyg (gk_n 35 (nx hB rfl)) (by unfold vp_in; decide)) ?_
  rw [show ((28 + (0 + Int32.ofInt 1)) : Int32).toNatClampNeg = 29 from by decide]
  refine WN_iinc (ls' := [(0, _), (1, _)]) dX11_init_411 rfl (by decide) rfl ?_
  refine WN_goto 396 dX11_init_414 rfl ?_
  refine WN_iload_n dX11_init_396 rfl ?_
  refine WN_iconst (4) dX11_init_397 rfl ?_
  refine WN_icmp_ge 417 dX11_init_398 rfl (fun h => absurd h (by decide)) (fun _ => ?_)
  refine WN_aload_n dX11_init_401 rfl ?_
  refine WN_getr (b := b_b B + 38) dX11_init_402 fX11_283 rfl (gk_is 11 (by decide) (kx hB rfl)) (hE (0, 59, 38) (by decide)) ?_
  refine WN_bipush (28) dX11_init_405 rfl ?_
  refine WN_iload_n dX11_init_407 rfl ?_
  refine WN_iadd dX11_init_408 ?_
  refine WN_iconst (1) dX11_init_409 rfl ?_
  refine WN_iast dX11_init_410 (gk_is 13 (by decide) (kx hB rfl)) (lyg (gk_n 35 (nx hB rfl)) (by unfold vp_in; decide)) ?_
  rw [show ((28 + ((0 + Int32.ofInt 1) + Int32.ofInt 1)) : Int32).toNatClampNeg = 30 from by decide]
  refine WN_iinc (ls' := [(0, _), (1, _)]) dX11_init_411 rfl (by decide) rfl ?_
  refine WN_goto 396 dX11_init_414 rfl ?_
  refine WN_iload_n dX11_init_396 rfl ?_
  refine WN_iconst (4) dX11_init_397 rfl ?_
  refine WN_icmp_ge 417 dX11_init_398 rfl (fun h => absurd h (by decide)) (fun _ => ?_)
  refine WN_aload_n dX11_init_401 rfl ?_
  refine WN_getr (b := b_b B + 38) dX11_init_402 fX11_283 rfl (gk_is 11 (by decide) (kx hB rfl)) (hE (0, 59, 38) (by decide)) ?_
  refine WN_bipush (28) dX11_init_405 rfl ?_
  refine WN_iload_n dX11_init_407 rfl ?_
  refine WN_iadd dX11_init_408 ?_
  refine WN_iconst (1) dX11_init_409 rfl ?_
  refine WN_iast dX11_init_410 (gk_is 13 (by decide) (kx hB rfl)) (lyg (gk_n 35 (nx hB rfl)) (by unfold vp_in; decide)) ?_
  rw [show ((28 + (((0 + Int32.ofInt 1) + Int32.ofInt 1) + Int32.ofInt 1)) : Int32).toNatClampNeg = 31 from by decide]
  refine WN_iinc (ls' := [(0, _), (1, _)]) dX11_init_411 rfl (by decide) rfl ?_
  refine WN_goto 396 dX11_init_414 rfl ?_
  refine WN_iload_n dX11_init_396 rfl ?_
  refine WN_iconst (4) dX11_init_397 rfl ?_
  refine WN_icmp_ge 417 dX11_init_398 rfl (fun _ => ?_) (fun h => absurd (by decide) h)
  refine WN_vret dX11_init_417 rfl rfl (fun hZ => ⟨rf_gk hE, ⟨⟨(bm_pp (bm_pp (bm_pp (bm_pp (bm_pp (bm_pp (bm_pp (bm_pp (bm_pp bm_0 (by decide) (by decide)) (by decide) (by decide)) (by decide) (by decide)) (by decide) (by decide)) (by decide) (by decide)) (by decide) (by decide)) (by decide) (by decide)) (by decide) (by decide)) (by decide) (by decide)), by rw [gk_ad (by decide)]; simp [pp]⟩, Or.inr ⟨by rw [gk_ad (by decide)]; simp [pp], by rw [gk_ad (by decide)]; simp [pp]⟩, fun k q _ _ => ?_, fun q hq => ?_⟩, ?_⟩)
  · rw [gk_ad (by decide), pp_off _ _ (by omega), pp_off _ _ (by omega), pp_off _ _ (by omega), pp_off _ _ (by omega), pp_off _ _ (by omega), pp_off _ _ (by omega), pp_off _ _ (by omega), pp_off _ _ (by omega), pp_off _ _ (by omega)]
    have z : (0 : Int32).toInt = 0 := rfl
    rw [z]
    omega
  · rw [gk_ad (by decide)] at hq
    simp [pp] at hq
    omega
  · refine ⟨?_, ?_⟩
    · unfold MS00
      rw [show ad (gk B 49) 0 = b_b B + 0 from gk_ad (by decide), show ad (gk B 49) 1 = b_b B + 1 from gk_ad (by decide), show ad (gk B 49) 6 = b_b B + 6 from gk_ad (by decide)]
      simp [pp]
    · unfold MDS
      rw [show ad (gk B 49) 38 = b_b B + 38 from gk_ad (by decide)]
      refine ⟨by simp [pp, dNew], fun q hq => ?_, fun k hk => ?_⟩
      · rcases (show q = 0 ∨ q = 1 ∨ q = 2 ∨ q = 3 by omega) with e | e | e | e <;> subst e <;> simp [pp, dNew]
      · show (_ : Int32).toInt = 0
        rw [show ad (gk B 49) 44 = b_b B + 44 from gk_ad (by decide)]
        simp [pp]
