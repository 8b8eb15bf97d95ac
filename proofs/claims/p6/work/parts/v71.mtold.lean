set_option maxHeartbeats 4000000 in
set_option maxRecDepth 100000 in
theorem em_isSort {g : GG} {I : pI} {J : pJ} {R : pR} (hy : Ly g) (hr : Rf g R) {S : TwS} (s : Int32) (hS : RTT g S I J) (hB : SBn S) : SP g mX11_isSort [.ref (ad g 0), .int s] I J R (fun r I' J' R' => (I' = I ∧ J' = J ∧ R' = R) ∧ ∃ v : Int32, r = some (.int v) ∧ ((v.toInt = 1 ∧ 0 ≤ s.toInt ∧ s.toInt < S.1 0 1) ∨ (v.toInt = 0 ∧ ¬ (0 ≤ s.toInt ∧ s.toInt < S.1 0 1)))) := by
  refine SP_of ⟨by decide, rfl⟩ (Nat.le_of_ble_eq_true rfl) ?_
  have hB2 := hB
  unfold SBn at hB2
  obtain ⟨z1, z2, z0, z3, z4⟩ := hS.1
  obtain ⟨w4168, ew4168⟩ : ∃ w : Int32, I (ad g 0) 10 = w := ⟨_, rfl⟩
  try simp only [ew4168] at z1
  refine WP_iload_n dX11_isSort_0 rfl ?_
  refine WP_i2l dX11_isSort_1 ?_
  obtain ⟨l4169, xl4169⟩ : ∃ v : Int64, v = s.toInt64 := ⟨_, rfl⟩
  rw [← xl4169]
  have hl4169 : l4169.toInt = s.toInt := by rw [xl4169]; exact t64 _
  refine WP_lconst (0) dX11_isSort_2 rfl ?_
  obtain ⟨l4170, hl4170, el4170⟩ : ∃ v : Int64, v.toInt = 0 ∧ (0 : Int64) = v := ⟨_, rfl, rfl⟩
  rw [el4170]
  refine WP_aload_n dX11_isSort_3 rfl ?_
  refine WQ_getim dX11_isSort_4 fX11_329 rfl (ly_is hy 0 11 rfl) ew4168 ?_
  refine WP_i2l dX11_isSort_7 ?_
  obtain ⟨l4171, xl4171⟩ : ∃ v : Int64, v = w4168.toInt64 := ⟨_, rfl⟩
  rw [← xl4171]
  have hl4171 : l4171.toInt = w4168.toInt := by rw [xl4171]; exact t64 _
  refine WP_lconst (1) dX11_isSort_8 rfl ?_
  obtain ⟨l4172, hl4172, el4172⟩ : ∃ v : Int64, v.toInt = 1 ∧ (1 : Int64) = v := ⟨_, rfl, rfl⟩
  rw [el4172]
  refine WP_lsub dX11_isSort_9 ?_
  obtain ⟨l4173, xl4173⟩ : ∃ v : Int64, v = l4171 - l4172 := ⟨_, rfl⟩
  rw [← xl4173]
  have hl9 : l4173.toInt = S.1 0 1 - 1 := by rw [xl4173, js (by omega) (by omega)]; omega
  refine WP_callS3 dX11_isSort_10 ⟨⟨⟨by decide, by decide⟩, zX11_in⟩, lX11_52, tX11_in⟩ (em_in hy hr _ _ _  ) (Nat.le_of_ble_eq_true rfl) ?_
  intro r Ia Ja Ra hq
  obtain ⟨⟨ea, eb, ec⟩, v4175, er, p4174⟩ := hq
  rw [ea, eb, ec, er]
  clear ea eb ec er Ia Ja Ra r
  exact WP_zret dX11_isSort_13 rfl (nar_z (by omega)) ⟨⟨rfl, rfl, rfl⟩, v4175, rfl, by
    try simp only [ew4168]
    rcases p4174 with ⟨a, b, c⟩ | ⟨a, b⟩
    · exact Or.inl ⟨a, by omega, by omega⟩
    · exact Or.inr ⟨a, by omega⟩⟩
set_option maxHeartbeats 4000000 in
set_option maxRecDepth 100000 in
theorem em_told {g : GG} {I : pI} {J : pJ} {R : pR} (hy : Ly g) (hr : Rf g R) {S : TwS} (a : Int32) (hS : RTT g S I J) (hB : SBn S) : SP g mX11_told [.ref (ad g 0), .int a] I J R (fun r I' J' R' => (I' = I ∧ J' = J ∧ R' = R) ∧ ∃ v : Int32, r = some (.int v) ∧ (v.toInt = toldS S a.toInt)) := by
  refine SP_of ⟨by decide, rfl⟩ (Nat.le_of_ble_eq_true rfl) ?_
  have hB2 := hB
  unfold SBn at hB2
  obtain ⟨z1, z2, z0, z3, z4⟩ := hS.1
  obtain ⟨w4184, ew4184⟩ : ∃ w : Int32, I (ad g 0) 10 = w := ⟨_, rfl⟩
  obtain ⟨w4185, ew4185⟩ : ∃ w : Int32, I (ad g 0) 11 = w := ⟨_, rfl⟩
  obtain ⟨w4186, ew4186⟩ : ∃ w : Int32, I (ad g 0) 13 = w := ⟨_, rfl⟩
  obtain ⟨w4187, ew4187⟩ : ∃ w : Int32, I (ad g 0) 14 = w := ⟨_, rfl⟩
  try simp only [ew4184, ew4185, ew4186, ew4187] at z1 z2 z3 z4
  refine WP_iload_n dX11_told_0 rfl ?_
  refine WQ_bipush (10) (10) dX11_told_1 rfl rfl (fun v4188 hv4188 => ?_)
  refine WE_irems (10) dX11_told_3 hv4188 (by decide) (fun v4189 hv4189 nv4189 => ?_)
  refine WP_istore_n (ls' := [(0, _), (1, _), (2, _)]) dX11_told_4 (by decide) rfl ?_
  refine WP_iload_n dX11_told_5 rfl ?_
  refine WP_i2l dX11_told_6 ?_
  obtain ⟨l4190, xl4190⟩ : ∃ v : Int64, v = a.toInt64 := ⟨_, rfl⟩
  rw [← xl4190]
  have hl4190 : l4190.toInt = a.toInt := by rw [xl4190]; exact t64 _
  refine WP_ldc2 (10) dX11_told_7 klX11_353 ?_
  obtain ⟨l4191, hl4191, el4191⟩ : ∃ v : Int64, v.toInt = (10) ∧ ((10) : Int64) = v := ⟨_, rfl, rfl⟩
  rw [el4191]
  refine WP_ldc2 (16) dX11_told_10 klX11_355 ?_
  obtain ⟨l4192, hl4192, el4192⟩ : ∃ v : Int64, v.toInt = (16) ∧ ((16) : Int64) = v := ⟨_, rfl, rfl⟩
  rw [el4192]
  refine WP_callS3 dX11_told_13 ⟨⟨⟨by decide, by decide⟩, zX11_in⟩, lX11_52, tX11_in⟩ (em_in hy hr _ _ _  ) (Nat.le_of_ble_eq_true rfl) ?_
  intro r Ia Ja Ra hq
  obtain ⟨⟨ea, eb, ec⟩, v4194, er, p4193⟩ := hq
  rw [ea, eb, ec, er]
  clear ea eb ec er Ia Ja Ra r
  refine WQ_if_eq 29 dX11_told_16 rfl (fun c4194 => ?_) (fun c4194 => ?_)
  · refine WP_iload_n dX11_told_29 rfl ?_
    refine WP_i2l dX11_told_30 ?_
    obtain ⟨l4196, xl4196⟩ : ∃ v : Int64, v = a.toInt64 := ⟨_, rfl⟩
    rw [← xl4196]
    have hl4196 : l4196.toInt = a.toInt := by rw [xl4196]; exact t64 _
    refine WP_ldc2 (20) dX11_told_31 klX11_357 ?_
    obtain ⟨l4197, hl4197, el4197⟩ : ∃ v : Int64, v.toInt = (20) ∧ ((20) : Int64) = v := ⟨_, rfl, rfl⟩
    rw [el4197]
    refine WP_ldc2 (59) dX11_told_34 klX11_359 ?_
    obtain ⟨l4198, hl4198, el4198⟩ : ∃ v : Int64, v.toInt = (59) ∧ ((59) : Int64) = v := ⟨_, rfl, rfl⟩
    rw [el4198]
    refine WP_callS3 dX11_told_37 ⟨⟨⟨by decide, by decide⟩, zX11_in⟩, lX11_52, tX11_in⟩ (em_in hy hr _ _ _  ) (Nat.le_of_ble_eq_true rfl) ?_
    intro r Ia Ja Ra hq
    obtain ⟨⟨ea, eb, ec⟩, v4200, er, p4199⟩ := hq
    rw [ea, eb, ec, er]
    clear ea eb ec er Ia Ja Ra r
    refine WQ_if_eq 107 dX11_told_40 rfl (fun c4200 => ?_) (fun c4200 => ?_)
    · refine WP_iload_n dX11_told_107 rfl ?_
      refine WP_i2l dX11_told_108 ?_
      obtain ⟨l4202, xl4202⟩ : ∃ v : Int64, v = a.toInt64 := ⟨_, rfl⟩
      rw [← xl4202]
      have hl4202 : l4202.toInt = a.toInt := by rw [xl4202]; exact t64 _
      refine WP_ldc2 (60) dX11_told_109 klX11_361 ?_
      obtain ⟨l4203, hl4203, el4203⟩ : ∃ v : Int64, v.toInt = (60) ∧ ((60) : Int64) = v := ⟨_, rfl, rfl⟩
      rw [el4203]
      refine WP_ldc2 (79) dX11_told_112 klX11_363 ?_
      obtain ⟨l4204, hl4204, el4204⟩ : ∃ v : Int64, v.toInt = (79) ∧ ((79) : Int64) = v := ⟨_, rfl, rfl⟩
      rw [el4204]
      refine WP_callS3 dX11_told_115 ⟨⟨⟨by decide, by decide⟩, zX11_in⟩, lX11_52, tX11_in⟩ (em_in hy hr _ _ _  ) (Nat.le_of_ble_eq_true rfl) ?_
      intro r Ia Ja Ra hq
      obtain ⟨⟨ea, eb, ec⟩, v4206, er, p4205⟩ := hq
      rw [ea, eb, ec, er]
      clear ea eb ec er Ia Ja Ra r
      refine WQ_if_eq 155 dX11_told_118 rfl (fun c4206 => ?_) (fun c4206 => ?_)
      · refine WP_iload_n dX11_told_155 rfl ?_
        refine WP_tab 208 dX11_told_156 rfl rfl (fun c4207 => ?_) (fun j off c4207 hj => ?_) (by decide)
        · refine WQ_iconst (-1) (-1) dX11_told_208 rfl rfl (fun v4209 hv4209 => ?_)
          exact WP_iret dX11_told_209 rfl ⟨⟨rfl, rfl, rfl⟩, v4209, rfl, by
            try simp only [ew4184, ew4185, ew4186, ew4187]
            rw [told_n (by omega) (by omega) (by omega) (by omega)]
            omega⟩
        · have hlt : j < 4 := by have := (Array.getElem?_eq_some_iff.mp hj).1; simpa using this
          have hcs : (j = 0 ∧ off = 32) ∨ (j = 1 ∧ off = 37) ∨ (j = 2 ∧ off = 42) ∨ (j = 3 ∧ off = 47) := by
            match j, hlt, hj with
            | 0, _, hj => exact Or.inl ⟨rfl, (Option.some.inj hj).symm⟩
            | 1, _, hj => exact Or.inr (Or.inl ⟨rfl, (Option.some.inj hj).symm⟩)
            | 2, _, hj => exact Or.inr (Or.inr (Or.inl ⟨rfl, (Option.some.inj hj).symm⟩))
            | 3, _, hj => exact Or.inr (Or.inr (Or.inr (⟨rfl, (Option.some.inj hj).symm⟩)))
          clear hj hlt
          rcases hcs with ⟨rfl, rfl⟩ | ⟨rfl, rfl⟩ | ⟨rfl, rfl⟩ | ⟨rfl, rfl⟩
          · show WP _ _ 188 _ _ _ _ _ _
            refine WP_aload_n dX11_told_188 rfl ?_
            refine WQ_getim dX11_told_189 fX11_329 rfl (ly_is hy 0 11 rfl) ew4184 ?_
            exact WP_iret dX11_told_192 rfl ⟨⟨rfl, rfl, rfl⟩, w4184, rfl, by
              try simp only [ew4184, ew4185, ew4186, ew4187]
              unfold toldS
              rw [if_pos (by omega)]
              omega⟩
          · show WP _ _ 193 _ _ _ _ _ _
            refine WP_aload_n dX11_told_193 rfl ?_
            refine WQ_getim dX11_told_194 fX11_332 rfl (ly_is hy 0 11 rfl) ew4185 ?_
            exact WP_iret dX11_told_197 rfl ⟨⟨rfl, rfl, rfl⟩, w4185, rfl, by
              try simp only [ew4184, ew4185, ew4186, ew4187]
              unfold toldS
              rw [if_neg (by omega), if_pos (by omega)]
              omega⟩
          · show WP _ _ 198 _ _ _ _ _ _
            refine WP_aload_n dX11_told_198 rfl ?_
            refine WQ_getim dX11_told_199 fX11_221 rfl (ly_is hy 0 11 rfl) ew4186 ?_
            exact WP_iret dX11_told_202 rfl ⟨⟨rfl, rfl, rfl⟩, w4186, rfl, by
              try simp only [ew4184, ew4185, ew4186, ew4187]
              unfold toldS
              rw [if_neg (by omega), if_neg (by omega), if_pos (by omega)]
              omega⟩
          · show WP _ _ 203 _ _ _ _ _ _
            refine WP_aload_n dX11_told_203 rfl ?_
            refine WQ_getim dX11_told_204 fX11_224 rfl (ly_is hy 0 11 rfl) ew4187 ?_
            exact WP_iret dX11_told_207 rfl ⟨⟨rfl, rfl, rfl⟩, w4187, rfl, by
              try simp only [ew4184, ew4185, ew4186, ew4187]
              unfold toldS
              rw [if_neg (by omega), if_neg (by omega), if_neg (by omega), if_pos (by omega)]
              omega⟩
      · refine WP_iload_n dX11_told_121 rfl ?_
        refine WP_aload_n dX11_told_122 rfl ?_
        refine WQ_getim dX11_told_123 fX11_332 rfl (ly_is hy 0 11 rfl) ew4185 ?_
        refine WQ_icmp_lt 133 dX11_told_126 rfl (fun c4209 => ?_) (fun c4209 => ?_)
        · refine WP_iload_n dX11_told_133 rfl ?_
          refine WQ_bipush (70) (70) dX11_told_134 rfl rfl (fun v4211 hv4211 => ?_)
          refine WQ_icmp_ge 148 dX11_told_136 rfl (fun c4211 => ?_) (fun c4211 => ?_)
          · refine WP_aload_n dX11_told_148 rfl ?_
            refine WP_getr dX11_told_149 fX11_249 rfl (ly_is hy 0 11 rfl) (rf hr 0 31 13 (by decide)) ?_
            refine WP_iload_n dX11_told_152 rfl ?_
            refine WE_ia dX11_told_153 (ly_is hy 13 13 rfl) (ly_n hy 13 3 rfl) (by omega) (by omega) (fun v4213 ev4213 => ?_)
            exact WP_iret dX11_told_154 rfl ⟨⟨rfl, rfl, rfl⟩, v4213, rfl, by
              try simp only [ew4184, ew4185, ew4186, ew4187]
              rw [told_t (by omega) (by omega), show (a.toInt / 10 + 4).toNat = 11 by omega]
              rw [← ev4213, show v4189.toInt.toNat = (a.toInt % 10).toNat by omega]
              exact hS.2.2.2.1 (13, 11, 1) (by decide) ((a.toInt % 10).toNat) (by show (((a.toInt % 10).toNat : Nat) : Int) < ((1 : Nat) : Int) * S.1 0 2; omega)⟩
          · refine WP_aload_n dX11_told_139 rfl ?_
            refine WP_getr dX11_told_140 fX11_246 rfl (ly_is hy 0 11 rfl) (rf hr 0 30 12 (by decide)) ?_
            refine WP_iload_n dX11_told_143 rfl ?_
            refine WE_ia dX11_told_144 (ly_is hy 12 13 rfl) (ly_n hy 12 3 rfl) (by omega) (by omega) (fun v4214 ev4214 => ?_)
            refine WP_goto 154 dX11_told_145 rfl ?_
            exact WP_iret dX11_told_154 rfl ⟨⟨rfl, rfl, rfl⟩, v4214, rfl, by
              try simp only [ew4184, ew4185, ew4186, ew4187]
              rw [told_t (by omega) (by omega), show (a.toInt / 10 + 4).toNat = 10 by omega]
              rw [← ev4214, show v4189.toInt.toNat = (a.toInt % 10).toNat by omega]
              exact hS.2.2.2.1 (12, 10, 1) (by decide) ((a.toInt % 10).toNat) (by show (((a.toInt % 10).toNat : Nat) : Int) < ((1 : Nat) : Int) * S.1 0 2; omega)⟩
        · refine WQ_iconst (-1) (-1) dX11_told_129 rfl rfl (fun v4215 hv4215 => ?_)
          refine WP_goto 154 dX11_told_130 rfl ?_
          exact WP_iret dX11_told_154 rfl ⟨⟨rfl, rfl, rfl⟩, v4215, rfl, by
            try simp only [ew4184, ew4185, ew4186, ew4187]
            rw [told_n (by omega) (by omega) (by omega) (by omega)]
            omega⟩
    · refine WP_iload_n dX11_told_43 rfl ?_
      refine WP_aload_n dX11_told_44 rfl ?_
      refine WQ_getim dX11_told_45 fX11_329 rfl (ly_is hy 0 11 rfl) ew4184 ?_
      refine WQ_icmp_lt 55 dX11_told_48 rfl (fun c4215 => ?_) (fun c4215 => ?_)
      · refine WP_iload_n dX11_told_55 rfl ?_
        refine WQ_bipush (30) (30) dX11_told_56 rfl rfl (fun v4217 hv4217 => ?_)
        refine WQ_icmp_ge 70 dX11_told_58 rfl (fun c4217 => ?_) (fun c4217 => ?_)
        · refine WP_iload_n dX11_told_70 rfl ?_
          refine WQ_bipush (40) (40) dX11_told_71 rfl rfl (fun v4219 hv4219 => ?_)
          refine WQ_icmp_ge 85 dX11_told_73 rfl (fun c4219 => ?_) (fun c4219 => ?_)
          · refine WP_iload_n dX11_told_85 rfl ?_
            refine WQ_bipush (50) (50) dX11_told_86 rfl rfl (fun v4221 hv4221 => ?_)
            refine WQ_icmp_ge 100 dX11_told_88 rfl (fun c4221 => ?_) (fun c4221 => ?_)
            · refine WP_aload_n dX11_told_100 rfl ?_
              refine WP_getr dX11_told_101 fX11_244 rfl (ly_is hy 0 11 rfl) (rf hr 0 29 11 (by decide)) ?_
              refine WP_iload_n dX11_told_104 rfl ?_
              refine WE_ia dX11_told_105 (ly_is hy 11 13 rfl) (ly_n hy 11 4 rfl) (by omega) (by omega) (fun v4223 ev4223 => ?_)
              exact WP_iret dX11_told_106 rfl ⟨⟨rfl, rfl, rfl⟩, v4223, rfl, by
                try simp only [ew4184, ew4185, ew4186, ew4187]
                rw [told_s (by omega) (by omega), show (a.toInt / 10).toNat = 5 by omega]
                rw [← ev4223, show v4189.toInt.toNat = (a.toInt % 10).toNat by omega]
                exact hS.2.2.1 (11, 5, 1) (by decide) ((a.toInt % 10).toNat) (by show (((a.toInt % 10).toNat : Nat) : Int) < ((1 : Nat) : Int) * S.1 0 1; omega)⟩
            · refine WP_aload_n dX11_told_91 rfl ?_
              refine WP_getr dX11_told_92 fX11_241 rfl (ly_is hy 0 11 rfl) (rf hr 0 28 10 (by decide)) ?_
              refine WP_iload_n dX11_told_95 rfl ?_
              refine WE_ia dX11_told_96 (ly_is hy 10 13 rfl) (ly_n hy 10 4 rfl) (by omega) (by omega) (fun v4224 ev4224 => ?_)
              refine WP_goto 106 dX11_told_97 rfl ?_
              exact WP_iret dX11_told_106 rfl ⟨⟨rfl, rfl, rfl⟩, v4224, rfl, by
                try simp only [ew4184, ew4185, ew4186, ew4187]
                rw [told_s (by omega) (by omega), show (a.toInt / 10).toNat = 4 by omega]
                rw [← ev4224, show v4189.toInt.toNat = (a.toInt % 10).toNat by omega]
                exact hS.2.2.1 (10, 4, 1) (by decide) ((a.toInt % 10).toNat) (by show (((a.toInt % 10).toNat : Nat) : Int) < ((1 : Nat) : Int) * S.1 0 1; omega)⟩
          · refine WP_aload_n dX11_told_76 rfl ?_
            refine WP_getr dX11_told_77 fX11_238 rfl (ly_is hy 0 11 rfl) (rf hr 0 27 9 (by decide)) ?_
            refine WP_iload_n dX11_told_80 rfl ?_
            refine WE_ia dX11_told_81 (ly_is hy 9 13 rfl) (ly_n hy 9 4 rfl) (by omega) (by omega) (fun v4225 ev4225 => ?_)
            refine WP_goto 106 dX11_told_82 rfl ?_
            exact WP_iret dX11_told_106 rfl ⟨⟨rfl, rfl, rfl⟩, v4225, rfl, by
              try simp only [ew4184, ew4185, ew4186, ew4187]
              rw [told_s (by omega) (by omega), show (a.toInt / 10).toNat = 3 by omega]
              rw [← ev4225, show v4189.toInt.toNat = (a.toInt % 10).toNat by omega]
              exact hS.2.2.1 (9, 3, 1) (by decide) ((a.toInt % 10).toNat) (by show (((a.toInt % 10).toNat : Nat) : Int) < ((1 : Nat) : Int) * S.1 0 1; omega)⟩
        · refine WP_aload_n dX11_told_61 rfl ?_
          refine WP_getr dX11_told_62 fX11_235 rfl (ly_is hy 0 11 rfl) (rf hr 0 26 8 (by decide)) ?_
          refine WP_iload_n dX11_told_65 rfl ?_
          refine WE_ia dX11_told_66 (ly_is hy 8 13 rfl) (ly_n hy 8 4 rfl) (by omega) (by omega) (fun v4226 ev4226 => ?_)
          refine WP_goto 106 dX11_told_67 rfl ?_
          exact WP_iret dX11_told_106 rfl ⟨⟨rfl, rfl, rfl⟩, v4226, rfl, by
            try simp only [ew4184, ew4185, ew4186, ew4187]
            rw [told_s (by omega) (by omega), show (a.toInt / 10).toNat = 2 by omega]
            rw [← ev4226, show v4189.toInt.toNat = (a.toInt % 10).toNat by omega]
            exact hS.2.2.1 (8, 2, 1) (by decide) ((a.toInt % 10).toNat) (by show (((a.toInt % 10).toNat : Nat) : Int) < ((1 : Nat) : Int) * S.1 0 1; omega)⟩
      · refine WQ_iconst (-1) (-1) dX11_told_51 rfl rfl (fun v4227 hv4227 => ?_)
        refine WP_goto 106 dX11_told_52 rfl ?_
        exact WP_iret dX11_told_106 rfl ⟨⟨rfl, rfl, rfl⟩, v4227, rfl, by
          try simp only [ew4184, ew4185, ew4186, ew4187]
          rw [told_n (by omega) (by omega) (by omega) (by omega)]
          omega⟩
  · refine WP_aload_n dX11_told_19 rfl ?_
    refine WP_getr dX11_told_20 fX11_233 rfl (ly_is hy 0 11 rfl) (rf hr 0 24 6 (by decide)) ?_
    refine WP_iload_n dX11_told_23 rfl ?_
    refine WQ_bipush (10) (10) dX11_told_24 rfl rfl (fun v4228 hv4228 => ?_)
    refine WQ_isub dX11_told_26 (by omega) (by omega) (fun v4229 hv4229 => ?_)
    refine WE_ia dX11_told_27 (ly_is hy 6 13 rfl) (ly_n hy 6 7 rfl) (by omega) (by omega) (fun v4230 ev4230 => ?_)
    exact WP_iret dX11_told_28 rfl ⟨⟨rfl, rfl, rfl⟩, v4230, rfl, by
      try simp only [ew4184, ew4185, ew4186, ew4187]
      rw [told_r (by omega), ← ev4230, show v4229.toInt.toNat = (a.toInt - 10).toNat by omega]
      exact hS.2.1 _ (by omega)⟩
theorem am_told {g : GG} {I : pI} {J : pJ} {R : pR} (hy : Ly g) (hr : Rf g R) {S : TwS} (a : Int32) (hS : RTT g S I J) (hB : SBn S) : SP g mX11_told [.ref (ad g 0), .int a] I J R (fun r _ _ _ => ∃ v : Int32, r = some (.int v) ∧ v.toInt = toldS S a.toInt) := SP_wk (em_told hy hr a hS hB) (fun r I9 J9 R9 q => q.2)
