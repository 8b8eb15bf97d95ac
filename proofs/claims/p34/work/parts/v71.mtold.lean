set_option maxHeartbeats 4000000 in
set_option maxRecDepth 100000 in
theorem em_isDay {g : GG} {I : pI} {J : pJ} {R : pR} (hy : Ly g) (hr : Rf g R)  (d : Int32)  : SP g mX11_isDay [.int d] I J R (fun r I' J' R' => (I' = I ∧ J' = J ∧ R' = R) ∧ ∃ v : Int32, r = some (.int v) ∧ ((v.toInt = 1 ∧ 0 ≤ d.toInt ∧ d.toInt < 7) ∨ (v.toInt = 0 ∧ ¬ (0 ≤ d.toInt ∧ d.toInt < 7)))) := by
  refine SP_of ⟨by decide, rfl⟩ (Nat.le_of_ble_eq_true rfl) ?_
  refine WP_iload_n dX11_isDay_0 rfl ?_
  refine WP_i2l dX11_isDay_1 ?_
  obtain ⟨l4401, xl4401⟩ : ∃ v : Int64, v = d.toInt64 := ⟨_, rfl⟩
  rw [← xl4401]
  have hl4401 : l4401.toInt = d.toInt := by rw [xl4401]; exact t64 _
  refine WP_lconst (0) dX11_isDay_2 rfl ?_
  obtain ⟨l4402, hl4402, el4402⟩ : ∃ v : Int64, v.toInt = 0 ∧ (0 : Int64) = v := ⟨_, rfl, rfl⟩
  rw [el4402]
  refine WP_ldc2 (6) dX11_isDay_3 klX11_365 ?_
  obtain ⟨l4403, hl4403, el4403⟩ : ∃ v : Int64, v.toInt = (6) ∧ ((6) : Int64) = v := ⟨_, rfl, rfl⟩
  rw [el4403]
  refine WP_callS3 dX11_isDay_6 ⟨⟨⟨by decide, by decide⟩, zX11_in⟩, lX11_52, tX11_in⟩ (em_in hy hr _ _ _  ) (Nat.le_of_ble_eq_true rfl) ?_
  intro r Ia Ja Ra hq
  obtain ⟨⟨ea, eb, ec⟩, v4405, er, p4404⟩ := hq
  rw [ea, eb, ec, er]
  clear ea eb ec er Ia Ja Ra r
  exact WP_zret dX11_isDay_9 rfl (nar_z (by omega)) ⟨⟨rfl, rfl, rfl⟩, v4405, rfl, by
    rcases p4404 with ⟨a, b, c⟩ | ⟨a, b⟩
    · exact Or.inl ⟨a, by omega, by omega⟩
    · exact Or.inr ⟨a, by omega⟩⟩
set_option maxHeartbeats 4000000 in
set_option maxRecDepth 100000 in
theorem em_isSort {g : GG} {I : pI} {J : pJ} {R : pR} (hy : Ly g) (hr : Rf g R) {S : TwS} (s : Int32) (hS : RTT g S I J) (hB : SBn S) : SP g mX11_isSort [.ref (ad g 0), .int s] I J R (fun r I' J' R' => (I' = I ∧ J' = J ∧ R' = R) ∧ ∃ v : Int32, r = some (.int v) ∧ ((v.toInt = 1 ∧ 0 ≤ s.toInt ∧ s.toInt < S.1 0 1) ∨ (v.toInt = 0 ∧ ¬ (0 ≤ s.toInt ∧ s.toInt < S.1 0 1)))) := by
  refine SP_of ⟨by decide, rfl⟩ (Nat.le_of_ble_eq_true rfl) ?_
  have hB2 := hB
  unfold SBn at hB2
  obtain ⟨z1, z2, z0, z3, z4⟩ := hS.1
  obtain ⟨w4406, ew4406⟩ : ∃ w : Int32, I (ad g 0) 10 = w := ⟨_, rfl⟩
  try simp only [ew4406] at z1
  refine WP_iload_n dX11_isSort_0 rfl ?_
  refine WP_i2l dX11_isSort_1 ?_
  obtain ⟨l4407, xl4407⟩ : ∃ v : Int64, v = s.toInt64 := ⟨_, rfl⟩
  rw [← xl4407]
  have hl4407 : l4407.toInt = s.toInt := by rw [xl4407]; exact t64 _
  refine WP_lconst (0) dX11_isSort_2 rfl ?_
  obtain ⟨l4408, hl4408, el4408⟩ : ∃ v : Int64, v.toInt = 0 ∧ (0 : Int64) = v := ⟨_, rfl, rfl⟩
  rw [el4408]
  refine WP_aload_n dX11_isSort_3 rfl ?_
  refine WQ_getim dX11_isSort_4 fX11_329 rfl (ly_is hy 0 11 rfl) ew4406 ?_
  refine WP_i2l dX11_isSort_7 ?_
  obtain ⟨l4409, xl4409⟩ : ∃ v : Int64, v = w4406.toInt64 := ⟨_, rfl⟩
  rw [← xl4409]
  have hl4409 : l4409.toInt = w4406.toInt := by rw [xl4409]; exact t64 _
  refine WP_lconst (1) dX11_isSort_8 rfl ?_
  obtain ⟨l4410, hl4410, el4410⟩ : ∃ v : Int64, v.toInt = 1 ∧ (1 : Int64) = v := ⟨_, rfl, rfl⟩
  rw [el4410]
  refine WP_lsub dX11_isSort_9 ?_
  obtain ⟨l4411, xl4411⟩ : ∃ v : Int64, v = l4409 - l4410 := ⟨_, rfl⟩
  rw [← xl4411]
  have hl9 : l4411.toInt = S.1 0 1 - 1 := by rw [xl4411, js (by omega) (by omega)]; omega
  refine WP_callS3 dX11_isSort_10 ⟨⟨⟨by decide, by decide⟩, zX11_in⟩, lX11_52, tX11_in⟩ (em_in hy hr _ _ _  ) (Nat.le_of_ble_eq_true rfl) ?_
  intro r Ia Ja Ra hq
  obtain ⟨⟨ea, eb, ec⟩, v4413, er, p4412⟩ := hq
  rw [ea, eb, ec, er]
  clear ea eb ec er Ia Ja Ra r
  exact WP_zret dX11_isSort_13 rfl (nar_z (by omega)) ⟨⟨rfl, rfl, rfl⟩, v4413, rfl, by
    try simp only [ew4406]
    rcases p4412 with ⟨a, b, c⟩ | ⟨a, b⟩
    · exact Or.inl ⟨a, by omega, by omega⟩
    · exact Or.inr ⟨a, by omega⟩⟩
set_option maxHeartbeats 4000000 in
set_option maxRecDepth 100000 in
theorem em_isThing {g : GG} {I : pI} {J : pJ} {R : pR} (hy : Ly g) (hr : Rf g R) {S : TwS} (s : Int32) (hS : RTT g S I J) (hB : SBn S) : SP g mX11_isThing [.ref (ad g 0), .int s] I J R (fun r I' J' R' => (I' = I ∧ J' = J ∧ R' = R) ∧ ∃ v : Int32, r = some (.int v) ∧ ((v.toInt = 1 ∧ 0 ≤ s.toInt ∧ s.toInt < S.1 0 2) ∨ (v.toInt = 0 ∧ ¬ (0 ≤ s.toInt ∧ s.toInt < S.1 0 2)))) := by
  refine SP_of ⟨by decide, rfl⟩ (Nat.le_of_ble_eq_true rfl) ?_
  have hB2 := hB
  unfold SBn at hB2
  obtain ⟨z1, z2, z0, z3, z4⟩ := hS.1
  obtain ⟨w4414, ew4414⟩ : ∃ w : Int32, I (ad g 0) 11 = w := ⟨_, rfl⟩
  try simp only [ew4414] at z2
  refine WP_iload_n dX11_isThing_0 rfl ?_
  refine WP_i2l dX11_isThing_1 ?_
  obtain ⟨l4415, xl4415⟩ : ∃ v : Int64, v = s.toInt64 := ⟨_, rfl⟩
  rw [← xl4415]
  have hl4415 : l4415.toInt = s.toInt := by rw [xl4415]; exact t64 _
  refine WP_lconst (0) dX11_isThing_2 rfl ?_
  obtain ⟨l4416, hl4416, el4416⟩ : ∃ v : Int64, v.toInt = 0 ∧ (0 : Int64) = v := ⟨_, rfl, rfl⟩
  rw [el4416]
  refine WP_aload_n dX11_isThing_3 rfl ?_
  refine WQ_getim dX11_isThing_4 fX11_332 rfl (ly_is hy 0 11 rfl) ew4414 ?_
  refine WP_i2l dX11_isThing_7 ?_
  obtain ⟨l4417, xl4417⟩ : ∃ v : Int64, v = w4414.toInt64 := ⟨_, rfl⟩
  rw [← xl4417]
  have hl4417 : l4417.toInt = w4414.toInt := by rw [xl4417]; exact t64 _
  refine WP_lconst (1) dX11_isThing_8 rfl ?_
  obtain ⟨l4418, hl4418, el4418⟩ : ∃ v : Int64, v.toInt = 1 ∧ (1 : Int64) = v := ⟨_, rfl, rfl⟩
  rw [el4418]
  refine WP_lsub dX11_isThing_9 ?_
  obtain ⟨l4419, xl4419⟩ : ∃ v : Int64, v = l4417 - l4418 := ⟨_, rfl⟩
  rw [← xl4419]
  have hl9 : l4419.toInt = S.1 0 2 - 1 := by rw [xl4419, js (by omega) (by omega)]; omega
  refine WP_callS3 dX11_isThing_10 ⟨⟨⟨by decide, by decide⟩, zX11_in⟩, lX11_52, tX11_in⟩ (em_in hy hr _ _ _  ) (Nat.le_of_ble_eq_true rfl) ?_
  intro r Ia Ja Ra hq
  obtain ⟨⟨ea, eb, ec⟩, v4421, er, p4420⟩ := hq
  rw [ea, eb, ec, er]
  clear ea eb ec er Ia Ja Ra r
  exact WP_zret dX11_isThing_13 rfl (nar_z (by omega)) ⟨⟨rfl, rfl, rfl⟩, v4421, rfl, by
    try simp only [ew4414]
    rcases p4420 with ⟨a, b, c⟩ | ⟨a, b⟩
    · exact Or.inl ⟨a, by omega, by omega⟩
    · exact Or.inr ⟨a, by omega⟩⟩
set_option maxHeartbeats 4000000 in
set_option maxRecDepth 100000 in
theorem em_told {g : GG} {I : pI} {J : pJ} {R : pR} (hy : Ly g) (hr : Rf g R) {S : TwS} (a : Int32) (hS : RTT g S I J) (hB : SBn S) : SP g mX11_told [.ref (ad g 0), .int a] I J R (fun r I' J' R' => (I' = I ∧ J' = J ∧ R' = R) ∧ ∃ v : Int32, r = some (.int v) ∧ (v.toInt = toldS S a.toInt)) := by
  refine SP_of ⟨by decide, rfl⟩ (Nat.le_of_ble_eq_true rfl) ?_
  have hB2 := hB
  unfold SBn at hB2
  obtain ⟨z1, z2, z0, z3, z4⟩ := hS.1
  obtain ⟨w4422, ew4422⟩ : ∃ w : Int32, I (ad g 0) 10 = w := ⟨_, rfl⟩
  obtain ⟨w4423, ew4423⟩ : ∃ w : Int32, I (ad g 0) 11 = w := ⟨_, rfl⟩
  obtain ⟨w4424, ew4424⟩ : ∃ w : Int32, I (ad g 0) 13 = w := ⟨_, rfl⟩
  obtain ⟨w4425, ew4425⟩ : ∃ w : Int32, I (ad g 0) 14 = w := ⟨_, rfl⟩
  try simp only [ew4422, ew4423, ew4424, ew4425] at z1 z2 z3 z4
  refine WP_iload_n dX11_told_0 rfl ?_
  refine WQ_bipush (10) (10) dX11_told_1 rfl rfl (fun v4426 hv4426 => ?_)
  refine WE_irems (10) dX11_told_3 hv4426 (by decide) (fun v4427 hv4427 nv4427 => ?_)
  refine WP_istore_n (ls' := [(0, _), (1, _), (2, _)]) dX11_told_4 (by decide) rfl ?_
  refine WP_iload_n dX11_told_5 rfl ?_
  refine WP_i2l dX11_told_6 ?_
  obtain ⟨l4428, xl4428⟩ : ∃ v : Int64, v = a.toInt64 := ⟨_, rfl⟩
  rw [← xl4428]
  have hl4428 : l4428.toInt = a.toInt := by rw [xl4428]; exact t64 _
  refine WP_ldc2 (10) dX11_told_7 klX11_353 ?_
  obtain ⟨l4429, hl4429, el4429⟩ : ∃ v : Int64, v.toInt = (10) ∧ ((10) : Int64) = v := ⟨_, rfl, rfl⟩
  rw [el4429]
  refine WP_ldc2 (16) dX11_told_10 klX11_355 ?_
  obtain ⟨l4430, hl4430, el4430⟩ : ∃ v : Int64, v.toInt = (16) ∧ ((16) : Int64) = v := ⟨_, rfl, rfl⟩
  rw [el4430]
  refine WP_callS3 dX11_told_13 ⟨⟨⟨by decide, by decide⟩, zX11_in⟩, lX11_52, tX11_in⟩ (em_in hy hr _ _ _  ) (Nat.le_of_ble_eq_true rfl) ?_
  intro r Ia Ja Ra hq
  obtain ⟨⟨ea, eb, ec⟩, v4432, er, p4431⟩ := hq
  rw [ea, eb, ec, er]
  clear ea eb ec er Ia Ja Ra r
  refine WQ_if_eq 29 dX11_told_16 rfl (fun c4432 => ?_) (fun c4432 => ?_)
  · refine WP_iload_n dX11_told_29 rfl ?_
    refine WP_i2l dX11_told_30 ?_
    obtain ⟨l4434, xl4434⟩ : ∃ v : Int64, v = a.toInt64 := ⟨_, rfl⟩
    rw [← xl4434]
    have hl4434 : l4434.toInt = a.toInt := by rw [xl4434]; exact t64 _
    refine WP_ldc2 (20) dX11_told_31 klX11_357 ?_
    obtain ⟨l4435, hl4435, el4435⟩ : ∃ v : Int64, v.toInt = (20) ∧ ((20) : Int64) = v := ⟨_, rfl, rfl⟩
    rw [el4435]
    refine WP_ldc2 (59) dX11_told_34 klX11_359 ?_
    obtain ⟨l4436, hl4436, el4436⟩ : ∃ v : Int64, v.toInt = (59) ∧ ((59) : Int64) = v := ⟨_, rfl, rfl⟩
    rw [el4436]
    refine WP_callS3 dX11_told_37 ⟨⟨⟨by decide, by decide⟩, zX11_in⟩, lX11_52, tX11_in⟩ (em_in hy hr _ _ _  ) (Nat.le_of_ble_eq_true rfl) ?_
    intro r Ia Ja Ra hq
    obtain ⟨⟨ea, eb, ec⟩, v4438, er, p4437⟩ := hq
    rw [ea, eb, ec, er]
    clear ea eb ec er Ia Ja Ra r
    refine WQ_if_eq 107 dX11_told_40 rfl (fun c4438 => ?_) (fun c4438 => ?_)
    · refine WP_iload_n dX11_told_107 rfl ?_
      refine WP_i2l dX11_told_108 ?_
      obtain ⟨l4440, xl4440⟩ : ∃ v : Int64, v = a.toInt64 := ⟨_, rfl⟩
      rw [← xl4440]
      have hl4440 : l4440.toInt = a.toInt := by rw [xl4440]; exact t64 _
      refine WP_ldc2 (60) dX11_told_109 klX11_361 ?_
      obtain ⟨l4441, hl4441, el4441⟩ : ∃ v : Int64, v.toInt = (60) ∧ ((60) : Int64) = v := ⟨_, rfl, rfl⟩
      rw [el4441]
      refine WP_ldc2 (79) dX11_told_112 klX11_363 ?_
      obtain ⟨l4442, hl4442, el4442⟩ : ∃ v : Int64, v.toInt = (79) ∧ ((79) : Int64) = v := ⟨_, rfl, rfl⟩
      rw [el4442]
      refine WP_callS3 dX11_told_115 ⟨⟨⟨by decide, by decide⟩, zX11_in⟩, lX11_52, tX11_in⟩ (em_in hy hr _ _ _  ) (Nat.le_of_ble_eq_true rfl) ?_
      intro r Ia Ja Ra hq
      obtain ⟨⟨ea, eb, ec⟩, v4444, er, p4443⟩ := hq
      rw [ea, eb, ec, er]
      clear ea eb ec er Ia Ja Ra r
      refine WQ_if_eq 155 dX11_told_118 rfl (fun c4444 => ?_) (fun c4444 => ?_)
      · refine WP_iload_n dX11_told_155 rfl ?_
        refine WP_tab 208 dX11_told_156 rfl rfl (fun c4445 => ?_) (fun j off c4445 hj => ?_) (by decide)
        · refine WQ_iconst (-1) (-1) dX11_told_208 rfl rfl (fun v4447 hv4447 => ?_)
          exact WP_iret dX11_told_209 rfl ⟨⟨rfl, rfl, rfl⟩, v4447, rfl, by
            try simp only [ew4422, ew4423, ew4424, ew4425]
            rw [told_n (by omega) (by omega) (by omega) (by omega)]
            omega⟩
        · have hlt : j < 4 := by have := (Array.getElem?_eq_some_iff.mp hj).1; simpa using this
          have hcs : (j = 0 ∧ off = 32) ∨ (j = 1 ∧ off = 37) ∨ (j = 2 ∧ off = 42) ∨ (j = 3 ∧ off = 47) := by
            match j, hlt, hj with
            | 0, _, hj => exact Or.inl ⟨rfl, (Option.some.inj hj).symm⟩
            | 1, _, hj => exact Or.inr (Or.inl ⟨rfl, (Option.some.inj hj).symm⟩)
            | 2, _, hj => exact Or.inr (Or.inr (Or.inl ⟨rfl, (Option.some.inj hj).symm⟩))
            | 3, _, hj => exact Or.inr (Or.inr (Or.inr (⟨rfl, (Option.some.inj hj).symm⟩)))
          clear hj hlt
          rcases hcs with ⟨rfl, rfl⟩ | ⟨rfl, rfl⟩ | ⟨rfl, rfl⟩ | ⟨rfl, rfl⟩
          · show WP _ _ 188 _ _ _ _ _ _
            refine WP_aload_n dX11_told_188 rfl ?_
            refine WQ_getim dX11_told_189 fX11_329 rfl (ly_is hy 0 11 rfl) ew4422 ?_
            exact WP_iret dX11_told_192 rfl ⟨⟨rfl, rfl, rfl⟩, w4422, rfl, by
              try simp only [ew4422, ew4423, ew4424, ew4425]
              unfold toldS
              rw [if_pos (by omega)]
              omega⟩
          · show WP _ _ 193 _ _ _ _ _ _
            refine WP_aload_n dX11_told_193 rfl ?_
            refine WQ_getim dX11_told_194 fX11_332 rfl (ly_is hy 0 11 rfl) ew4423 ?_
            exact WP_iret dX11_told_197 rfl ⟨⟨rfl, rfl, rfl⟩, w4423, rfl, by
              try simp only [ew4422, ew4423, ew4424, ew4425]
              unfold toldS
              rw [if_neg (by omega), if_pos (by omega)]
              omega⟩
          · show WP _ _ 198 _ _ _ _ _ _
            refine WP_aload_n dX11_told_198 rfl ?_
            refine WQ_getim dX11_told_199 fX11_221 rfl (ly_is hy 0 11 rfl) ew4424 ?_
            exact WP_iret dX11_told_202 rfl ⟨⟨rfl, rfl, rfl⟩, w4424, rfl, by
              try simp only [ew4422, ew4423, ew4424, ew4425]
              unfold toldS
              rw [if_neg (by omega), if_neg (by omega), if_pos (by omega)]
              omega⟩
          · show WP _ _ 203 _ _ _ _ _ _
            refine WP_aload_n dX11_told_203 rfl ?_
            refine WQ_getim dX11_told_204 fX11_224 rfl (ly_is hy 0 11 rfl) ew4425 ?_
            exact WP_iret dX11_told_207 rfl ⟨⟨rfl, rfl, rfl⟩, w4425, rfl, by
              try simp only [ew4422, ew4423, ew4424, ew4425]
              unfold toldS
              rw [if_neg (by omega), if_neg (by omega), if_neg (by omega), if_pos (by omega)]
              omega⟩
      · refine WP_iload_n dX11_told_121 rfl ?_
        refine WP_aload_n dX11_told_122 rfl ?_
        refine WQ_getim dX11_told_123 fX11_332 rfl (ly_is hy 0 11 rfl) ew4423 ?_
        refine WQ_icmp_lt 133 dX11_told_126 rfl (fun c4447 => ?_) (fun c4447 => ?_)
        · refine WP_iload_n dX11_told_133 rfl ?_
          refine WQ_bipush (70) (70) dX11_told_134 rfl rfl (fun v4449 hv4449 => ?_)
          refine WQ_icmp_ge 148 dX11_told_136 rfl (fun c4449 => ?_) (fun c4449 => ?_)
          · refine WP_aload_n dX11_told_148 rfl ?_
            refine WP_getr dX11_told_149 fX11_249 rfl (ly_is hy 0 11 rfl) (rf hr 0 31 13 (by decide)) ?_
            refine WP_iload_n dX11_told_152 rfl ?_
            refine WE_ia dX11_told_153 (ly_is hy 13 13 rfl) (ly_n hy 13 3 rfl) (by omega) (by omega) (fun v4451 ev4451 => ?_)
            exact WP_iret dX11_told_154 rfl ⟨⟨rfl, rfl, rfl⟩, v4451, rfl, by
              try simp only [ew4422, ew4423, ew4424, ew4425]
              rw [told_t (by omega) (by omega), show (a.toInt / 10 + 4).toNat = 11 by omega]
              rw [← ev4451, show v4427.toInt.toNat = (a.toInt % 10).toNat by omega]
              exact hS.2.2.2.1 (13, 11, 1) (by decide) ((a.toInt % 10).toNat) (by show (((a.toInt % 10).toNat : Nat) : Int) < ((1 : Nat) : Int) * S.1 0 2; omega)⟩
          · refine WP_aload_n dX11_told_139 rfl ?_
            refine WP_getr dX11_told_140 fX11_246 rfl (ly_is hy 0 11 rfl) (rf hr 0 30 12 (by decide)) ?_
            refine WP_iload_n dX11_told_143 rfl ?_
            refine WE_ia dX11_told_144 (ly_is hy 12 13 rfl) (ly_n hy 12 3 rfl) (by omega) (by omega) (fun v4452 ev4452 => ?_)
            refine WP_goto 154 dX11_told_145 rfl ?_
            exact WP_iret dX11_told_154 rfl ⟨⟨rfl, rfl, rfl⟩, v4452, rfl, by
              try simp only [ew4422, ew4423, ew4424, ew4425]
              rw [told_t (by omega) (by omega), show (a.toInt / 10 + 4).toNat = 10 by omega]
              rw [← ev4452, show v4427.toInt.toNat = (a.toInt % 10).toNat by omega]
              exact hS.2.2.2.1 (12, 10, 1) (by decide) ((a.toInt % 10).toNat) (by show (((a.toInt % 10).toNat : Nat) : Int) < ((1 : Nat) : Int) * S.1 0 2; omega)⟩
        · refine WQ_iconst (-1) (-1) dX11_told_129 rfl rfl (fun v4453 hv4453 => ?_)
          refine WP_goto 154 dX11_told_130 rfl ?_
          exact WP_iret dX11_told_154 rfl ⟨⟨rfl, rfl, rfl⟩, v4453, rfl, by
            try simp only [ew4422, ew4423, ew4424, ew4425]
            rw [told_n (by omega) (by omega) (by omega) (by omega)]
            omega⟩
    · refine WP_iload_n dX11_told_43 rfl ?_
      refine WP_aload_n dX11_told_44 rfl ?_
      refine WQ_getim dX11_told_45 fX11_329 rfl (ly_is hy 0 11 rfl) ew4422 ?_
      refine WQ_icmp_lt 55 dX11_told_48 rfl (fun c4453 => ?_) (fun c4453 => ?_)
      · refine WP_iload_n dX11_told_55 rfl ?_
        refine WQ_bipush (30) (30) dX11_told_56 rfl rfl (fun v4455 hv4455 => ?_)
        refine WQ_icmp_ge 70 dX11_told_58 rfl (fun c4455 => ?_) (fun c4455 => ?_)
        · refine WP_iload_n dX11_told_70 rfl ?_
          refine WQ_bipush (40) (40) dX11_told_71 rfl rfl (fun v4457 hv4457 => ?_)
          refine WQ_icmp_ge 85 dX11_told_73 rfl (fun c4457 => ?_) (fun c4457 => ?_)
          · refine WP_iload_n dX11_told_85 rfl ?_
            refine WQ_bipush (50) (50) dX11_told_86 rfl rfl (fun v4459 hv4459 => ?_)
            refine WQ_icmp_ge 100 dX11_told_88 rfl (fun c4459 => ?_) (fun c4459 => ?_)
            · refine WP_aload_n dX11_told_100 rfl ?_
              refine WP_getr dX11_told_101 fX11_244 rfl (ly_is hy 0 11 rfl) (rf hr 0 29 11 (by decide)) ?_
              refine WP_iload_n dX11_told_104 rfl ?_
              refine WE_ia dX11_told_105 (ly_is hy 11 13 rfl) (ly_n hy 11 4 rfl) (by omega) (by omega) (fun v4461 ev4461 => ?_)
              exact WP_iret dX11_told_106 rfl ⟨⟨rfl, rfl, rfl⟩, v4461, rfl, by
                try simp only [ew4422, ew4423, ew4424, ew4425]
                rw [told_s (by omega) (by omega), show (a.toInt / 10).toNat = 5 by omega]
                rw [← ev4461, show v4427.toInt.toNat = (a.toInt % 10).toNat by omega]
                exact hS.2.2.1 (11, 5, 1) (by decide) ((a.toInt % 10).toNat) (by show (((a.toInt % 10).toNat : Nat) : Int) < ((1 : Nat) : Int) * S.1 0 1; omega)⟩
            · refine WP_aload_n dX11_told_91 rfl ?_
              refine WP_getr dX11_told_92 fX11_241 rfl (ly_is hy 0 11 rfl) (rf hr 0 28 10 (by decide)) ?_
              refine WP_iload_n dX11_told_95 rfl ?_
              refine WE_ia dX11_told_96 (ly_is hy 10 13 rfl) (ly_n hy 10 4 rfl) (by omega) (by omega) (fun v4462 ev4462 => ?_)
              refine WP_goto 106 dX11_told_97 rfl ?_
              exact WP_iret dX11_told_106 rfl ⟨⟨rfl, rfl, rfl⟩, v4462, rfl, by
                try simp only [ew4422, ew4423, ew4424, ew4425]
                rw [told_s (by omega) (by omega), show (a.toInt / 10).toNat = 4 by omega]
                rw [← ev4462, show v4427.toInt.toNat = (a.toInt % 10).toNat by omega]
                exact hS.2.2.1 (10, 4, 1) (by decide) ((a.toInt % 10).toNat) (by show (((a.toInt % 10).toNat : Nat) : Int) < ((1 : Nat) : Int) * S.1 0 1; omega)⟩
          · refine WP_aload_n dX11_told_76 rfl ?_
            refine WP_getr dX11_told_77 fX11_238 rfl (ly_is hy 0 11 rfl) (rf hr 0 27 9 (by decide)) ?_
            refine WP_iload_n dX11_told_80 rfl ?_
            refine WE_ia dX11_told_81 (ly_is hy 9 13 rfl) (ly_n hy 9 4 rfl) (by omega) (by omega) (fun v4463 ev4463 => ?_)
            refine WP_goto 106 dX11_told_82 rfl ?_
            exact WP_iret dX11_told_106 rfl ⟨⟨rfl, rfl, rfl⟩, v4463, rfl, by
              try simp only [ew4422, ew4423, ew4424, ew4425]
              rw [told_s (by omega) (by omega), show (a.toInt / 10).toNat = 3 by omega]
              rw [← ev4463, show v4427.toInt.toNat = (a.toInt % 10).toNat by omega]
              exact hS.2.2.1 (9, 3, 1) (by decide) ((a.toInt % 10).toNat) (by show (((a.toInt % 10).toNat : Nat) : Int) < ((1 : Nat) : Int) * S.1 0 1; omega)⟩
        · refine WP_aload_n dX11_told_61 rfl ?_
          refine WP_getr dX11_told_62 fX11_235 rfl (ly_is hy 0 11 rfl) (rf hr 0 26 8 (by decide)) ?_
          refine WP_iload_n dX11_told_65 rfl ?_
          refine WE_ia dX11_told_66 (ly_is hy 8 13 rfl) (ly_n hy 8 4 rfl) (by omega) (by omega) (fun v4464 ev4464 => ?_)
          refine WP_goto 106 dX11_told_67 rfl ?_
          exact WP_iret dX11_told_106 rfl ⟨⟨rfl, rfl, rfl⟩, v4464, rfl, by
            try simp only [ew4422, ew4423, ew4424, ew4425]
            rw [told_s (by omega) (by omega), show (a.toInt / 10).toNat = 2 by omega]
            rw [← ev4464, show v4427.toInt.toNat = (a.toInt % 10).toNat by omega]
            exact hS.2.2.1 (8, 2, 1) (by decide) ((a.toInt % 10).toNat) (by show (((a.toInt % 10).toNat : Nat) : Int) < ((1 : Nat) : Int) * S.1 0 1; omega)⟩
      · refine WQ_iconst (-1) (-1) dX11_told_51 rfl rfl (fun v4465 hv4465 => ?_)
        refine WP_goto 106 dX11_told_52 rfl ?_
        exact WP_iret dX11_told_106 rfl ⟨⟨rfl, rfl, rfl⟩, v4465, rfl, by
          try simp only [ew4422, ew4423, ew4424, ew4425]
          rw [told_n (by omega) (by omega) (by omega) (by omega)]
          omega⟩
  · refine WP_aload_n dX11_told_19 rfl ?_
    refine WP_getr dX11_told_20 fX11_233 rfl (ly_is hy 0 11 rfl) (rf hr 0 24 6 (by decide)) ?_
    refine WP_iload_n dX11_told_23 rfl ?_
    refine WQ_bipush (10) (10) dX11_told_24 rfl rfl (fun v4466 hv4466 => ?_)
    refine WQ_isub dX11_told_26 (by omega) (by omega) (fun v4467 hv4467 => ?_)
    refine WE_ia dX11_told_27 (ly_is hy 6 13 rfl) (ly_n hy 6 7 rfl) (by omega) (by omega) (fun v4468 ev4468 => ?_)
    exact WP_iret dX11_told_28 rfl ⟨⟨rfl, rfl, rfl⟩, v4468, rfl, by
      try simp only [ew4422, ew4423, ew4424, ew4425]
      rw [told_r (by omega), ← ev4468, show v4467.toInt.toNat = (a.toInt - 10).toNat by omega]
      exact hS.2.1 _ (by omega)⟩
set_option maxHeartbeats 4000000 in
set_option maxRecDepth 100000 in
theorem em_earns {g : GG} {I : pI} {J : pJ} {R : pR} (hy : Ly g) (hr : Rf g R) {S : TwS} (s : Int32) (d : Int32) (hS : RTT g S I J) (hB : SBn S) : SP g mX11_earns [.ref (ad g 0), .int s, .int d] I J R (fun r I' J' R' => (I' = I ∧ J' = J ∧ R' = R) ∧ ∃ v : Int32, r = some (.int v) ∧ (v.toInt = rowS S 6 (S.1 0 1) s.toInt d.toInt)) := by
  refine SP_of ⟨by decide, rfl⟩ (Nat.le_of_ble_eq_true rfl) ?_
  have hB2 := hB
  unfold SBn at hB2
  obtain ⟨z1, z2, z0, z3, z4⟩ := hS.1
  refine WP_aload_n dX11_earns_0 rfl ?_
  refine WP_iload_n dX11_earns_1 rfl ?_
  refine WP_callV1 (k := 11) dX11_earns_2 ⟨⟨⟨by decide, by decide⟩, zX11_isSort⟩, lX11_367, by decide, rfl, vX11_isSort.1, vX11_isSort.2⟩ (ly_is hy 0 11 rfl) (em_isSort hy hr _  hS hB) (Nat.le_of_ble_eq_true rfl) ?_
  intro r Ia Ja Ra hq
  obtain ⟨⟨ea, eb, ec⟩, v4470, er, p4469⟩ := hq
  rw [ea, eb, ec, er]
  clear ea eb ec er Ia Ja Ra r
  refine WQ_if_eq 29 dX11_earns_5 rfl (fun c4470 => ?_) (fun c4470 => ?_)
  · refine WQ_bipush (-2) (-2) dX11_earns_29 rfl rfl (fun v4472 hv4472 => ?_)
    exact WP_iret dX11_earns_31 rfl ⟨⟨rfl, rfl, rfl⟩, v4472, rfl, by
      rw [row_n (by omega)]
      omega⟩
  · refine WP_iload_n dX11_earns_8 rfl ?_
    refine WP_callS1 dX11_earns_9 ⟨⟨⟨by decide, by decide⟩, zX11_isDay⟩, lX11_370, tX11_isDay⟩ (em_isDay hy hr _  ) (Nat.le_of_ble_eq_true rfl) ?_
    intro r Ia Ja Ra hq
    obtain ⟨⟨ea, eb, ec⟩, v4474, er, p4473⟩ := hq
    rw [ea, eb, ec, er]
    clear ea eb ec er Ia Ja Ra r
    refine WQ_if_eq 29 dX11_earns_12 rfl (fun c4474 => ?_) (fun c4474 => ?_)
    · refine WQ_bipush (-2) (-2) dX11_earns_29 rfl rfl (fun v4476 hv4476 => ?_)
      exact WP_iret dX11_earns_31 rfl ⟨⟨rfl, rfl, rfl⟩, v4476, rfl, by
        rw [row_n (by omega)]
        omega⟩
    · refine WP_aload_n dX11_earns_15 rfl ?_
      refine WP_getr dX11_earns_16 fX11_252 rfl (ly_is hy 0 11 rfl) (rf hr 0 38 20 (by decide)) ?_
      refine WQ_bipush (7) (7) dX11_earns_19 rfl rfl (fun v4477 hv4477 => ?_)
      refine WP_iload_n dX11_earns_21 rfl ?_
      refine WQ_imulK (7) dX11_earns_22 hv4477 (by omega) (by omega) (fun v4478 hv4478 => ?_)
      refine WP_iload_n dX11_earns_23 rfl ?_
      refine WQ_iadd dX11_earns_24 (by omega) (by omega) (fun v4479 hv4479 => ?_)
      refine WE_ia dX11_earns_25 (ly_is hy 20 13 rfl) (ly_n hy 20 28 rfl) (by omega) (by omega) (fun v4480 ev4480 => ?_)
      refine WP_goto 31 dX11_earns_26 rfl ?_
      exact WP_iret dX11_earns_31 rfl ⟨⟨rfl, rfl, rfl⟩, v4480, rfl, by
        rw [row_y (by omega)]
        rw [← ev4480, show v4479.toInt.toNat = (s.toInt * 7 + d.toInt).toNat by omega]
        exact hS.2.2.1 (20, 6, 7) (by decide) ((s.toInt * 7 + d.toInt).toNat) (by show (((s.toInt * 7 + d.toInt).toNat : Nat) : Int) < ((7 : Nat) : Int) * S.1 0 1; omega)⟩
set_option maxHeartbeats 4000000 in
set_option maxRecDepth 100000 in
theorem em_made {g : GG} {I : pI} {J : pJ} {R : pR} (hy : Ly g) (hr : Rf g R) {S : TwS} (s : Int32) (d : Int32) (hS : RTT g S I J) (hB : SBn S) : SP g mX11_made [.ref (ad g 0), .int s, .int d] I J R (fun r I' J' R' => (I' = I ∧ J' = J ∧ R' = R) ∧ ∃ v : Int32, r = some (.int v) ∧ (v.toInt = rowS S 13 (S.1 0 2) s.toInt d.toInt)) := by
  refine SP_of ⟨by decide, rfl⟩ (Nat.le_of_ble_eq_true rfl) ?_
  have hB2 := hB
  unfold SBn at hB2
  obtain ⟨z1, z2, z0, z3, z4⟩ := hS.1
  refine WP_aload_n dX11_made_0 rfl ?_
  refine WP_iload_n dX11_made_1 rfl ?_
  refine WP_callV1 (k := 11) dX11_made_2 ⟨⟨⟨by decide, by decide⟩, zX11_isThing⟩, lX11_373, by decide, rfl, vX11_isThing.1, vX11_isThing.2⟩ (ly_is hy 0 11 rfl) (em_isThing hy hr _  hS hB) (Nat.le_of_ble_eq_true rfl) ?_
  intro r Ia Ja Ra hq
  obtain ⟨⟨ea, eb, ec⟩, v4482, er, p4481⟩ := hq
  rw [ea, eb, ec, er]
  clear ea eb ec er Ia Ja Ra r
  refine WQ_if_eq 29 dX11_made_5 rfl (fun c4482 => ?_) (fun c4482 => ?_)
  · refine WQ_bipush (-2) (-2) dX11_made_29 rfl rfl (fun v4484 hv4484 => ?_)
    exact WP_iret dX11_made_31 rfl ⟨⟨rfl, rfl, rfl⟩, v4484, rfl, by
      rw [row_n (by omega)]
      omega⟩
  · refine WP_iload_n dX11_made_8 rfl ?_
    refine WP_callS1 dX11_made_9 ⟨⟨⟨by decide, by decide⟩, zX11_isDay⟩, lX11_370, tX11_isDay⟩ (em_isDay hy hr _  ) (Nat.le_of_ble_eq_true rfl) ?_
    intro r Ia Ja Ra hq
    obtain ⟨⟨ea, eb, ec⟩, v4486, er, p4485⟩ := hq
    rw [ea, eb, ec, er]
    clear ea eb ec er Ia Ja Ra r
    refine WQ_if_eq 29 dX11_made_12 rfl (fun c4486 => ?_) (fun c4486 => ?_)
    · refine WQ_bipush (-2) (-2) dX11_made_29 rfl rfl (fun v4488 hv4488 => ?_)
      exact WP_iret dX11_made_31 rfl ⟨⟨rfl, rfl, rfl⟩, v4488, rfl, by
        rw [row_n (by omega)]
        omega⟩
    · refine WP_aload_n dX11_made_15 rfl ?_
      refine WP_getr dX11_made_16 fX11_259 rfl (ly_is hy 0 11 rfl) (rf hr 0 41 23 (by decide)) ?_
      refine WQ_bipush (7) (7) dX11_made_19 rfl rfl (fun v4489 hv4489 => ?_)
      refine WP_iload_n dX11_made_21 rfl ?_
      refine WQ_imulK (7) dX11_made_22 hv4489 (by omega) (by omega) (fun v4490 hv4490 => ?_)
      refine WP_iload_n dX11_made_23 rfl ?_
      refine WQ_iadd dX11_made_24 (by omega) (by omega) (fun v4491 hv4491 => ?_)
      refine WE_ia dX11_made_25 (ly_is hy 23 13 rfl) (ly_n hy 23 21 rfl) (by omega) (by omega) (fun v4492 ev4492 => ?_)
      refine WP_goto 31 dX11_made_26 rfl ?_
      exact WP_iret dX11_made_31 rfl ⟨⟨rfl, rfl, rfl⟩, v4492, rfl, by
        rw [row_y (by omega)]
        rw [← ev4492, show v4491.toInt.toNat = (s.toInt * 7 + d.toInt).toNat by omega]
        exact hS.2.2.2.1 (23, 13, 7) (by decide) ((s.toInt * 7 + d.toInt).toNat) (by show (((s.toInt * 7 + d.toInt).toNat : Nat) : Int) < ((7 : Nat) : Int) * S.1 0 2; omega)⟩
set_option maxHeartbeats 4000000 in
set_option maxRecDepth 100000 in
theorem em_wants {g : GG} {I : pI} {J : pJ} {R : pR} (hy : Ly g) (hr : Rf g R) {S : TwS} (s : Int32) (d : Int32) (w : Int32) (hS : RTT g S I J) (hB : SBn S) : SP g mX11_wants [.ref (ad g 0), .int s, .int d, .int w] I J R (fun r I' J' R' => (I' = I ∧ J' = J ∧ R' = R) ∧ ∃ v : Int32, r = some (.int v) ∧ (v.toInt = wantS S s.toInt d.toInt w.toInt)) := by
  refine SP_of ⟨by decide, rfl⟩ (Nat.le_of_ble_eq_true rfl) ?_
  have hB2 := hB
  unfold SBn at hB2
  obtain ⟨z1, z2, z0, z3, z4⟩ := hS.1
  refine WP_aload_n dX11_wants_0 rfl ?_
  refine WP_iload_n dX11_wants_1 rfl ?_
  refine WP_callV1 (k := 11) dX11_wants_2 ⟨⟨⟨by decide, by decide⟩, zX11_isSort⟩, lX11_367, by decide, rfl, vX11_isSort.1, vX11_isSort.2⟩ (ly_is hy 0 11 rfl) (em_isSort hy hr _  hS hB) (Nat.le_of_ble_eq_true rfl) ?_
  intro r Ia Ja Ra hq
  obtain ⟨⟨ea, eb, ec⟩, v4494, er, p4493⟩ := hq
  rw [ea, eb, ec, er]
  clear ea eb ec er Ia Ja Ra r
  refine WQ_if_eq 27 dX11_wants_5 rfl (fun c4494 => ?_) (fun c4494 => ?_)
  · refine WQ_bipush (-2) (-2) dX11_wants_27 rfl rfl (fun v4496 hv4496 => ?_)
    exact WP_iret dX11_wants_29 rfl ⟨⟨rfl, rfl, rfl⟩, v4496, rfl, by
      unfold wantS
      split
      · rw [row_n (by omega)]; omega
      · omega⟩
  · refine WP_iload_n dX11_wants_8 rfl ?_
    refine WP_callS1 dX11_wants_9 ⟨⟨⟨by decide, by decide⟩, zX11_isDay⟩, lX11_370, tX11_isDay⟩ (em_isDay hy hr _  ) (Nat.le_of_ble_eq_true rfl) ?_
    intro r Ia Ja Ra hq
    obtain ⟨⟨ea, eb, ec⟩, v4498, er, p4497⟩ := hq
    rw [ea, eb, ec, er]
    clear ea eb ec er Ia Ja Ra r
    refine WQ_if_eq 27 dX11_wants_12 rfl (fun c4498 => ?_) (fun c4498 => ?_)
    · refine WQ_bipush (-2) (-2) dX11_wants_27 rfl rfl (fun v4500 hv4500 => ?_)
      exact WP_iret dX11_wants_29 rfl ⟨⟨rfl, rfl, rfl⟩, v4500, rfl, by
        unfold wantS
        split
        · rw [row_n (by omega)]; omega
        · omega⟩
    · refine WP_iload_n dX11_wants_15 rfl ?_
      refine WP_i2l dX11_wants_16 ?_
      obtain ⟨l4501, xl4501⟩ : ∃ v : Int64, v = w.toInt64 := ⟨_, rfl⟩
      rw [← xl4501]
      have hl4501 : l4501.toInt = w.toInt := by rw [xl4501]; exact t64 _
      refine WP_lconst (0) dX11_wants_17 rfl ?_
      obtain ⟨l4502, hl4502, el4502⟩ : ∃ v : Int64, v.toInt = 0 ∧ (0 : Int64) = v := ⟨_, rfl, rfl⟩
      rw [el4502]
      refine WP_ldc2 (2) dX11_wants_18 klX11_376 ?_
      obtain ⟨l4503, hl4503, el4503⟩ : ∃ v : Int64, v.toInt = (2) ∧ ((2) : Int64) = v := ⟨_, rfl, rfl⟩
      rw [el4503]
      refine WP_callS3 dX11_wants_21 ⟨⟨⟨by decide, by decide⟩, zX11_in⟩, lX11_52, tX11_in⟩ (em_in hy hr _ _ _  ) (Nat.le_of_ble_eq_true rfl) ?_
      intro r Ia Ja Ra hq
      obtain ⟨⟨ea, eb, ec⟩, v4505, er, p4504⟩ := hq
      rw [ea, eb, ec, er]
      clear ea eb ec er Ia Ja Ra r
      refine WQ_if_ne 30 dX11_wants_24 rfl (fun c4505 => ?_) (fun c4505 => ?_)
      · refine WQ_bipush (7) (7) dX11_wants_30 rfl rfl (fun v4507 hv4507 => ?_)
        refine WP_iload_n dX11_wants_32 rfl ?_
        refine WQ_imulK (7) dX11_wants_33 hv4507 (by omega) (by omega) (fun v4508 hv4508 => ?_)
        refine WP_iload_n dX11_wants_34 rfl ?_
        refine WQ_iadd dX11_wants_35 (by omega) (by omega) (fun v4509 hv4509 => ?_)
        refine WP_istore (ls' := [(0, _), (1, _), (2, _), (3, _), (4, _)]) dX11_wants_36 (by decide) rfl ?_
        refine WP_iload_n dX11_wants_38 rfl ?_
        refine WQ_if_ne 52 dX11_wants_39 rfl (fun c4509 => ?_) (fun c4509 => ?_)
        · refine WP_iload_n dX11_wants_52 rfl ?_
          refine WQ_iconst (1) (1) dX11_wants_53 rfl rfl (fun v4511 hv4511 => ?_)
          refine WQ_icmp_ne 67 dX11_wants_54 rfl (fun c4511 => ?_) (fun c4511 => ?_)
          · refine WP_aload_n dX11_wants_67 rfl ?_
            refine WP_getr dX11_wants_68 fX11_267 rfl (ly_is hy 0 11 rfl) (rf hr 0 44 26 (by decide)) ?_
            refine WP_iload dX11_wants_71 rfl ?_
            refine WE_ia dX11_wants_73 (ly_is hy 26 13 rfl) (ly_n hy 26 28 rfl) (by omega) (by omega) (fun v4513 ev4513 => ?_)
            exact WP_iret dX11_wants_74 rfl ⟨⟨rfl, rfl, rfl⟩, v4513, rfl, by
              unfold wantS
              rw [if_pos (by omega), show 7 + w.toInt.toNat = 9 by omega, row_y (by omega)]
              rw [← ev4513, show v4509.toInt.toNat = (s.toInt * 7 + d.toInt).toNat by omega]
              exact hS.2.2.1 (26, 9, 7) (by decide) ((s.toInt * 7 + d.toInt).toNat) (by show (((s.toInt * 7 + d.toInt).toNat : Nat) : Int) < ((7 : Nat) : Int) * S.1 0 1; omega)⟩
          · refine WP_aload_n dX11_wants_57 rfl ?_
            refine WP_getr dX11_wants_58 fX11_264 rfl (ly_is hy 0 11 rfl) (rf hr 0 43 25 (by decide)) ?_
            refine WP_iload dX11_wants_61 rfl ?_
            refine WE_ia dX11_wants_63 (ly_is hy 25 13 rfl) (ly_n hy 25 28 rfl) (by omega) (by omega) (fun v4514 ev4514 => ?_)
            refine WP_goto 74 dX11_wants_64 rfl ?_
            exact WP_iret dX11_wants_74 rfl ⟨⟨rfl, rfl, rfl⟩, v4514, rfl, by
              unfold wantS
              rw [if_pos (by omega), show 7 + w.toInt.toNat = 8 by omega, row_y (by omega)]
              rw [← ev4514, show v4509.toInt.toNat = (s.toInt * 7 + d.toInt).toNat by omega]
              exact hS.2.2.1 (25, 8, 7) (by decide) ((s.toInt * 7 + d.toInt).toNat) (by show (((s.toInt * 7 + d.toInt).toNat : Nat) : Int) < ((7 : Nat) : Int) * S.1 0 1; omega)⟩
        · refine WP_aload_n dX11_wants_42 rfl ?_
          refine WP_getr dX11_wants_43 fX11_261 rfl (ly_is hy 0 11 rfl) (rf hr 0 42 24 (by decide)) ?_
          refine WP_iload dX11_wants_46 rfl ?_
          refine WE_ia dX11_wants_48 (ly_is hy 24 13 rfl) (ly_n hy 24 28 rfl) (by omega) (by omega) (fun v4515 ev4515 => ?_)
          refine WP_goto 74 dX11_wants_49 rfl ?_
          exact WP_iret dX11_wants_74 rfl ⟨⟨rfl, rfl, rfl⟩, v4515, rfl, by
            unfold wantS
            rw [if_pos (by omega), show 7 + w.toInt.toNat = 7 by omega, row_y (by omega)]
            rw [← ev4515, show v4509.toInt.toNat = (s.toInt * 7 + d.toInt).toNat by omega]
            exact hS.2.2.1 (24, 7, 7) (by decide) ((s.toInt * 7 + d.toInt).toNat) (by show (((s.toInt * 7 + d.toInt).toNat : Nat) : Int) < ((7 : Nat) : Int) * S.1 0 1; omega)⟩
      · refine WQ_bipush (-2) (-2) dX11_wants_27 rfl rfl (fun v4516 hv4516 => ?_)
        exact WP_iret dX11_wants_29 rfl ⟨⟨rfl, rfl, rfl⟩, v4516, rfl, by
          unfold wantS
          split
          · rw [row_n (by omega)]; omega
          · omega⟩
set_option maxHeartbeats 4000000 in
set_option maxRecDepth 100000 in
theorem em_count {g : GG} {I : pI} {J : pJ} {R : pR} (hy : Ly g) (hr : Rf g R) {S : TwS} {n : Int} (a : Int32) (hS : RTT g S I J) (hB : SBn S) (hn : (I (ad g 0) 1).toInt = n) : SP g mX11_count [.ref (ad g 0), .int a] I J R (fun r I' J' R' => (I' = I ∧ J' = J ∧ R' = R) ∧ ∃ v : Int32, r = some (.int v) ∧ (v.toInt = cntS S n a.toInt)) := by
  refine SP_of ⟨by decide, rfl⟩ (Nat.le_of_ble_eq_true rfl) ?_
  have hB2 := hB
  unfold SBn at hB2
  obtain ⟨z1, z2, z0, z3, z4⟩ := hS.1
  obtain ⟨w4517, ew4517⟩ : ∃ w : Int32, I (ad g 0) 12 = w := ⟨_, rfl⟩
  obtain ⟨w4518, ew4518⟩ : ∃ w : Int32, I (ad g 0) 1 = w := ⟨_, rfl⟩
  try simp only [ew4517, ew4518] at z0 hn
  refine WP_iload_n dX11_count_0 rfl ?_
  refine WQ_if_ne 11 dX11_count_1 rfl (fun c4518 => ?_) (fun c4518 => ?_)
  · refine WP_iload_n dX11_count_11 rfl ?_
    refine WQ_iconst (1) (1) dX11_count_12 rfl rfl (fun v4520 hv4520 => ?_)
    refine WQ_icmp_ne 23 dX11_count_13 rfl (fun c4520 => ?_) (fun c4520 => ?_)
    · refine WQ_iconst (-1) (-1) dX11_count_23 rfl rfl (fun v4522 hv4522 => ?_)
      exact WP_iret dX11_count_24 rfl ⟨⟨rfl, rfl, rfl⟩, v4522, rfl, by
        try simp only [ew4517, ew4518]
        unfold cntS
        first
        | (rw [if_pos (by omega)]; omega)
        | (rw [if_neg (by omega), if_pos (by omega)]; omega)
        | (rw [if_neg (by omega), if_neg (by omega)]; omega)⟩
    · refine WP_aload_n dX11_count_16 rfl ?_
      refine WQ_getim dX11_count_17 fX11_75 rfl (ly_is hy 0 11 rfl) ew4518 ?_
      refine WP_goto 24 dX11_count_20 rfl ?_
      exact WP_iret dX11_count_24 rfl ⟨⟨rfl, rfl, rfl⟩, w4518, rfl, by
        try simp only [ew4517, ew4518]
        unfold cntS
        first
        | (rw [if_pos (by omega)]; omega)
        | (rw [if_neg (by omega), if_pos (by omega)]; omega)
        | (rw [if_neg (by omega), if_neg (by omega)]; omega)⟩
  · refine WP_aload_n dX11_count_4 rfl ?_
    refine WQ_getim dX11_count_5 fX11_335 rfl (ly_is hy 0 11 rfl) ew4517 ?_
    refine WP_goto 24 dX11_count_8 rfl ?_
    exact WP_iret dX11_count_24 rfl ⟨⟨rfl, rfl, rfl⟩, w4517, rfl, by
      try simp only [ew4517, ew4518]
      unfold cntS
      first
      | (rw [if_pos (by omega)]; omega)
      | (rw [if_neg (by omega), if_pos (by omega)]; omega)
      | (rw [if_neg (by omega), if_neg (by omega)]; omega)⟩
theorem am_told {g : GG} {I : pI} {J : pJ} {R : pR} (hy : Ly g) (hr : Rf g R) {S : TwS} (a : Int32) (hS : RTT g S I J) (hB : SBn S) : SP g mX11_told [.ref (ad g 0), .int a] I J R (fun r _ _ _ => ∃ v : Int32, r = some (.int v) ∧ v.toInt = toldS S a.toInt) := SP_wk (em_told hy hr a hS hB) (fun r I9 J9 R9 q => q.2)
theorem am_earns {g : GG} {I : pI} {J : pJ} {R : pR} (hy : Ly g) (hr : Rf g R) {S : TwS} (s d : Int32) (hS : RTT g S I J) (hB : SBn S) : SP g mX11_earns [.ref (ad g 0), .int s, .int d] I J R (fun r _ _ _ => ∃ v : Int32, r = some (.int v) ∧ v.toInt = rowS S 6 (S.1 0 1) s.toInt d.toInt) := SP_wk (em_earns hy hr s d hS hB) (fun r I9 J9 R9 q => q.2)
theorem am_made {g : GG} {I : pI} {J : pJ} {R : pR} (hy : Ly g) (hr : Rf g R) {S : TwS} (s d : Int32) (hS : RTT g S I J) (hB : SBn S) : SP g mX11_made [.ref (ad g 0), .int s, .int d] I J R (fun r _ _ _ => ∃ v : Int32, r = some (.int v) ∧ v.toInt = rowS S 13 (S.1 0 2) s.toInt d.toInt) := SP_wk (em_made hy hr s d hS hB) (fun r I9 J9 R9 q => q.2)
theorem am_wants {g : GG} {I : pI} {J : pJ} {R : pR} (hy : Ly g) (hr : Rf g R) {S : TwS} (s d w : Int32) (hS : RTT g S I J) (hB : SBn S) : SP g mX11_wants [.ref (ad g 0), .int s, .int d, .int w] I J R (fun r _ _ _ => ∃ v : Int32, r = some (.int v) ∧ v.toInt = wantS S s.toInt d.toInt w.toInt) := SP_wk (em_wants hy hr s d w hS hB) (fun r I9 J9 R9 q => q.2)
theorem am_count {g : GG} {I : pI} {J : pJ} {R : pR} (hy : Ly g) (hr : Rf g R) {S : TwS} {n : Int} (a : Int32) (hS : RTT g S I J) (hB : SBn S) (hn : (I (ad g 0) 1).toInt = n) : SP g mX11_count [.ref (ad g 0), .int a] I J R (fun r _ _ _ => ∃ v : Int32, r = some (.int v) ∧ v.toInt = cntS S n a.toInt) := SP_wk (em_count hy hr a hS hB hn) (fun r I9 J9 R9 q => q.2)
