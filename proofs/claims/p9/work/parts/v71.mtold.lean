set_option maxHeartbeats 4000000 in
set_option maxRecDepth 100000 in
theorem em_isDay {g : GG} {I : pI} {J : pJ} {R : pR} (hy : Ly g) (hr : Rf g R)  (d : Int32)  : SP g mX11_isDay [.int d] I J R (fun r I' J' R' => (I' = I ∧ J' = J ∧ R' = R) ∧ ∃ v : Int32, r = some (.int v) ∧ ((v.toInt = 1 ∧ 0 ≤ d.toInt ∧ d.toInt < 7) ∨ (v.toInt = 0 ∧ ¬ (0 ≤ d.toInt ∧ d.toInt < 7)))) := by
  refine SP_of ⟨by decide, rfl⟩ (Nat.le_of_ble_eq_true rfl) ?_
  refine WP_iload_n dX11_isDay_0 rfl ?_
  refine WP_i2l dX11_isDay_1 ?_
  obtain ⟨l4163, xl4163⟩ : ∃ v : Int64, v = d.toInt64 := ⟨_, rfl⟩
  rw [← xl4163]
  have hl4163 : l4163.toInt = d.toInt := by rw [xl4163]; exact t64 _
  refine WP_lconst (0) dX11_isDay_2 rfl ?_
  obtain ⟨l4164, hl4164, el4164⟩ : ∃ v : Int64, v.toInt = 0 ∧ (0 : Int64) = v := ⟨_, rfl, rfl⟩
  rw [el4164]
  refine WP_ldc2 (6) dX11_isDay_3 klX11_365 ?_
  obtain ⟨l4165, hl4165, el4165⟩ : ∃ v : Int64, v.toInt = (6) ∧ ((6) : Int64) = v := ⟨_, rfl, rfl⟩
  rw [el4165]
  refine WP_callS3 dX11_isDay_6 ⟨⟨⟨by decide, by decide⟩, zX11_in⟩, lX11_52, tX11_in⟩ (em_in hy hr _ _ _  ) (Nat.le_of_ble_eq_true rfl) ?_
  intro r Ia Ja Ra hq
  obtain ⟨⟨ea, eb, ec⟩, v4167, er, p4166⟩ := hq
  rw [ea, eb, ec, er]
  clear ea eb ec er Ia Ja Ra r
  exact WP_zret dX11_isDay_9 rfl (nar_z (by omega)) ⟨⟨rfl, rfl, rfl⟩, v4167, rfl, by
    rcases p4166 with ⟨a, b, c⟩ | ⟨a, b⟩
    · exact Or.inl ⟨a, by omega, by omega⟩
    · exact Or.inr ⟨a, by omega⟩⟩
set_option maxHeartbeats 4000000 in
set_option maxRecDepth 100000 in
theorem em_isSort {g : GG} {I : pI} {J : pJ} {R : pR} (hy : Ly g) (hr : Rf g R) {S : TwS} (s : Int32) (hS : RTT g S I J) (hB : SBn S) : SP g mX11_isSort [.ref (ad g 0), .int s] I J R (fun r I' J' R' => (I' = I ∧ J' = J ∧ R' = R) ∧ ∃ v : Int32, r = some (.int v) ∧ ((v.toInt = 1 ∧ 0 ≤ s.toInt ∧ s.toInt < S.1 0 1) ∨ (v.toInt = 0 ∧ ¬ (0 ≤ s.toInt ∧ s.toInt < S.1 0 1)))) := by
  refine SP_of ⟨by decide, rfl⟩ (Nat.le_of_ble_eq_true rfl) ?_
  have hB2 := hB
  unfold SBn at hB2
  obtain ⟨z1, z2, z0, z3, z4⟩ := hS.1
  obtain ⟨w4168, ew4168⟩ : ∃ w : Int32, I (ad g 0) 10 = w := ⟨_, rfl⟩
  try simp only [ew4168] at z1
  refine WP_iload_n dX11_isSort_0 rfl ?_
  refine WP_i2l dX11_isSort_1 ?_
  obtain ⟨l4169, xl4169⟩ : ∃ v : Int64, v = s.toInt64 := ⟨_, rfl⟩
  rw [← xl4169]
  have hl4169 : l4169.toInt = s.toInt := by rw [xl4169]; exact t64 _
  refine WP_lconst (0) dX11_isSort_2 rfl ?_
  obtain ⟨l4170, hl4170, el4170⟩ : ∃ v : Int64, v.toInt = 0 ∧ (0 : Int64) = v := ⟨_, rfl, rfl⟩
  rw [el4170]
  refine WP_aload_n dX11_isSort_3 rfl ?_
  refine WQ_getim dX11_isSort_4 fX11_329 rfl (ly_is hy 0 11 rfl) ew4168 ?_
  refine WP_i2l dX11_isSort_7 ?_
  obtain ⟨l4171, xl4171⟩ : ∃ v : Int64, v = w4168.toInt64 := ⟨_, rfl⟩
  rw [← xl4171]
  have hl4171 : l4171.toInt = w4168.toInt := by rw [xl4171]; exact t64 _
  refine WP_lconst (1) dX11_isSort_8 rfl ?_
  obtain ⟨l4172, hl4172, el4172⟩ : ∃ v : Int64, v.toInt = 1 ∧ (1 : Int64) = v := ⟨_, rfl, rfl⟩
  rw [el4172]
  refine WP_lsub dX11_isSort_9 ?_
  obtain ⟨l4173, xl4173⟩ : ∃ v : Int64, v = l4171 - l4172 := ⟨_, rfl⟩
  rw [← xl4173]
  have hl9 : l4173.toInt = S.1 0 1 - 1 := by rw [xl4173, js (by omega) (by omega)]; omega
  refine WP_callS3 dX11_isSort_10 ⟨⟨⟨by decide, by decide⟩, zX11_in⟩, lX11_52, tX11_in⟩ (em_in hy hr _ _ _  ) (Nat.le_of_ble_eq_true rfl) ?_
  intro r Ia Ja Ra hq
  obtain ⟨⟨ea, eb, ec⟩, v4175, er, p4174⟩ := hq
  rw [ea, eb, ec, er]
  clear ea eb ec er Ia Ja Ra r
  exact WP_zret dX11_isSort_13 rfl (nar_z (by omega)) ⟨⟨rfl, rfl, rfl⟩, v4175, rfl, by
    try simp only [ew4168]
    rcases p4174 with ⟨a, b, c⟩ | ⟨a, b⟩
    · exact Or.inl ⟨a, by omega, by omega⟩
    · exact Or.inr ⟨a, by omega⟩⟩
set_option maxHeartbeats 4000000 in
set_option maxRecDepth 100000 in
theorem em_isThing {g : GG} {I : pI} {J : pJ} {R : pR} (hy : Ly g) (hr : Rf g R) {S : TwS} (s : Int32) (hS : RTT g S I J) (hB : SBn S) : SP g mX11_isThing [.ref (ad g 0), .int s] I J R (fun r I' J' R' => (I' = I ∧ J' = J ∧ R' = R) ∧ ∃ v : Int32, r = some (.int v) ∧ ((v.toInt = 1 ∧ 0 ≤ s.toInt ∧ s.toInt < S.1 0 2) ∨ (v.toInt = 0 ∧ ¬ (0 ≤ s.toInt ∧ s.toInt < S.1 0 2)))) := by
  refine SP_of ⟨by decide, rfl⟩ (Nat.le_of_ble_eq_true rfl) ?_
  have hB2 := hB
  unfold SBn at hB2
  obtain ⟨z1, z2, z0, z3, z4⟩ := hS.1
  obtain ⟨w4176, ew4176⟩ : ∃ w : Int32, I (ad g 0) 11 = w := ⟨_, rfl⟩
  try simp only [ew4176] at z2
  refine WP_iload_n dX11_isThing_0 rfl ?_
  refine WP_i2l dX11_isThing_1 ?_
  obtain ⟨l4177, xl4177⟩ : ∃ v : Int64, v = s.toInt64 := ⟨_, rfl⟩
  rw [← xl4177]
  have hl4177 : l4177.toInt = s.toInt := by rw [xl4177]; exact t64 _
  refine WP_lconst (0) dX11_isThing_2 rfl ?_
  obtain ⟨l4178, hl4178, el4178⟩ : ∃ v : Int64, v.toInt = 0 ∧ (0 : Int64) = v := ⟨_, rfl, rfl⟩
  rw [el4178]
  refine WP_aload_n dX11_isThing_3 rfl ?_
  refine WQ_getim dX11_isThing_4 fX11_332 rfl (ly_is hy 0 11 rfl) ew4176 ?_
  refine WP_i2l dX11_isThing_7 ?_
  obtain ⟨l4179, xl4179⟩ : ∃ v : Int64, v = w4176.toInt64 := ⟨_, rfl⟩
  rw [← xl4179]
  have hl4179 : l4179.toInt = w4176.toInt := by rw [xl4179]; exact t64 _
  refine WP_lconst (1) dX11_isThing_8 rfl ?_
  obtain ⟨l4180, hl4180, el4180⟩ : ∃ v : Int64, v.toInt = 1 ∧ (1 : Int64) = v := ⟨_, rfl, rfl⟩
  rw [el4180]
  refine WP_lsub dX11_isThing_9 ?_
  obtain ⟨l4181, xl4181⟩ : ∃ v : Int64, v = l4179 - l4180 := ⟨_, rfl⟩
  rw [← xl4181]
  have hl9 : l4181.toInt = S.1 0 2 - 1 := by rw [xl4181, js (by omega) (by omega)]; omega
  refine WP_callS3 dX11_isThing_10 ⟨⟨⟨by decide, by decide⟩, zX11_in⟩, lX11_52, tX11_in⟩ (em_in hy hr _ _ _  ) (Nat.le_of_ble_eq_true rfl) ?_
  intro r Ia Ja Ra hq
  obtain ⟨⟨ea, eb, ec⟩, v4183, er, p4182⟩ := hq
  rw [ea, eb, ec, er]
  clear ea eb ec er Ia Ja Ra r
  exact WP_zret dX11_isThing_13 rfl (nar_z (by omega)) ⟨⟨rfl, rfl, rfl⟩, v4183, rfl, by
    try simp only [ew4176]
    rcases p4182 with ⟨a, b, c⟩ | ⟨a, b⟩
    · exact Or.inl ⟨a, by omega, by omega⟩
    · exact Or.inr ⟨a, by omega⟩⟩
set_option maxHeartbeats 4000000 in
set_option maxRecDepth 100000 in
theorem em_made {g : GG} {I : pI} {J : pJ} {R : pR} (hy : Ly g) (hr : Rf g R) {S : TwS} (s : Int32) (d : Int32) (hS : RTT g S I J) (hB : SBn S) : SP g mX11_made [.ref (ad g 0), .int s, .int d] I J R (fun r I' J' R' => (I' = I ∧ J' = J ∧ R' = R) ∧ ∃ v : Int32, r = some (.int v) ∧ (v.toInt = rowS S 13 (S.1 0 2) s.toInt d.toInt)) := by
  refine SP_of ⟨by decide, rfl⟩ (Nat.le_of_ble_eq_true rfl) ?_
  have hB2 := hB
  unfold SBn at hB2
  obtain ⟨z1, z2, z0, z3, z4⟩ := hS.1
  refine WP_aload_n dX11_made_0 rfl ?_
  refine WP_iload_n dX11_made_1 rfl ?_
  refine WP_callV1 (k := 11) dX11_made_2 ⟨⟨⟨by decide, by decide⟩, zX11_isThing⟩, lX11_373, by decide, rfl, vX11_isThing.1, vX11_isThing.2⟩ (ly_is hy 0 11 rfl) (em_isThing hy hr _  hS hB) (Nat.le_of_ble_eq_true rfl) ?_
  intro r Ia Ja Ra hq
  obtain ⟨⟨ea, eb, ec⟩, v4244, er, p4243⟩ := hq
  rw [ea, eb, ec, er]
  clear ea eb ec er Ia Ja Ra r
  refine WQ_if_eq 29 dX11_made_5 rfl (fun c4244 => ?_) (fun c4244 => ?_)
  · refine WQ_bipush (-2) (-2) dX11_made_29 rfl rfl (fun v4246 hv4246 => ?_)
    exact WP_iret dX11_made_31 rfl ⟨⟨rfl, rfl, rfl⟩, v4246, rfl, by
      rw [row_n (by omega)]
      omega⟩
  · refine WP_iload_n dX11_made_8 rfl ?_
    refine WP_callS1 dX11_made_9 ⟨⟨⟨by decide, by decide⟩, zX11_isDay⟩, lX11_370, tX11_isDay⟩ (em_isDay hy hr _  ) (Nat.le_of_ble_eq_true rfl) ?_
    intro r Ia Ja Ra hq
    obtain ⟨⟨ea, eb, ec⟩, v4248, er, p4247⟩ := hq
    rw [ea, eb, ec, er]
    clear ea eb ec er Ia Ja Ra r
    refine WQ_if_eq 29 dX11_made_12 rfl (fun c4248 => ?_) (fun c4248 => ?_)
    · refine WQ_bipush (-2) (-2) dX11_made_29 rfl rfl (fun v4250 hv4250 => ?_)
      exact WP_iret dX11_made_31 rfl ⟨⟨rfl, rfl, rfl⟩, v4250, rfl, by
        rw [row_n (by omega)]
        omega⟩
    · refine WP_aload_n dX11_made_15 rfl ?_
      refine WP_getr dX11_made_16 fX11_259 rfl (ly_is hy 0 11 rfl) (rf hr 0 41 23 (by decide)) ?_
      refine WQ_bipush (7) (7) dX11_made_19 rfl rfl (fun v4251 hv4251 => ?_)
      refine WP_iload_n dX11_made_21 rfl ?_
      refine WQ_imulK (7) dX11_made_22 hv4251 (by omega) (by omega) (fun v4252 hv4252 => ?_)
      refine WP_iload_n dX11_made_23 rfl ?_
      refine WQ_iadd dX11_made_24 (by omega) (by omega) (fun v4253 hv4253 => ?_)
      refine WE_ia dX11_made_25 (ly_is hy 23 13 rfl) (ly_n hy 23 21 rfl) (by omega) (by omega) (fun v4254 ev4254 => ?_)
      refine WP_goto 31 dX11_made_26 rfl ?_
      exact WP_iret dX11_made_31 rfl ⟨⟨rfl, rfl, rfl⟩, v4254, rfl, by
        rw [row_y (by omega)]
        rw [← ev4254, show v4253.toInt.toNat = (s.toInt * 7 + d.toInt).toNat by omega]
        exact hS.2.2.2.1 (23, 13, 7) (by decide) ((s.toInt * 7 + d.toInt).toNat) (by show (((s.toInt * 7 + d.toInt).toNat : Nat) : Int) < ((7 : Nat) : Int) * S.1 0 2; omega)⟩
theorem am_made {g : GG} {I : pI} {J : pJ} {R : pR} (hy : Ly g) (hr : Rf g R) {S : TwS} (s d : Int32) (hS : RTT g S I J) (hB : SBn S) : SP g mX11_made [.ref (ad g 0), .int s, .int d] I J R (fun r _ _ _ => ∃ v : Int32, r = some (.int v) ∧ v.toInt = rowS S 13 (S.1 0 2) s.toInt d.toInt) := SP_wk (em_made hy hr s d hS hB) (fun r I9 J9 R9 q => q.2)
