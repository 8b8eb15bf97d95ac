set_option maxHeartbeats 4000000 in
set_option maxRecDepth 100000 in
theorem em_isSort {g : GG} {I : pI} {J : pJ} {R : pR} (hy : Ly g) (hr : Rf g R) {S : TwS} (s : Int32) (hS : RTT g S I J) (hB : SBn S) : SP g mX11_isSort [.ref (ad g 0), .int s] I J R (fun r I' J' R' => (I' = I ∧ J' = J ∧ R' = R) ∧ ∃ v : Int32, r = some (.int v) ∧ ((v.toInt = 1 ∧ 0 ≤ s.toInt ∧ s.toInt < S.1 0 1) ∨ (v.toInt = 0 ∧ ¬ (0 ≤ s.toInt ∧ s.toInt < S.1 0 1)))) := by
  refine SP_of ⟨by decide, rfl⟩ (Nat.le_of_ble_eq_true rfl) ?_
  have hB2 := hB
  unfold SBn at hB2
  obtain ⟨z1, z2, z0, z3, z4⟩ := hS.1
  obtain ⟨w4168, ew4168⟩ : ∃ w : Int32, I (ad g 0) 10 = w := ⟨_, rfl⟩
  try simp only [ew4168] at z1
  refine WP_iload_n dX11_isSort_0 rfl ?_
  refine WP_i2l dX11_isSort_1 ?_
  obtain ⟨l4169, xl4169⟩ : ∃ v : Int64, v = s.toInt64 := ⟨_, rfl⟩
  rw [← xl4169]
  have hl4169 : l4169.toInt = s.toInt := by rw [xl4169]; exact t64 _
  refine WP_lconst (0) dX11_isSort_2 rfl ?_
  obtain ⟨l4170, hl4170, el4170⟩ : ∃ v : Int64, v.toInt = 0 ∧ (0 : Int64) = v := ⟨_, rfl, rfl⟩
  rw [el4170]
  refine WP_aload_n dX11_isSort_3 rfl ?_
  refine WQ_getim dX11_isSort_4 fX11_329 rfl (ly_is hy 0 11 rfl) ew4168 ?_
  refine WP_i2l dX11_isSort_7 ?_
  obtain ⟨l4171, xl4171⟩ : ∃ v : Int64, v = w4168.toInt64 := ⟨_, rfl⟩
  rw [← xl4171]
  have hl4171 : l4171.toInt = w4168.toInt := by rw [xl4171]; exact t64 _
  refine WP_lconst (1) dX11_isSort_8 rfl ?_
  obtain ⟨l4172, hl4172, el4172⟩ : ∃ v : Int64, v.toInt = 1 ∧ (1 : Int64) = v := ⟨_, rfl, rfl⟩
  rw [el4172]
  refine WP_lsub dX11_isSort_9 ?_
  obtain ⟨l4173, xl4173⟩ : ∃ v : Int64, v = l4171 - l4172 := ⟨_, rfl⟩
  rw [← xl4173]
  have hl9 : l4173.toInt = S.1 0 1 - 1 := by rw [xl4173, js (by omega) (by omega)]; omega
  refine WP_callS3 dX11_isSort_10 ⟨⟨⟨by decide, by decide⟩, zX11_in⟩, lX11_52, tX11_in⟩ (em_in hy hr _ _ _  ) (Nat.le_of_ble_eq_true rfl) ?_
  intro r Ia Ja Ra hq
  obtain ⟨⟨ea, eb, ec⟩, v4175, er, p4174⟩ := hq
  rw [ea, eb, ec, er]
  clear ea eb ec er Ia Ja Ra r
  exact WP_zret dX11_isSort_13 rfl (nar_z (by omega)) ⟨⟨rfl, rfl, rfl⟩, v4175, rfl, by
    try simp only [ew4168]
    rcases p4174 with ⟨a, b, c⟩ | ⟨a, b⟩
    · exact Or.inl ⟨a, by omega, by omega⟩
    · exact Or.inr ⟨a, by omega⟩⟩
