set_option maxHeartbeats 4000000 in
set_option maxRecDepth 100000 in
theorem em_isDay {g : GG} {I : pI} {J : pJ} {R : pR} (hy : Ly g) (hr : Rf g R)  (d : Int32)  : SP g mX11_isDay [.int d] I J R (fun r I' J' R' => (I' = I ∧ J' = J ∧ R' = R) ∧ ∃ v : Int32, r = some (.int v) ∧ ((v.toInt = 1 ∧ 0 ≤ d.toInt ∧ d.toInt < 7) ∨ (v.toInt = 0 ∧ ¬ (0 ≤ d.toInt ∧ d.toInt < 7)))) := by
  refine SP_of ⟨by decide, rfl⟩ (Nat.le_of_ble_eq_true rfl) ?_
  refine WP_iload_n dX11_isDay_0 rfl ?_
  refine WP_i2l dX11_isDay_1 ?_
  obtain ⟨l4163, xl4163⟩ : ∃ v : Int64, v = d.toInt64 := ⟨_, rfl⟩
  rw [← xl4163]
  have hl4163 : l4163.toInt = d.toInt := by rw [xl4163]; exact t64 _
  refine WP_lconst (0) dX11_isDay_2 rfl ?_
  obtain ⟨l4164, hl4164, el4164⟩ : ∃ v : Int64, v.toInt = 0 ∧ (0 : Int64) = v := ⟨_, rfl, rfl⟩
  rw [el4164]
  refine WP_ldc2 (6) dX11_isDay_3 klX11_365 ?_
  obtain ⟨l4165, hl4165, el4165⟩ : ∃ v : Int64, v.toInt = (6) ∧ ((6) : Int64) = v := ⟨_, rfl, rfl⟩
  rw [el4165]
  refine WP_callS3 dX11_isDay_6 ⟨⟨⟨by decide, by decide⟩, zX11_in⟩, lX11_52, tX11_in⟩ (em_in hy hr _ _ _  ) (Nat.le_of_ble_eq_true rfl) ?_
  intro r Ia Ja Ra hq
  obtain ⟨⟨ea, eb, ec⟩, v4167, er, p4166⟩ := hq
  rw [ea, eb, ec, er]
  clear ea eb ec er Ia Ja Ra r
  exact WP_zret dX11_isDay_9 rfl (nar_z (by omega)) ⟨⟨rfl, rfl, rfl⟩, v4167, rfl, by
    rcases p4166 with ⟨a, b, c⟩ | ⟨a, b⟩
    · exact Or.inl ⟨a, by omega, by omega⟩
    · exact Or.inr ⟨a, by omega⟩⟩
set_option maxHeartbeats 4000000 in
set_option maxRecDepth 100000 in
theorem em_isSort {g : GG} {I : pI} {J : pJ} {R : pR} (hy : Ly g) (hr : Rf g R) {S : TwS} (s : Int32) (hS : RTT g S I J) (hB : SBn S) : SP g mX11_isSort [.ref (ad g 0), .int s] I J R (fun r I' J' R' => (I' = I ∧ J' = J ∧ R' = R) ∧ ∃ v : Int32, r = some (.int v) ∧ ((v.toInt = 1 ∧ 0 ≤ s.toInt ∧ s.toInt < S.1 0 1) ∨ (v.toInt = 0 ∧ ¬ (0 ≤ s.toInt ∧ s.toInt < S.1 0 1)))) := by
  refine SP_of ⟨by decide, rfl⟩ (Nat.le_of_ble_eq_true rfl) ?_
  have hB2 := hB
  unfold SBn at hB2
  obtain ⟨z1, z2, z0, z3, z4⟩ := hS.1
  obtain ⟨w4168, ew4168⟩ : ∃ w : Int32, I (ad g 0) 10 = w := ⟨_, rfl⟩
  try simp only [ew4168] at z1
  refine WP_iload_n dX11_isSort_0 rfl ?_
  refine WP_i2l dX11_isSort_1 ?_
  obtain ⟨l4169, xl4169⟩ : ∃ v : Int64, v = s.toInt64 := ⟨_, rfl⟩
  rw [← xl4169]
  have hl4169 : l4169.toInt = s.toInt := by rw [xl4169]; exact t64 _
  refine WP_lconst (0) dX11_isSort_2 rfl ?_
  obtain ⟨l4170, hl4170, el4170⟩ : ∃ v : Int64, v.toInt = 0 ∧ (0 : Int64) = v := ⟨_, rfl, rfl⟩
  rw [el4170]
  refine WP_aload_n dX11_isSort_3 rfl ?_
  refine WQ_getim dX11_isSort_4 fX11_329 rfl (ly_is hy 0 11 rfl) ew4168 ?_
  refine WP_i2l dX11_isSort_7 ?_
  obtain ⟨l4171, xl4171⟩ : ∃ v : Int64, v = w4168.toInt64 := ⟨_, rfl⟩
  rw [← xl4171]
  have hl4171 : l4171.toInt = w4168.toInt := by rw [xl4171]; exact t64 _
  refine WP_lconst (1) dX11_isSort_8 rfl ?_
  obtain ⟨l4172, hl4172, el4172⟩ : ∃ v : Int64, v.toInt = 1 ∧ (1 : Int64) = v := ⟨_, rfl, rfl⟩
  rw [el4172]
  refine WP_lsub dX11_isSort_9 ?_
  obtain ⟨l4173, xl4173⟩ : ∃ v : Int64, v = l4171 - l4172 := ⟨_, rfl⟩
  rw [← xl4173]
  have hl9 : l4173.toInt = S.1 0 1 - 1 := by rw [xl4173, js (by omega) (by omega)]; omega
  refine WP_callS3 dX11_isSort_10 ⟨⟨⟨by decide, by decide⟩, zX11_in⟩, lX11_52, tX11_in⟩ (em_in hy hr _ _ _  ) (Nat.le_of_ble_eq_true rfl) ?_
  intro r Ia Ja Ra hq
  obtain ⟨⟨ea, eb, ec⟩, v4175, er, p4174⟩ := hq
  rw [ea, eb, ec, er]
  clear ea eb ec er Ia Ja Ra r
  exact WP_zret dX11_isSort_13 rfl (nar_z (by omega)) ⟨⟨rfl, rfl, rfl⟩, v4175, rfl, by
    try simp only [ew4168]
    rcases p4174 with ⟨a, b, c⟩ | ⟨a, b⟩
    · exact Or.inl ⟨a, by omega, by omega⟩
    · exact Or.inr ⟨a, by omega⟩⟩
set_option maxHeartbeats 4000000 in
set_option maxRecDepth 100000 in
theorem em_wants {g : GG} {I : pI} {J : pJ} {R : pR} (hy : Ly g) (hr : Rf g R) {S : TwS} (s : Int32) (d : Int32) (w : Int32) (hS : RTT g S I J) (hB : SBn S) : SP g mX11_wants [.ref (ad g 0), .int s, .int d, .int w] I J R (fun r I' J' R' => (I' = I ∧ J' = J ∧ R' = R) ∧ ∃ v : Int32, r = some (.int v) ∧ (v.toInt = wantS S s.toInt d.toInt w.toInt)) := by
  refine SP_of ⟨by decide, rfl⟩ (Nat.le_of_ble_eq_true rfl) ?_
  have hB2 := hB
  unfold SBn at hB2
  obtain ⟨z1, z2, z0, z3, z4⟩ := hS.1
  refine WP_aload_n dX11_wants_0 rfl ?_
  refine WP_iload_n dX11_wants_1 rfl ?_
  refine WP_callV1 (k := 11) dX11_wants_2 ⟨⟨⟨by decide, by decide⟩, zX11_isSort⟩, lX11_367, by decide, rfl, vX11_isSort.1, vX11_isSort.2⟩ (ly_is hy 0 11 rfl) (em_isSort hy hr _  hS hB) (Nat.le_of_ble_eq_true rfl) ?_
  intro r Ia Ja Ra hq
  obtain ⟨⟨ea, eb, ec⟩, v4256, er, p4255⟩ := hq
  rw [ea, eb, ec, er]
  clear ea eb ec er Ia Ja Ra r
  refine WQ_if_eq 27 dX11_wants_5 rfl (fun c4256 => ?_) (fun c4256 => ?_)
  · refine WQ_bipush (-2) (-2) dX11_wants_27 rfl rfl (fun v4258 hv4258 => ?_)
    exact WP_iret dX11_wants_29 rfl ⟨⟨rfl, rfl, rfl⟩, v4258, rfl, by
      unfold wantS
      split
      · rw [row_n (by omega)]; omega
      · omega⟩
  · refine WP_iload_n dX11_wants_8 rfl ?_
    refine WP_callS1 dX11_wants_9 ⟨⟨⟨by decide, by decide⟩, zX11_isDay⟩, lX11_370, tX11_isDay⟩ (em_isDay hy hr _  ) (Nat.le_of_ble_eq_true rfl) ?_
    intro r Ia Ja Ra hq
    obtain ⟨⟨ea, eb, ec⟩, v4260, er, p4259⟩ := hq
    rw [ea, eb, ec, er]
    clear ea eb ec er Ia Ja Ra r
    refine WQ_if_eq 27 dX11_wants_12 rfl (fun c4260 => ?_) (fun c4260 => ?_)
    · refine WQ_bipush (-2) (-2) dX11_wants_27 rfl rfl (fun v4262 hv4262 => ?_)
      exact WP_iret dX11_wants_29 rfl ⟨⟨rfl, rfl, rfl⟩, v4262, rfl, by
        unfold wantS
        split
        · rw [row_n (by omega)]; omega
        · omega⟩
    · refine WP_iload_n dX11_wants_15 rfl ?_
      refine WP_i2l dX11_wants_16 ?_
      obtain ⟨l4263, xl4263⟩ : ∃ v : Int64, v = w.toInt64 := ⟨_, rfl⟩
      rw [← xl4263]
      have hl4263 : l4263.toInt = w.toInt := by rw [xl4263]; exact t64 _
      refine WP_lconst (0) dX11_wants_17 rfl ?_
      obtain ⟨l4264, hl4264, el4264⟩ : ∃ v : Int64, v.toInt = 0 ∧ (0 : Int64) = v := ⟨_, rfl, rfl⟩
      rw [el4264]
      refine WP_ldc2 (2) dX11_wants_18 klX11_376 ?_
      obtain ⟨l4265, hl4265, el4265⟩ : ∃ v : Int64, v.toInt = (2) ∧ ((2) : Int64) = v := ⟨_, rfl, rfl⟩
      rw [el4265]
      refine WP_callS3 dX11_wants_21 ⟨⟨⟨by decide, by decide⟩, zX11_in⟩, lX11_52, tX11_in⟩ (em_in hy hr _ _ _  ) (Nat.le_of_ble_eq_true rfl) ?_
      intro r Ia Ja Ra hq
      obtain ⟨⟨ea, eb, ec⟩, v4267, er, p4266⟩ := hq
      rw [ea, eb, ec, er]
      clear ea eb ec er Ia Ja Ra r
      refine WQ_if_ne 30 dX11_wants_24 rfl (fun c4267 => ?_) (fun c4267 => ?_)
      · refine WQ_bipush (7) (7) dX11_wants_30 rfl rfl (fun v4269 hv4269 => ?_)
        refine WP_iload_n dX11_wants_32 rfl ?_
        refine WQ_imulK (7) dX11_wants_33 hv4269 (by omega) (by omega) (fun v4270 hv4270 => ?_)
        refine WP_iload_n dX11_wants_34 rfl ?_
        refine WQ_iadd dX11_wants_35 (by omega) (by omega) (fun v4271 hv4271 => ?_)
        refine WP_istore (ls' := [(0, _), (1, _), (2, _), (3, _), (4, _)]) dX11_wants_36 (by decide) rfl ?_
        refine WP_iload_n dX11_wants_38 rfl ?_
        refine WQ_if_ne 52 dX11_wants_39 rfl (fun c4271 => ?_) (fun c4271 => ?_)
        · refine WP_iload_n dX11_wants_52 rfl ?_
          refine WQ_iconst (1) (1) dX11_wants_53 rfl rfl (fun v4273 hv4273 => ?_)
          refine WQ_icmp_ne 67 dX11_wants_54 rfl (fun c4273 => ?_) (fun c4273 => ?_)
          · refine WP_aload_n dX11_wants_67 rfl ?_
            refine WP_getr dX11_wants_68 fX11_267 rfl (ly_is hy 0 11 rfl) (rf hr 0 44 26 (by decide)) ?_
            refine WP_iload dX11_wants_71 rfl ?_
            refine WE_ia dX11_wants_73 (ly_is hy 26 13 rfl) (ly_n hy 26 28 rfl) (by omega) (by omega) (fun v4275 ev4275 => ?_)
            exact WP_iret dX11_wants_74 rfl ⟨⟨rfl, rfl, rfl⟩, v4275, rfl, by
              unfold wantS
              rw [if_pos (by omega), show 7 + w.toInt.toNat = 9 by omega, row_y (by omega)]
              rw [← ev4275, show v4271.toInt.toNat = (s.toInt * 7 + d.toInt).toNat by omega]
              exact hS.2.2.1 (26, 9, 7) (by decide) ((s.toInt * 7 + d.toInt).toNat) (by show (((s.toInt * 7 + d.toInt).toNat : Nat) : Int) < ((7 : Nat) : Int) * S.1 0 1; omega)⟩
          · refine WP_aload_n dX11_wants_57 rfl ?_
            refine WP_getr dX11_wants_58 fX11_264 rfl (ly_is hy 0 11 rfl) (rf hr 0 43 25 (by decide)) ?_
            refine WP_iload dX11_wants_61 rfl ?_
            refine WE_ia dX11_wants_63 (ly_is hy 25 13 rfl) (ly_n hy 25 28 rfl) (by omega) (by omega) (fun v4276 ev4276 => ?_)
            refine WP_goto 74 dX11_wants_64 rfl ?_
            exact WP_iret dX11_wants_74 rfl ⟨⟨rfl, rfl, rfl⟩, v4276, rfl, by
              unfold wantS
              rw [if_pos (by omega), show 7 + w.toInt.toNat = 8 by omega, row_y (by omega)]
              rw [← ev4276, show v4271.toInt.toNat = (s.toInt * 7 + d.toInt).toNat by omega]
              exact hS.2.2.1 (25, 8, 7) (by decide) ((s.toInt * 7 + d.toInt).toNat) (by show (((s.toInt * 7 + d.toInt).toNat : Nat) : Int) < ((7 : Nat) : Int) * S.1 0 1; omega)⟩
        · refine WP_aload_n dX11_wants_42 rfl ?_
          refine WP_getr dX11_wants_43 fX11_261 rfl (ly_is hy 0 11 rfl) (rf hr 0 42 24 (by decide)) ?_
          refine WP_iload dX11_wants_46 rfl ?_
          refine WE_ia dX11_wants_48 (ly_is hy 24 13 rfl) (ly_n hy 24 28 rfl) (by omega) (by omega) (fun v4277 ev4277 => ?_)
          refine WP_goto 74 dX11_wants_49 rfl ?_
          exact WP_iret dX11_wants_74 rfl ⟨⟨rfl, rfl, rfl⟩, v4277, rfl, by
            unfold wantS
            rw [if_pos (by omega), show 7 + w.toInt.toNat = 7 by omega, row_y (by omega)]
            rw [← ev4277, show v4271.toInt.toNat = (s.toInt * 7 + d.toInt).toNat by omega]
            exact hS.2.2.1 (24, 7, 7) (by decide) ((s.toInt * 7 + d.toInt).toNat) (by show (((s.toInt * 7 + d.toInt).toNat : Nat) : Int) < ((7 : Nat) : Int) * S.1 0 1; omega)⟩
      · refine WQ_bipush (-2) (-2) dX11_wants_27 rfl rfl (fun v4278 hv4278 => ?_)
        exact WP_iret dX11_wants_29 rfl ⟨⟨rfl, rfl, rfl⟩, v4278, rfl, by
          unfold wantS
          split
          · rw [row_n (by omega)]; omega
          · omega⟩
theorem am_wants {g : GG} {I : pI} {J : pJ} {R : pR} (hy : Ly g) (hr : Rf g R) {S : TwS} (s d w : Int32) (hS : RTT g S I J) (hB : SBn S) : SP g mX11_wants [.ref (ad g 0), .int s, .int d, .int w] I J R (fun r _ _ _ => ∃ v : Int32, r = some (.int v) ∧ v.toInt = wantS S s.toInt d.toInt w.toInt) := SP_wk (em_wants hy hr s d w hS hB) (fun r I9 J9 R9 q => q.2)
