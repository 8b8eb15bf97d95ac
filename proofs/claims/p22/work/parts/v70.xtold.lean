/-! WHAT IS TOLD OF A TOWN: the answers -/
section Rules
variable {g : GG} {d : MD} {pc : Nat} {ls : List (Nat × Value)} {st : List Value} {I : pI} {J : pJ} {R : pR} {Q : Post}
end Rules
set_option maxHeartbeats 4000000 in
set_option maxRecDepth 100000 in
theorem ex_isSorta {g : GG} {I : pI} {J : pJ} {R : pR} (hy : LyX g) (hr : RfX g R) {S : TwS} (s : Int32) (hT : R (ad g 5) 0 = some (ad g 6)) (hS : RTW g 6 S I J) (hB : SBn S) : SP g mX10_isSort [.ref (ad g 0), .int s] I J R (fun r I' J' R' => (I' = I ∧ J' = J ∧ R' = R) ∧ ∃ v : Int32, r = some (.int v) ∧ ((v.toInt = 1 ∧ 0 ≤ s.toInt ∧ s.toInt < S.1 0 1) ∨ (v.toInt = 0 ∧ ¬ (0 ≤ s.toInt ∧ s.toInt < S.1 0 1)))) := by
  refine SP_of ⟨by decide, rfl⟩ (Nat.le_of_ble_eq_true rfl) ?_
  have hB2 := hB
  unfold SBn at hB2
  obtain ⟨z0, z1, z2, z3, z4⟩ := hS.1
  obtain ⟨w3299, ew3299⟩ : ∃ w : Int32, I (ad g 6) 1 = w := ⟨_, rfl⟩
  try simp only [ew3299] at z1
  refine WP_iload_n dX10_isSort_0 rfl ?_
  refine WQ_if_lt 22 dX10_isSort_1 rfl (fun c3299 => ?_) (fun c3299 => ?_)
  · refine WQ_iconst (0) (0) dX10_isSort_22 rfl rfl (fun v3301 hv3301 => ?_)
    exact WP_zret dX10_isSort_23 rfl (nar_z (by omega)) ⟨⟨rfl, rfl, rfl⟩, v3301, rfl, by
      try simp only [ew3299]
      first
      | exact Or.inl ⟨by omega, by omega, by omega⟩
      | exact Or.inr ⟨by omega, by omega⟩⟩
  · refine WP_iload_n dX10_isSort_4 rfl ?_
    refine WP_aload_n dX10_isSort_5 rfl ?_
    refine WP_getr dX10_isSort_6 fX10_33 rfl (lyx_is hy 0 10 rfl) (rfx hr 0 2 5 (by decide)) ?_
    refine WP_getr dX10_isSort_9 fX10_102 rfl (lyx_is hy 5 0 rfl) hT ?_
    refine WQ_getim dX10_isSort_12 fX10_114 rfl (lyx_is hy 6 7 rfl) ew3299 ?_
    refine WQ_icmp_ge 22 dX10_isSort_15 rfl (fun c3301 => ?_) (fun c3301 => ?_)
    · refine WQ_iconst (0) (0) dX10_isSort_22 rfl rfl (fun v3303 hv3303 => ?_)
      exact WP_zret dX10_isSort_23 rfl (nar_z (by omega)) ⟨⟨rfl, rfl, rfl⟩, v3303, rfl, by
        try simp only [ew3299]
        first
        | exact Or.inl ⟨by omega, by omega, by omega⟩
        | exact Or.inr ⟨by omega, by omega⟩⟩
    · refine WQ_iconst (1) (1) dX10_isSort_18 rfl rfl (fun v3304 hv3304 => ?_)
      refine WP_goto 23 dX10_isSort_19 rfl ?_
      exact WP_zret dX10_isSort_23 rfl (nar_z (by omega)) ⟨⟨rfl, rfl, rfl⟩, v3304, rfl, by
        try simp only [ew3299]
        first
        | exact Or.inl ⟨by omega, by omega, by omega⟩
        | exact Or.inr ⟨by omega, by omega⟩⟩
set_option maxHeartbeats 4000000 in
set_option maxRecDepth 100000 in
theorem ex_isSortb {g : GG} {I : pI} {J : pJ} {R : pR} (hy : LyX g) (hr : RfX g R) {S : TwS} (s : Int32) (hT : R (ad g 5) 0 = some (ad g 27)) (hS : RTW g 27 S I J) (hB : SBn S) : SP g mX10_isSort [.ref (ad g 0), .int s] I J R (fun r I' J' R' => (I' = I ∧ J' = J ∧ R' = R) ∧ ∃ v : Int32, r = some (.int v) ∧ ((v.toInt = 1 ∧ 0 ≤ s.toInt ∧ s.toInt < S.1 0 1) ∨ (v.toInt = 0 ∧ ¬ (0 ≤ s.toInt ∧ s.toInt < S.1 0 1)))) := by
  refine SP_of ⟨by decide, rfl⟩ (Nat.le_of_ble_eq_true rfl) ?_
  have hB2 := hB
  unfold SBn at hB2
  obtain ⟨z0, z1, z2, z3, z4⟩ := hS.1
  obtain ⟨w3400, ew3400⟩ : ∃ w : Int32, I (ad g 27) 1 = w := ⟨_, rfl⟩
  try simp only [ew3400] at z1
  refine WP_iload_n dX10_isSort_0 rfl ?_
  refine WQ_if_lt 22 dX10_isSort_1 rfl (fun c3400 => ?_) (fun c3400 => ?_)
  · refine WQ_iconst (0) (0) dX10_isSort_22 rfl rfl (fun v3402 hv3402 => ?_)
    exact WP_zret dX10_isSort_23 rfl (nar_z (by omega)) ⟨⟨rfl, rfl, rfl⟩, v3402, rfl, by
      try simp only [ew3400]
      first
      | exact Or.inl ⟨by omega, by omega, by omega⟩
      | exact Or.inr ⟨by omega, by omega⟩⟩
  · refine WP_iload_n dX10_isSort_4 rfl ?_
    refine WP_aload_n dX10_isSort_5 rfl ?_
    refine WP_getr dX10_isSort_6 fX10_33 rfl (lyx_is hy 0 10 rfl) (rfx hr 0 2 5 (by decide)) ?_
    refine WP_getr dX10_isSort_9 fX10_102 rfl (lyx_is hy 5 0 rfl) hT ?_
    refine WQ_getim dX10_isSort_12 fX10_114 rfl (lyx_is hy 27 7 rfl) ew3400 ?_
    refine WQ_icmp_ge 22 dX10_isSort_15 rfl (fun c3402 => ?_) (fun c3402 => ?_)
    · refine WQ_iconst (0) (0) dX10_isSort_22 rfl rfl (fun v3404 hv3404 => ?_)
      exact WP_zret dX10_isSort_23 rfl (nar_z (by omega)) ⟨⟨rfl, rfl, rfl⟩, v3404, rfl, by
        try simp only [ew3400]
        first
        | exact Or.inl ⟨by omega, by omega, by omega⟩
        | exact Or.inr ⟨by omega, by omega⟩⟩
    · refine WQ_iconst (1) (1) dX10_isSort_18 rfl rfl (fun v3405 hv3405 => ?_)
      refine WP_goto 23 dX10_isSort_19 rfl ?_
      exact WP_zret dX10_isSort_23 rfl (nar_z (by omega)) ⟨⟨rfl, rfl, rfl⟩, v3405, rfl, by
        try simp only [ew3400]
        first
        | exact Or.inl ⟨by omega, by omega, by omega⟩
        | exact Or.inr ⟨by omega, by omega⟩⟩
