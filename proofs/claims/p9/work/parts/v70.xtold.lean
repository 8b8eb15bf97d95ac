/-! WHAT IS TOLD OF A TOWN: the answers -/
section Rules
variable {g : GG} {d : MD} {pc : Nat} {ls : List (Nat × Value)} {st : List Value} {I : pI} {J : pJ} {R : pR} {Q : Post}
end Rules
def rowS (S : TwS) (c : Nat) (m s d : Int) : Int := if 0 ≤ s ∧ s < m ∧ 0 ≤ d ∧ d < 7 then S.1 c (s * 7 + d).toNat else -2
theorem row_y {S : TwS} {c : Nat} {m s d : Int} (h : 0 ≤ s ∧ s < m ∧ 0 ≤ d ∧ d < 7) : rowS S c m s d = S.1 c (s * 7 + d).toNat := if_pos h
theorem row_n {S : TwS} {c : Nat} {m s d : Int} (h : ¬ (0 ≤ s ∧ s < m ∧ 0 ≤ d ∧ d < 7)) : rowS S c m s d = -2 := if_neg h
set_option maxHeartbeats 4000000 in
set_option maxRecDepth 100000 in
theorem ex_isDay {g : GG} {I : pI} {J : pJ} {R : pR} (hy : LyX g) (hr : RfX g R)  (d : Int32)  : SP g mX10_isDay [.int d] I J R (fun r I' J' R' => (I' = I ∧ J' = J ∧ R' = R) ∧ ∃ v : Int32, r = some (.int v) ∧ ((v.toInt = 1 ∧ 0 ≤ d.toInt ∧ d.toInt < 7) ∨ (v.toInt = 0 ∧ ¬ (0 ≤ d.toInt ∧ d.toInt < 7)))) := by
  refine SP_of ⟨by decide, rfl⟩ (Nat.le_of_ble_eq_true rfl) ?_
  refine WP_iload_n dX10_isDay_0 rfl ?_
  refine WQ_if_lt 14 dX10_isDay_1 rfl (fun c3292 => ?_) (fun c3292 => ?_)
  · refine WQ_iconst (0) (0) dX10_isDay_14 rfl rfl (fun v3294 hv3294 => ?_)
    exact WP_zret dX10_isDay_15 rfl (nar_z (by omega)) ⟨⟨rfl, rfl, rfl⟩, v3294, rfl, by
      first
      | exact Or.inl ⟨by omega, by omega, by omega⟩
      | exact Or.inr ⟨by omega, by omega⟩⟩
  · refine WP_iload_n dX10_isDay_4 rfl ?_
    refine WQ_bipush (7) (7) dX10_isDay_5 rfl rfl (fun v3295 hv3295 => ?_)
    refine WQ_icmp_ge 14 dX10_isDay_7 rfl (fun c3295 => ?_) (fun c3295 => ?_)
    · refine WQ_iconst (0) (0) dX10_isDay_14 rfl rfl (fun v3297 hv3297 => ?_)
      exact WP_zret dX10_isDay_15 rfl (nar_z (by omega)) ⟨⟨rfl, rfl, rfl⟩, v3297, rfl, by
        first
        | exact Or.inl ⟨by omega, by omega, by omega⟩
        | exact Or.inr ⟨by omega, by omega⟩⟩
    · refine WQ_iconst (1) (1) dX10_isDay_10 rfl rfl (fun v3298 hv3298 => ?_)
      refine WP_goto 15 dX10_isDay_11 rfl ?_
      exact WP_zret dX10_isDay_15 rfl (nar_z (by omega)) ⟨⟨rfl, rfl, rfl⟩, v3298, rfl, by
        first
        | exact Or.inl ⟨by omega, by omega, by omega⟩
        | exact Or.inr ⟨by omega, by omega⟩⟩
set_option maxHeartbeats 4000000 in
set_option maxRecDepth 100000 in
theorem ex_isSorta {g : GG} {I : pI} {J : pJ} {R : pR} (hy : LyX g) (hr : RfX g R) {S : TwS} (s : Int32) (hT : R (ad g 5) 0 = some (ad g 6)) (hS : RTW g 6 S I J) (hB : SBn S) : SP g mX10_isSort [.ref (ad g 0), .int s] I J R (fun r I' J' R' => (I' = I ∧ J' = J ∧ R' = R) ∧ ∃ v : Int32, r = some (.int v) ∧ ((v.toInt = 1 ∧ 0 ≤ s.toInt ∧ s.toInt < S.1 0 1) ∨ (v.toInt = 0 ∧ ¬ (0 ≤ s.toInt ∧ s.toInt < S.1 0 1)))) := by
  refine SP_of ⟨by decide, rfl⟩ (Nat.le_of_ble_eq_true rfl) ?_
  have hB2 := hB
  unfold SBn at hB2
  obtain ⟨z0, z1, z2, z3, z4⟩ := hS.1
  obtain ⟨w3299, ew3299⟩ : ∃ w : Int32, I (ad g 6) 1 = w := ⟨_, rfl⟩
  try simp only [ew3299] at z1
  refine WP_iload_n dX10_isSort_0 rfl ?_
  refine WQ_if_lt 22 dX10_isSort_1 rfl (fun c3299 => ?_) (fun c3299 => ?_)
  · refine WQ_iconst (0) (0) dX10_isSort_22 rfl rfl (fun v3301 hv3301 => ?_)
    exact WP_zret dX10_isSort_23 rfl (nar_z (by omega)) ⟨⟨rfl, rfl, rfl⟩, v3301, rfl, by
      try simp only [ew3299]
      first
      | exact Or.inl ⟨by omega, by omega, by omega⟩
      | exact Or.inr ⟨by omega, by omega⟩⟩
  · refine WP_iload_n dX10_isSort_4 rfl ?_
    refine WP_aload_n dX10_isSort_5 rfl ?_
    refine WP_getr dX10_isSort_6 fX10_33 rfl (lyx_is hy 0 10 rfl) (rfx hr 0 2 5 (by decide)) ?_
    refine WP_getr dX10_isSort_9 fX10_102 rfl (lyx_is hy 5 0 rfl) hT ?_
    refine WQ_getim dX10_isSort_12 fX10_114 rfl (lyx_is hy 6 7 rfl) ew3299 ?_
    refine WQ_icmp_ge 22 dX10_isSort_15 rfl (fun c3301 => ?_) (fun c3301 => ?_)
    · refine WQ_iconst (0) (0) dX10_isSort_22 rfl rfl (fun v3303 hv3303 => ?_)
      exact WP_zret dX10_isSort_23 rfl (nar_z (by omega)) ⟨⟨rfl, rfl, rfl⟩, v3303, rfl, by
        try simp only [ew3299]
        first
        | exact Or.inl ⟨by omega, by omega, by omega⟩
        | exact Or.inr ⟨by omega, by omega⟩⟩
    · refine WQ_iconst (1) (1) dX10_isSort_18 rfl rfl (fun v3304 hv3304 => ?_)
      refine WP_goto 23 dX10_isSort_19 rfl ?_
      exact WP_zret dX10_isSort_23 rfl (nar_z (by omega)) ⟨⟨rfl, rfl, rfl⟩, v3304, rfl, by
        try simp only [ew3299]
        first
        | exact Or.inl ⟨by omega, by omega, by omega⟩
        | exact Or.inr ⟨by omega, by omega⟩⟩
set_option maxHeartbeats 4000000 in
set_option maxRecDepth 100000 in
theorem ex_isThinga {g : GG} {I : pI} {J : pJ} {R : pR} (hy : LyX g) (hr : RfX g R) {S : TwS} (s : Int32) (hT : R (ad g 5) 0 = some (ad g 6)) (hS : RTW g 6 S I J) (hB : SBn S) : SP g mX10_isThing [.ref (ad g 0), .int s] I J R (fun r I' J' R' => (I' = I ∧ J' = J ∧ R' = R) ∧ ∃ v : Int32, r = some (.int v) ∧ ((v.toInt = 1 ∧ 0 ≤ s.toInt ∧ s.toInt < S.1 0 2) ∨ (v.toInt = 0 ∧ ¬ (0 ≤ s.toInt ∧ s.toInt < S.1 0 2)))) := by
  refine SP_of ⟨by decide, rfl⟩ (Nat.le_of_ble_eq_true rfl) ?_
  have hB2 := hB
  unfold SBn at hB2
  obtain ⟨z0, z1, z2, z3, z4⟩ := hS.1
  obtain ⟨w3305, ew3305⟩ : ∃ w : Int32, I (ad g 6) 2 = w := ⟨_, rfl⟩
  try simp only [ew3305] at z2
  refine WP_iload_n dX10_isThing_0 rfl ?_
  refine WQ_if_lt 22 dX10_isThing_1 rfl (fun c3305 => ?_) (fun c3305 => ?_)
  · refine WQ_iconst (0) (0) dX10_isThing_22 rfl rfl (fun v3307 hv3307 => ?_)
    exact WP_zret dX10_isThing_23 rfl (nar_z (by omega)) ⟨⟨rfl, rfl, rfl⟩, v3307, rfl, by
      try simp only [ew3305]
      first
      | exact Or.inl ⟨by omega, by omega, by omega⟩
      | exact Or.inr ⟨by omega, by omega⟩⟩
  · refine WP_iload_n dX10_isThing_4 rfl ?_
    refine WP_aload_n dX10_isThing_5 rfl ?_
    refine WP_getr dX10_isThing_6 fX10_33 rfl (lyx_is hy 0 10 rfl) (rfx hr 0 2 5 (by decide)) ?_
    refine WP_getr dX10_isThing_9 fX10_102 rfl (lyx_is hy 5 0 rfl) hT ?_
    refine WQ_getim dX10_isThing_12 fX10_117 rfl (lyx_is hy 6 7 rfl) ew3305 ?_
    refine WQ_icmp_ge 22 dX10_isThing_15 rfl (fun c3307 => ?_) (fun c3307 => ?_)
    · refine WQ_iconst (0) (0) dX10_isThing_22 rfl rfl (fun v3309 hv3309 => ?_)
      exact WP_zret dX10_isThing_23 rfl (nar_z (by omega)) ⟨⟨rfl, rfl, rfl⟩, v3309, rfl, by
        try simp only [ew3305]
        first
        | exact Or.inl ⟨by omega, by omega, by omega⟩
        | exact Or.inr ⟨by omega, by omega⟩⟩
    · refine WQ_iconst (1) (1) dX10_isThing_18 rfl rfl (fun v3310 hv3310 => ?_)
      refine WP_goto 23 dX10_isThing_19 rfl ?_
      exact WP_zret dX10_isThing_23 rfl (nar_z (by omega)) ⟨⟨rfl, rfl, rfl⟩, v3310, rfl, by
        try simp only [ew3305]
        first
        | exact Or.inl ⟨by omega, by omega, by omega⟩
        | exact Or.inr ⟨by omega, by omega⟩⟩
set_option maxHeartbeats 4000000 in
set_option maxRecDepth 100000 in
theorem ex_madea {g : GG} {I : pI} {J : pJ} {R : pR} (hy : LyX g) (hr : RfX g R) {S : TwS} (s : Int32) (d : Int32) (hT : R (ad g 5) 0 = some (ad g 6)) (hS : RTW g 6 S I J) (hB : SBn S) : SP g mX10_made [.ref (ad g 0), .int s, .int d] I J R (fun r I' J' R' => (I' = I ∧ J' = J ∧ R' = R) ∧ ∃ v : Int32, r = some (.int v) ∧ (v.toInt = rowS S 13 (S.1 0 2) s.toInt d.toInt)) := by
  refine SP_of ⟨by decide, rfl⟩ (Nat.le_of_ble_eq_true rfl) ?_
  have hB2 := hB
  unfold SBn at hB2
  obtain ⟨z0, z1, z2, z3, z4⟩ := hS.1
  refine WP_aload_n dX10_made_0 rfl ?_
  refine WP_iload_n dX10_made_1 rfl ?_
  refine WP_callV1 (k := 10) dX10_made_2 ⟨⟨⟨by decide, by decide⟩, zX10_isThing⟩, lX10_162, by decide, rfl, vX10_isThing.1, vX10_isThing.2⟩ (lyx_is hy 0 10 rfl) (ex_isThinga hy hr _  hT hS hB) (Nat.le_of_ble_eq_true rfl) ?_
  intro r Ia Ja Ra hq
  obtain ⟨⟨ea, eb, ec⟩, v3367, er, p3366⟩ := hq
  rw [ea, eb, ec, er]
  clear ea eb ec er Ia Ja Ra r
  refine WQ_if_eq 35 dX10_made_5 rfl (fun c3367 => ?_) (fun c3367 => ?_)
  · refine WQ_bipush (-2) (-2) dX10_made_35 rfl rfl (fun v3369 hv3369 => ?_)
    exact WP_iret dX10_made_37 rfl ⟨⟨rfl, rfl, rfl⟩, v3369, rfl, by
      rw [row_n (by omega)]
      omega⟩
  · refine WP_iload_n dX10_made_8 rfl ?_
    refine WP_callS1 dX10_made_9 ⟨⟨⟨by decide, by decide⟩, zX10_isDay⟩, lX10_156, tX10_isDay⟩ (ex_isDay hy hr _  ) (Nat.le_of_ble_eq_true rfl) ?_
    intro r Ia Ja Ra hq
    obtain ⟨⟨ea, eb, ec⟩, v3371, er, p3370⟩ := hq
    rw [ea, eb, ec, er]
    clear ea eb ec er Ia Ja Ra r
    refine WQ_if_eq 35 dX10_made_12 rfl (fun c3371 => ?_) (fun c3371 => ?_)
    · refine WQ_bipush (-2) (-2) dX10_made_35 rfl rfl (fun v3373 hv3373 => ?_)
      exact WP_iret dX10_made_37 rfl ⟨⟨rfl, rfl, rfl⟩, v3373, rfl, by
        rw [row_n (by omega)]
        omega⟩
    · refine WP_aload_n dX10_made_15 rfl ?_
      refine WP_getr dX10_made_16 fX10_33 rfl (lyx_is hy 0 10 rfl) (rfx hr 0 2 5 (by decide)) ?_
      refine WP_getr dX10_made_19 fX10_102 rfl (lyx_is hy 5 0 rfl) hT ?_
      refine WP_getr dX10_made_22 fX10_168 rfl (lyx_is hy 6 7 rfl) (rfx hr 6 17 19 (by decide)) ?_
      refine WP_iload_n dX10_made_25 rfl ?_
      refine WQ_bipush (7) (7) dX10_made_26 rfl rfl (fun v3374 hv3374 => ?_)
      refine WQ_imulk (7) dX10_made_28 hv3374 (by omega) (by omega) (fun v3375 hv3375 => ?_)
      refine WP_iload_n dX10_made_29 rfl ?_
      refine WQ_iadd dX10_made_30 (by omega) (by omega) (fun v3376 hv3376 => ?_)
      refine WE_ia dX10_made_31 (lyx_is hy 19 13 rfl) (lyx_n hy 19 21 rfl) (by omega) (by omega) (fun v3377 ev3377 => ?_)
      refine WP_goto 37 dX10_made_32 rfl ?_
      exact WP_iret dX10_made_37 rfl ⟨⟨rfl, rfl, rfl⟩, v3377, rfl, by
        rw [row_y (by omega)]
        rw [← ev3377, show v3376.toInt.toNat = (s.toInt * 7 + d.toInt).toNat by omega]
        exact hS.2.2.2.1 (13, 7) (by decide) ((s.toInt * 7 + d.toInt).toNat) (by show (((s.toInt * 7 + d.toInt).toNat : Nat) : Int) < ((7 : Nat) : Int) * S.1 0 2; omega)⟩
theorem ax_madea {g : GG} {I : pI} {J : pJ} {R : pR} (hy : LyX g) (hr : RfX g R) {S : TwS} (s d : Int32) (hT : R (ad g 5) 0 = some (ad g 6)) (hS : RTW g 6 S I J) (hB : SBn S) : SP g mX10_made [.ref (ad g 0), .int s, .int d] I J R (fun r _ _ _ => ∃ v : Int32, r = some (.int v) ∧ v.toInt = rowS S 13 (S.1 0 2) s.toInt d.toInt) := SP_wk (ex_madea hy hr s d hT hS hB) (fun r I9 J9 R9 q => q.2)
set_option maxHeartbeats 4000000 in
set_option maxRecDepth 100000 in
theorem ex_isSortb {g : GG} {I : pI} {J : pJ} {R : pR} (hy : LyX g) (hr : RfX g R) {S : TwS} (s : Int32) (hT : R (ad g 5) 0 = some (ad g 27)) (hS : RTW g 27 S I J) (hB : SBn S) : SP g mX10_isSort [.ref (ad g 0), .int s] I J R (fun r I' J' R' => (I' = I ∧ J' = J ∧ R' = R) ∧ ∃ v : Int32, r = some (.int v) ∧ ((v.toInt = 1 ∧ 0 ≤ s.toInt ∧ s.toInt < S.1 0 1) ∨ (v.toInt = 0 ∧ ¬ (0 ≤ s.toInt ∧ s.toInt < S.1 0 1)))) := by
  refine SP_of ⟨by decide, rfl⟩ (Nat.le_of_ble_eq_true rfl) ?_
  have hB2 := hB
  unfold SBn at hB2
  obtain ⟨z0, z1, z2, z3, z4⟩ := hS.1
  obtain ⟨w3400, ew3400⟩ : ∃ w : Int32, I (ad g 27) 1 = w := ⟨_, rfl⟩
  try simp only [ew3400] at z1
  refine WP_iload_n dX10_isSort_0 rfl ?_
  refine WQ_if_lt 22 dX10_isSort_1 rfl (fun c3400 => ?_) (fun c3400 => ?_)
  · refine WQ_iconst (0) (0) dX10_isSort_22 rfl rfl (fun v3402 hv3402 => ?_)
    exact WP_zret dX10_isSort_23 rfl (nar_z (by omega)) ⟨⟨rfl, rfl, rfl⟩, v3402, rfl, by
      try simp only [ew3400]
      first
      | exact Or.inl ⟨by omega, by omega, by omega⟩
      | exact Or.inr ⟨by omega, by omega⟩⟩
  · refine WP_iload_n dX10_isSort_4 rfl ?_
    refine WP_aload_n dX10_isSort_5 rfl ?_
    refine WP_getr dX10_isSort_6 fX10_33 rfl (lyx_is hy 0 10 rfl) (rfx hr 0 2 5 (by decide)) ?_
    refine WP_getr dX10_isSort_9 fX10_102 rfl (lyx_is hy 5 0 rfl) hT ?_
    refine WQ_getim dX10_isSort_12 fX10_114 rfl (lyx_is hy 27 7 rfl) ew3400 ?_
    refine WQ_icmp_ge 22 dX10_isSort_15 rfl (fun c3402 => ?_) (fun c3402 => ?_)
    · refine WQ_iconst (0) (0) dX10_isSort_22 rfl rfl (fun v3404 hv3404 => ?_)
      exact WP_zret dX10_isSort_23 rfl (nar_z (by omega)) ⟨⟨rfl, rfl, rfl⟩, v3404, rfl, by
        try simp only [ew3400]
        first
        | exact Or.inl ⟨by omega, by omega, by omega⟩
        | exact Or.inr ⟨by omega, by omega⟩⟩
    · refine WQ_iconst (1) (1) dX10_isSort_18 rfl rfl (fun v3405 hv3405 => ?_)
      refine WP_goto 23 dX10_isSort_19 rfl ?_
      exact WP_zret dX10_isSort_23 rfl (nar_z (by omega)) ⟨⟨rfl, rfl, rfl⟩, v3405, rfl, by
        try simp only [ew3400]
        first
        | exact Or.inl ⟨by omega, by omega, by omega⟩
        | exact Or.inr ⟨by omega, by omega⟩⟩
set_option maxHeartbeats 4000000 in
set_option maxRecDepth 100000 in
theorem ex_isThingb {g : GG} {I : pI} {J : pJ} {R : pR} (hy : LyX g) (hr : RfX g R) {S : TwS} (s : Int32) (hT : R (ad g 5) 0 = some (ad g 27)) (hS : RTW g 27 S I J) (hB : SBn S) : SP g mX10_isThing [.ref (ad g 0), .int s] I J R (fun r I' J' R' => (I' = I ∧ J' = J ∧ R' = R) ∧ ∃ v : Int32, r = some (.int v) ∧ ((v.toInt = 1 ∧ 0 ≤ s.toInt ∧ s.toInt < S.1 0 2) ∨ (v.toInt = 0 ∧ ¬ (0 ≤ s.toInt ∧ s.toInt < S.1 0 2)))) := by
  refine SP_of ⟨by decide, rfl⟩ (Nat.le_of_ble_eq_true rfl) ?_
  have hB2 := hB
  unfold SBn at hB2
  obtain ⟨z0, z1, z2, z3, z4⟩ := hS.1
  obtain ⟨w3406, ew3406⟩ : ∃ w : Int32, I (ad g 27) 2 = w := ⟨_, rfl⟩
  try simp only [ew3406] at z2
  refine WP_iload_n dX10_isThing_0 rfl ?_
  refine WQ_if_lt 22 dX10_isThing_1 rfl (fun c3406 => ?_) (fun c3406 => ?_)
  · refine WQ_iconst (0) (0) dX10_isThing_22 rfl rfl (fun v3408 hv3408 => ?_)
    exact WP_zret dX10_isThing_23 rfl (nar_z (by omega)) ⟨⟨rfl, rfl, rfl⟩, v3408, rfl, by
      try simp only [ew3406]
      first
      | exact Or.inl ⟨by omega, by omega, by omega⟩
      | exact Or.inr ⟨by omega, by omega⟩⟩
  · refine WP_iload_n dX10_isThing_4 rfl ?_
    refine WP_aload_n dX10_isThing_5 rfl ?_
    refine WP_getr dX10_isThing_6 fX10_33 rfl (lyx_is hy 0 10 rfl) (rfx hr 0 2 5 (by decide)) ?_
    refine WP_getr dX10_isThing_9 fX10_102 rfl (lyx_is hy 5 0 rfl) hT ?_
    refine WQ_getim dX10_isThing_12 fX10_117 rfl (lyx_is hy 27 7 rfl) ew3406 ?_
    refine WQ_icmp_ge 22 dX10_isThing_15 rfl (fun c3408 => ?_) (fun c3408 => ?_)
    · refine WQ_iconst (0) (0) dX10_isThing_22 rfl rfl (fun v3410 hv3410 => ?_)
      exact WP_zret dX10_isThing_23 rfl (nar_z (by omega)) ⟨⟨rfl, rfl, rfl⟩, v3410, rfl, by
        try simp only [ew3406]
        first
        | exact Or.inl ⟨by omega, by omega, by omega⟩
        | exact Or.inr ⟨by omega, by omega⟩⟩
    · refine WQ_iconst (1) (1) dX10_isThing_18 rfl rfl (fun v3411 hv3411 => ?_)
      refine WP_goto 23 dX10_isThing_19 rfl ?_
      exact WP_zret dX10_isThing_23 rfl (nar_z (by omega)) ⟨⟨rfl, rfl, rfl⟩, v3411, rfl, by
        try simp only [ew3406]
        first
        | exact Or.inl ⟨by omega, by omega, by omega⟩
        | exact Or.inr ⟨by omega, by omega⟩⟩
set_option maxHeartbeats 4000000 in
set_option maxRecDepth 100000 in
theorem ex_madeb {g : GG} {I : pI} {J : pJ} {R : pR} (hy : LyX g) (hr : RfX g R) {S : TwS} (s : Int32) (d : Int32) (hT : R (ad g 5) 0 = some (ad g 27)) (hS : RTW g 27 S I J) (hB : SBn S) : SP g mX10_made [.ref (ad g 0), .int s, .int d] I J R (fun r I' J' R' => (I' = I ∧ J' = J ∧ R' = R) ∧ ∃ v : Int32, r = some (.int v) ∧ (v.toInt = rowS S 13 (S.1 0 2) s.toInt d.toInt)) := by
  refine SP_of ⟨by decide, rfl⟩ (Nat.le_of_ble_eq_true rfl) ?_
  have hB2 := hB
  unfold SBn at hB2
  obtain ⟨z0, z1, z2, z3, z4⟩ := hS.1
  refine WP_aload_n dX10_made_0 rfl ?_
  refine WP_iload_n dX10_made_1 rfl ?_
  refine WP_callV1 (k := 10) dX10_made_2 ⟨⟨⟨by decide, by decide⟩, zX10_isThing⟩, lX10_162, by decide, rfl, vX10_isThing.1, vX10_isThing.2⟩ (lyx_is hy 0 10 rfl) (ex_isThingb hy hr _  hT hS hB) (Nat.le_of_ble_eq_true rfl) ?_
  intro r Ia Ja Ra hq
  obtain ⟨⟨ea, eb, ec⟩, v3468, er, p3467⟩ := hq
  rw [ea, eb, ec, er]
  clear ea eb ec er Ia Ja Ra r
  refine WQ_if_eq 35 dX10_made_5 rfl (fun c3468 => ?_) (fun c3468 => ?_)
  · refine WQ_bipush (-2) (-2) dX10_made_35 rfl rfl (fun v3470 hv3470 => ?_)
    exact WP_iret dX10_made_37 rfl ⟨⟨rfl, rfl, rfl⟩, v3470, rfl, by
      rw [row_n (by omega)]
      omega⟩
  · refine WP_iload_n dX10_made_8 rfl ?_
    refine WP_callS1 dX10_made_9 ⟨⟨⟨by decide, by decide⟩, zX10_isDay⟩, lX10_156, tX10_isDay⟩ (ex_isDay hy hr _  ) (Nat.le_of_ble_eq_true rfl) ?_
    intro r Ia Ja Ra hq
    obtain ⟨⟨ea, eb, ec⟩, v3472, er, p3471⟩ := hq
    rw [ea, eb, ec, er]
    clear ea eb ec er Ia Ja Ra r
    refine WQ_if_eq 35 dX10_made_12 rfl (fun c3472 => ?_) (fun c3472 => ?_)
    · refine WQ_bipush (-2) (-2) dX10_made_35 rfl rfl (fun v3474 hv3474 => ?_)
      exact WP_iret dX10_made_37 rfl ⟨⟨rfl, rfl, rfl⟩, v3474, rfl, by
        rw [row_n (by omega)]
        omega⟩
    · refine WP_aload_n dX10_made_15 rfl ?_
      refine WP_getr dX10_made_16 fX10_33 rfl (lyx_is hy 0 10 rfl) (rfx hr 0 2 5 (by decide)) ?_
      refine WP_getr dX10_made_19 fX10_102 rfl (lyx_is hy 5 0 rfl) hT ?_
      refine WP_getr dX10_made_22 fX10_168 rfl (lyx_is hy 27 7 rfl) (rfx hr 27 17 40 (by decide)) ?_
      refine WP_iload_n dX10_made_25 rfl ?_
      refine WQ_bipush (7) (7) dX10_made_26 rfl rfl (fun v3475 hv3475 => ?_)
      refine WQ_imulk (7) dX10_made_28 hv3475 (by omega) (by omega) (fun v3476 hv3476 => ?_)
      refine WP_iload_n dX10_made_29 rfl ?_
      refine WQ_iadd dX10_made_30 (by omega) (by omega) (fun v3477 hv3477 => ?_)
      refine WE_ia dX10_made_31 (lyx_is hy 40 13 rfl) (lyx_n hy 40 21 rfl) (by omega) (by omega) (fun v3478 ev3478 => ?_)
      refine WP_goto 37 dX10_made_32 rfl ?_
      exact WP_iret dX10_made_37 rfl ⟨⟨rfl, rfl, rfl⟩, v3478, rfl, by
        rw [row_y (by omega)]
        rw [← ev3478, show v3477.toInt.toNat = (s.toInt * 7 + d.toInt).toNat by omega]
        exact hS.2.2.2.1 (13, 7) (by decide) ((s.toInt * 7 + d.toInt).toNat) (by show (((s.toInt * 7 + d.toInt).toNat : Nat) : Int) < ((7 : Nat) : Int) * S.1 0 2; omega)⟩
theorem ax_madeb {g : GG} {I : pI} {J : pJ} {R : pR} (hy : LyX g) (hr : RfX g R) {S : TwS} (s d : Int32) (hT : R (ad g 5) 0 = some (ad g 27)) (hS : RTW g 27 S I J) (hB : SBn S) : SP g mX10_made [.ref (ad g 0), .int s, .int d] I J R (fun r _ _ _ => ∃ v : Int32, r = some (.int v) ∧ v.toInt = rowS S 13 (S.1 0 2) s.toInt d.toInt) := SP_wk (ex_madeb hy hr s d hT hS hB) (fun r I9 J9 R9 q => q.2)
