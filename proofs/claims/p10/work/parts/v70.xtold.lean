/-! WHAT IS TOLD OF A TOWN: the answers -/
section Rules
variable {g : GG} {d : MD} {pc : Nat} {ls : List (Nat × Value)} {st : List Value} {I : pI} {J : pJ} {R : pR} {Q : Post}
end Rules
def rowS (S : TwS) (c : Nat) (m s d : Int) : Int := if 0 ≤ s ∧ s < m ∧ 0 ≤ d ∧ d < 7 then S.1 c (s * 7 + d).toNat else -2
theorem row_y {S : TwS} {c : Nat} {m s d : Int} (h : 0 ≤ s ∧ s < m ∧ 0 ≤ d ∧ d < 7) : rowS S c m s d = S.1 c (s * 7 + d).toNat := if_pos h
theorem row_n {S : TwS} {c : Nat} {m s d : Int} (h : ¬ (0 ≤ s ∧ s < m ∧ 0 ≤ d ∧ d < 7)) : rowS S c m s d = -2 := if_neg h
def wantS (S : TwS) (s d w : Int) : Int := if 0 ≤ w ∧ w ≤ 2 then rowS S (7 + w.toNat) (S.1 0 1) s d else -2
set_option maxHeartbeats 4000000 in
set_option maxRecDepth 100000 in
theorem ex_isDay {g : GG} {I : pI} {J : pJ} {R : pR} (hy : LyX g) (hr : RfX g R)  (d : Int32)  : SP g mX10_isDay [.int d] I J R (fun r I' J' R' => (I' = I ∧ J' = J ∧ R' = R) ∧ ∃ v : Int32, r = some (.int v) ∧ ((v.toInt = 1 ∧ 0 ≤ d.toInt ∧ d.toInt < 7) ∨ (v.toInt = 0 ∧ ¬ (0 ≤ d.toInt ∧ d.toInt < 7)))) := by
  refine SP_of ⟨by decide, rfl⟩ (Nat.le_of_ble_eq_true rfl) ?_
  refine WP_iload_n dX10_isDay_0 rfl ?_
  refine WQ_if_lt 14 dX10_isDay_1 rfl (fun c3292 => ?_) (fun c3292 => ?_)
  · refine WQ_iconst (0) (0) dX10_isDay_14 rfl rfl (fun v3294 hv3294 => ?_)
    exact WP_zret dX10_isDay_15 rfl (nar_z (by omega)) ⟨⟨rfl, rfl, rfl⟩, v3294, rfl, by
      first
      | exact Or.inl ⟨by omega, by omega, by omega⟩
      | exact Or.inr ⟨by omega, by omega⟩⟩
  · refine WP_iload_n dX10_isDay_4 rfl ?_
    refine WQ_bipush (7) (7) dX10_isDay_5 rfl rfl (fun v3295 hv3295 => ?_)
    refine WQ_icmp_ge 14 dX10_isDay_7 rfl (fun c3295 => ?_) (fun c3295 => ?_)
    · refine WQ_iconst (0) (0) dX10_isDay_14 rfl rfl (fun v3297 hv3297 => ?_)
      exact WP_zret dX10_isDay_15 rfl (nar_z (by omega)) ⟨⟨rfl, rfl, rfl⟩, v3297, rfl, by
        first
        | exact Or.inl ⟨by omega, by omega, by omega⟩
        | exact Or.inr ⟨by omega, by omega⟩⟩
    · refine WQ_iconst (1) (1) dX10_isDay_10 rfl rfl (fun v3298 hv3298 => ?_)
      refine WP_goto 15 dX10_isDay_11 rfl ?_
      exact WP_zret dX10_isDay_15 rfl (nar_z (by omega)) ⟨⟨rfl, rfl, rfl⟩, v3298, rfl, by
        first
        | exact Or.inl ⟨by omega, by omega, by omega⟩
        | exact Or.inr ⟨by omega, by omega⟩⟩
set_option maxHeartbeats 4000000 in
set_option maxRecDepth 100000 in
theorem ex_isSorta {g : GG} {I : pI} {J : pJ} {R : pR} (hy : LyX g) (hr : RfX g R) {S : TwS} (s : Int32) (hT : R (ad g 5) 0 = some (ad g 6)) (hS : RTW g 6 S I J) (hB : SBn S) : SP g mX10_isSort [.ref (ad g 0), .int s] I J R (fun r I' J' R' => (I' = I ∧ J' = J ∧ R' = R) ∧ ∃ v : Int32, r = some (.int v) ∧ ((v.toInt = 1 ∧ 0 ≤ s.toInt ∧ s.toInt < S.1 0 1) ∨ (v.toInt = 0 ∧ ¬ (0 ≤ s.toInt ∧ s.toInt < S.1 0 1)))) := by
  refine SP_of ⟨by decide, rfl⟩ (Nat.le_of_ble_eq_true rfl) ?_
  have hB2 := hB
  unfold SBn at hB2
  obtain ⟨z0, z1, z2, z3, z4⟩ := hS.1
  obtain ⟨w3299, ew3299⟩ : ∃ w : Int32, I (ad g 6) 1 = w := ⟨_, rfl⟩
  try simp only [ew3299] at z1
  refine WP_iload_n dX10_isSort_0 rfl ?_
  refine WQ_if_lt 22 dX10_isSort_1 rfl (fun c3299 => ?_) (fun c3299 => ?_)
  · refine WQ_iconst (0) (0) dX10_isSort_22 rfl rfl (fun v3301 hv3301 => ?_)
    exact WP_zret dX10_isSort_23 rfl (nar_z (by omega)) ⟨⟨rfl, rfl, rfl⟩, v3301, rfl, by
      try simp only [ew3299]
      first
      | exact Or.inl ⟨by omega, by omega, by omega⟩
      | exact Or.inr ⟨by omega, by omega⟩⟩
  · refine WP_iload_n dX10_isSort_4 rfl ?_
    refine WP_aload_n dX10_isSort_5 rfl ?_
    refine WP_getr dX10_isSort_6 fX10_33 rfl (lyx_is hy 0 10 rfl) (rfx hr 0 2 5 (by decide)) ?_
    refine WP_getr dX10_isSort_9 fX10_102 rfl (lyx_is hy 5 0 rfl) hT ?_
    refine WQ_getim dX10_isSort_12 fX10_114 rfl (lyx_is hy 6 7 rfl) ew3299 ?_
    refine WQ_icmp_ge 22 dX10_isSort_15 rfl (fun c3301 => ?_) (fun c3301 => ?_)
    · refine WQ_iconst (0) (0) dX10_isSort_22 rfl rfl (fun v3303 hv3303 => ?_)
      exact WP_zret dX10_isSort_23 rfl (nar_z (by omega)) ⟨⟨rfl, rfl, rfl⟩, v3303, rfl, by
        try simp only [ew3299]
        first
        | exact Or.inl ⟨by omega, by omega, by omega⟩
        | exact Or.inr ⟨by omega, by omega⟩⟩
    · refine WQ_iconst (1) (1) dX10_isSort_18 rfl rfl (fun v3304 hv3304 => ?_)
      refine WP_goto 23 dX10_isSort_19 rfl ?_
      exact WP_zret dX10_isSort_23 rfl (nar_z (by omega)) ⟨⟨rfl, rfl, rfl⟩, v3304, rfl, by
        try simp only [ew3299]
        first
        | exact Or.inl ⟨by omega, by omega, by omega⟩
        | exact Or.inr ⟨by omega, by omega⟩⟩
set_option maxHeartbeats 4000000 in
set_option maxRecDepth 100000 in
theorem ex_wantsa {g : GG} {I : pI} {J : pJ} {R : pR} (hy : LyX g) (hr : RfX g R) {S : TwS} (s : Int32) (d : Int32) (w : Int32) (hT : R (ad g 5) 0 = some (ad g 6)) (hS : RTW g 6 S I J) (hB : SBn S) : SP g mX10_wants [.ref (ad g 0), .int s, .int d, .int w] I J R (fun r I' J' R' => (I' = I ∧ J' = J ∧ R' = R) ∧ ∃ v : Int32, r = some (.int v) ∧ (v.toInt = wantS S s.toInt d.toInt w.toInt)) := by
  refine SP_of ⟨by decide, rfl⟩ (Nat.le_of_ble_eq_true rfl) ?_
  have hB2 := hB
  unfold SBn at hB2
  obtain ⟨z0, z1, z2, z3, z4⟩ := hS.1
  refine WP_aload_n dX10_wants_0 rfl ?_
  refine WP_iload_n dX10_wants_1 rfl ?_
  refine WP_callV1 (k := 10) dX10_wants_2 ⟨⟨⟨by decide, by decide⟩, zX10_isSort⟩, lX10_152, by decide, rfl, vX10_isSort.1, vX10_isSort.2⟩ (lyx_is hy 0 10 rfl) (ex_isSorta hy hr _  hT hS hB) (Nat.le_of_ble_eq_true rfl) ?_
  intro r Ia Ja Ra hq
  obtain ⟨⟨ea, eb, ec⟩, v3379, er, p3378⟩ := hq
  rw [ea, eb, ec, er]
  clear ea eb ec er Ia Ja Ra r
  refine WQ_if_eq 15 dX10_wants_5 rfl (fun c3379 => ?_) (fun c3379 => ?_)
  · refine WQ_bipush (-2) (-2) dX10_wants_15 rfl rfl (fun v3381 hv3381 => ?_)
    exact WP_iret dX10_wants_17 rfl ⟨⟨rfl, rfl, rfl⟩, v3381, rfl, by
      unfold wantS
      split
      · rw [row_n (by omega)]; omega
      · omega⟩
  · refine WP_iload_n dX10_wants_8 rfl ?_
    refine WP_callS1 dX10_wants_9 ⟨⟨⟨by decide, by decide⟩, zX10_isDay⟩, lX10_156, tX10_isDay⟩ (ex_isDay hy hr _  ) (Nat.le_of_ble_eq_true rfl) ?_
    intro r Ia Ja Ra hq
    obtain ⟨⟨ea, eb, ec⟩, v3383, er, p3382⟩ := hq
    rw [ea, eb, ec, er]
    clear ea eb ec er Ia Ja Ra r
    refine WQ_if_ne 18 dX10_wants_12 rfl (fun c3383 => ?_) (fun c3383 => ?_)
    · refine WP_iload_n dX10_wants_18 rfl ?_
      refine WQ_bipush (7) (7) dX10_wants_19 rfl rfl (fun v3385 hv3385 => ?_)
      refine WQ_imulk (7) dX10_wants_21 hv3385 (by omega) (by omega) (fun v3386 hv3386 => ?_)
      refine WP_iload_n dX10_wants_22 rfl ?_
      refine WQ_iadd dX10_wants_23 (by omega) (by omega) (fun v3387 hv3387 => ?_)
      refine WP_istore (ls' := [(0, _), (1, _), (2, _), (3, _), (4, _)]) dX10_wants_24 (by decide) rfl ?_
      refine WP_iload_n dX10_wants_26 rfl ?_
      refine WP_tab 94 dX10_wants_27 rfl rfl (fun c3387 => ?_) (fun j off c3387 hj => ?_) (by decide)
      · refine WQ_bipush (-2) (-2) dX10_wants_94 rfl rfl (fun v3389 hv3389 => ?_)
        exact WP_iret dX10_wants_96 rfl ⟨⟨rfl, rfl, rfl⟩, v3389, rfl, by
          unfold wantS
          rw [if_neg (by omega)]
          omega⟩
      · have hlt : j < 3 := by have := (Array.getElem?_eq_some_iff.mp hj).1; simpa using this
        have hcs : (j = 0 ∧ off = 25) ∨ (j = 1 ∧ off = 39) ∨ (j = 2 ∧ off = 53) := by
          match j, hlt, hj with
          | 0, _, hj => exact Or.inl ⟨rfl, (Option.some.inj hj).symm⟩
          | 1, _, hj => exact Or.inr (Or.inl ⟨rfl, (Option.some.inj hj).symm⟩)
          | 2, _, hj => exact Or.inr (Or.inr (⟨rfl, (Option.some.inj hj).symm⟩))
        clear hj hlt
        rcases hcs with ⟨rfl, rfl⟩ | ⟨rfl, rfl⟩ | ⟨rfl, rfl⟩
        · show WP _ _ 52 _ _ _ _ _ _
          refine WP_aload_n dX10_wants_52 rfl ?_
          refine WP_getr dX10_wants_53 fX10_33 rfl (lyx_is hy 0 10 rfl) (rfx hr 0 2 5 (by decide)) ?_
          refine WP_getr dX10_wants_56 fX10_102 rfl (lyx_is hy 5 0 rfl) hT ?_
          refine WP_getr dX10_wants_59 fX10_171 rfl (lyx_is hy 6 7 rfl) (rfx hr 6 11 13 (by decide)) ?_
          refine WP_iload dX10_wants_62 rfl ?_
          refine WE_ia dX10_wants_64 (lyx_is hy 13 13 rfl) (lyx_n hy 13 28 rfl) (by omega) (by omega) (fun v3390 ev3390 => ?_)
          exact WP_iret dX10_wants_65 rfl ⟨⟨rfl, rfl, rfl⟩, v3390, rfl, by
            unfold wantS
            rw [if_pos (by omega), show 7 + w.toInt.toNat = 7 by omega, row_y (by omega)]
            rw [← ev3390, show v3387.toInt.toNat = (s.toInt * 7 + d.toInt).toNat by omega]
            exact hS.2.2.1 (7, 7) (by decide) ((s.toInt * 7 + d.toInt).toNat) (by show (((s.toInt * 7 + d.toInt).toNat : Nat) : Int) < ((7 : Nat) : Int) * S.1 0 1; omega)⟩
        · show WP _ _ 66 _ _ _ _ _ _
          refine WP_aload_n dX10_wants_66 rfl ?_
          refine WP_getr dX10_wants_67 fX10_33 rfl (lyx_is hy 0 10 rfl) (rfx hr 0 2 5 (by decide)) ?_
          refine WP_getr dX10_wants_70 fX10_102 rfl (lyx_is hy 5 0 rfl) hT ?_
          refine WP_getr dX10_wants_73 fX10_174 rfl (lyx_is hy 6 7 rfl) (rfx hr 6 12 14 (by decide)) ?_
          refine WP_iload dX10_wants_76 rfl ?_
          refine WE_ia dX10_wants_78 (lyx_is hy 14 13 rfl) (lyx_n hy 14 28 rfl) (by omega) (by omega) (fun v3391 ev3391 => ?_)
          exact WP_iret dX10_wants_79 rfl ⟨⟨rfl, rfl, rfl⟩, v3391, rfl, by
            unfold wantS
            rw [if_pos (by omega), show 7 + w.toInt.toNat = 8 by omega, row_y (by omega)]
            rw [← ev3391, show v3387.toInt.toNat = (s.toInt * 7 + d.toInt).toNat by omega]
            exact hS.2.2.1 (8, 7) (by decide) ((s.toInt * 7 + d.toInt).toNat) (by show (((s.toInt * 7 + d.toInt).toNat : Nat) : Int) < ((7 : Nat) : Int) * S.1 0 1; omega)⟩
        · show WP _ _ 80 _ _ _ _ _ _
          refine WP_aload_n dX10_wants_80 rfl ?_
          refine WP_getr dX10_wants_81 fX10_33 rfl (lyx_is hy 0 10 rfl) (rfx hr 0 2 5 (by decide)) ?_
          refine WP_getr dX10_wants_84 fX10_102 rfl (lyx_is hy 5 0 rfl) hT ?_
          refine WP_getr dX10_wants_87 fX10_177 rfl (lyx_is hy 6 7 rfl) (rfx hr 6 13 15 (by decide)) ?_
          refine WP_iload dX10_wants_90 rfl ?_
          refine WE_ia dX10_wants_92 (lyx_is hy 15 13 rfl) (lyx_n hy 15 28 rfl) (by omega) (by omega) (fun v3392 ev3392 => ?_)
          exact WP_iret dX10_wants_93 rfl ⟨⟨rfl, rfl, rfl⟩, v3392, rfl, by
            unfold wantS
            rw [if_pos (by omega), show 7 + w.toInt.toNat = 9 by omega, row_y (by omega)]
            rw [← ev3392, show v3387.toInt.toNat = (s.toInt * 7 + d.toInt).toNat by omega]
            exact hS.2.2.1 (9, 7) (by decide) ((s.toInt * 7 + d.toInt).toNat) (by show (((s.toInt * 7 + d.toInt).toNat : Nat) : Int) < ((7 : Nat) : Int) * S.1 0 1; omega)⟩
    · refine WQ_bipush (-2) (-2) dX10_wants_15 rfl rfl (fun v3393 hv3393 => ?_)
      exact WP_iret dX10_wants_17 rfl ⟨⟨rfl, rfl, rfl⟩, v3393, rfl, by
        unfold wantS
        split
        · rw [row_n (by omega)]; omega
        · omega⟩
theorem ax_wantsa {g : GG} {I : pI} {J : pJ} {R : pR} (hy : LyX g) (hr : RfX g R) {S : TwS} (s d w : Int32) (hT : R (ad g 5) 0 = some (ad g 6)) (hS : RTW g 6 S I J) (hB : SBn S) : SP g mX10_wants [.ref (ad g 0), .int s, .int d, .int w] I J R (fun r _ _ _ => ∃ v : Int32, r = some (.int v) ∧ v.toInt = wantS S s.toInt d.toInt w.toInt) := SP_wk (ex_wantsa hy hr s d w hT hS hB) (fun r I9 J9 R9 q => q.2)
set_option maxHeartbeats 4000000 in
set_option maxRecDepth 100000 in
theorem ex_isSortb {g : GG} {I : pI} {J : pJ} {R : pR} (hy : LyX g) (hr : RfX g R) {S : TwS} (s : Int32) (hT : R (ad g 5) 0 = some (ad g 27)) (hS : RTW g 27 S I J) (hB : SBn S) : SP g mX10_isSort [.ref (ad g 0), .int s] I J R (fun r I' J' R' => (I' = I ∧ J' = J ∧ R' = R) ∧ ∃ v : Int32, r = some (.int v) ∧ ((v.toInt = 1 ∧ 0 ≤ s.toInt ∧ s.toInt < S.1 0 1) ∨ (v.toInt = 0 ∧ ¬ (0 ≤ s.toInt ∧ s.toInt < S.1 0 1)))) := by
  refine SP_of ⟨by decide, rfl⟩ (Nat.le_of_ble_eq_true rfl) ?_
  have hB2 := hB
  unfold SBn at hB2
  obtain ⟨z0, z1, z2, z3, z4⟩ := hS.1
  obtain ⟨w3400, ew3400⟩ : ∃ w : Int32, I (ad g 27) 1 = w := ⟨_, rfl⟩
  try simp only [ew3400] at z1
  refine WP_iload_n dX10_isSort_0 rfl ?_
  refine WQ_if_lt 22 dX10_isSort_1 rfl (fun c3400 => ?_) (fun c3400 => ?_)
  · refine WQ_iconst (0) (0) dX10_isSort_22 rfl rfl (fun v3402 hv3402 => ?_)
    exact WP_zret dX10_isSort_23 rfl (nar_z (by omega)) ⟨⟨rfl, rfl, rfl⟩, v3402, rfl, by
      try simp only [ew3400]
      first
      | exact Or.inl ⟨by omega, by omega, by omega⟩
      | exact Or.inr ⟨by omega, by omega⟩⟩
  · refine WP_iload_n dX10_isSort_4 rfl ?_
    refine WP_aload_n dX10_isSort_5 rfl ?_
    refine WP_getr dX10_isSort_6 fX10_33 rfl (lyx_is hy 0 10 rfl) (rfx hr 0 2 5 (by decide)) ?_
    refine WP_getr dX10_isSort_9 fX10_102 rfl (lyx_is hy 5 0 rfl) hT ?_
    refine WQ_getim dX10_isSort_12 fX10_114 rfl (lyx_is hy 27 7 rfl) ew3400 ?_
    refine WQ_icmp_ge 22 dX10_isSort_15 rfl (fun c3402 => ?_) (fun c3402 => ?_)
    · refine WQ_iconst (0) (0) dX10_isSort_22 rfl rfl (fun v3404 hv3404 => ?_)
      exact WP_zret dX10_isSort_23 rfl (nar_z (by omega)) ⟨⟨rfl, rfl, rfl⟩, v3404, rfl, by
        try simp only [ew3400]
        first
        | exact Or.inl ⟨by omega, by omega, by omega⟩
        | exact Or.inr ⟨by omega, by omega⟩⟩
    · refine WQ_iconst (1) (1) dX10_isSort_18 rfl rfl (fun v3405 hv3405 => ?_)
      refine WP_goto 23 dX10_isSort_19 rfl ?_
      exact WP_zret dX10_isSort_23 rfl (nar_z (by omega)) ⟨⟨rfl, rfl, rfl⟩, v3405, rfl, by
        try simp only [ew3400]
        first
        | exact Or.inl ⟨by omega, by omega, by omega⟩
        | exact Or.inr ⟨by omega, by omega⟩⟩
set_option maxHeartbeats 4000000 in
set_option maxRecDepth 100000 in
theorem ex_wantsb {g : GG} {I : pI} {J : pJ} {R : pR} (hy : LyX g) (hr : RfX g R) {S : TwS} (s : Int32) (d : Int32) (w : Int32) (hT : R (ad g 5) 0 = some (ad g 27)) (hS : RTW g 27 S I J) (hB : SBn S) : SP g mX10_wants [.ref (ad g 0), .int s, .int d, .int w] I J R (fun r I' J' R' => (I' = I ∧ J' = J ∧ R' = R) ∧ ∃ v : Int32, r = some (.int v) ∧ (v.toInt = wantS S s.toInt d.toInt w.toInt)) := by
  refine SP_of ⟨by decide, rfl⟩ (Nat.le_of_ble_eq_true rfl) ?_
  have hB2 := hB
  unfold SBn at hB2
  obtain ⟨z0, z1, z2, z3, z4⟩ := hS.1
  refine WP_aload_n dX10_wants_0 rfl ?_
  refine WP_iload_n dX10_wants_1 rfl ?_
  refine WP_callV1 (k := 10) dX10_wants_2 ⟨⟨⟨by decide, by decide⟩, zX10_isSort⟩, lX10_152, by decide, rfl, vX10_isSort.1, vX10_isSort.2⟩ (lyx_is hy 0 10 rfl) (ex_isSortb hy hr _  hT hS hB) (Nat.le_of_ble_eq_true rfl) ?_
  intro r Ia Ja Ra hq
  obtain ⟨⟨ea, eb, ec⟩, v3480, er, p3479⟩ := hq
  rw [ea, eb, ec, er]
  clear ea eb ec er Ia Ja Ra r
  refine WQ_if_eq 15 dX10_wants_5 rfl (fun c3480 => ?_) (fun c3480 => ?_)
  · refine WQ_bipush (-2) (-2) dX10_wants_15 rfl rfl (fun v3482 hv3482 => ?_)
    exact WP_iret dX10_wants_17 rfl ⟨⟨rfl, rfl, rfl⟩, v3482, rfl, by
      unfold wantS
      split
      · rw [row_n (by omega)]; omega
      · omega⟩
  · refine WP_iload_n dX10_wants_8 rfl ?_
    refine WP_callS1 dX10_wants_9 ⟨⟨⟨by decide, by decide⟩, zX10_isDay⟩, lX10_156, tX10_isDay⟩ (ex_isDay hy hr _  ) (Nat.le_of_ble_eq_true rfl) ?_
    intro r Ia Ja Ra hq
    obtain ⟨⟨ea, eb, ec⟩, v3484, er, p3483⟩ := hq
    rw [ea, eb, ec, er]
    clear ea eb ec er Ia Ja Ra r
    refine WQ_if_ne 18 dX10_wants_12 rfl (fun c3484 => ?_) (fun c3484 => ?_)
    · refine WP_iload_n dX10_wants_18 rfl ?_
      refine WQ_bipush (7) (7) dX10_wants_19 rfl rfl (fun v3486 hv3486 => ?_)
      refine WQ_imulk (7) dX10_wants_21 hv3486 (by omega) (by omega) (fun v3487 hv3487 => ?_)
      refine WP_iload_n dX10_wants_22 rfl ?_
      refine WQ_iadd dX10_wants_23 (by omega) (by omega) (fun v3488 hv3488 => ?_)
      refine WP_istore (ls' := [(0, _), (1, _), (2, _), (3, _), (4, _)]) dX10_wants_24 (by decide) rfl ?_
      refine WP_iload_n dX10_wants_26 rfl ?_
      refine WP_tab 94 dX10_wants_27 rfl rfl (fun c3488 => ?_) (fun j off c3488 hj => ?_) (by decide)
      · refine WQ_bipush (-2) (-2) dX10_wants_94 rfl rfl (fun v3490 hv3490 => ?_)
        exact WP_iret dX10_wants_96 rfl ⟨⟨rfl, rfl, rfl⟩, v3490, rfl, by
          unfold wantS
          rw [if_neg (by omega)]
          omega⟩
      · have hlt : j < 3 := by have := (Array.getElem?_eq_some_iff.mp hj).1; simpa using this
        have hcs : (j = 0 ∧ off = 25) ∨ (j = 1 ∧ off = 39) ∨ (j = 2 ∧ off = 53) := by
          match j, hlt, hj with
          | 0, _, hj => exact Or.inl ⟨rfl, (Option.some.inj hj).symm⟩
          | 1, _, hj => exact Or.inr (Or.inl ⟨rfl, (Option.some.inj hj).symm⟩)
          | 2, _, hj => exact Or.inr (Or.inr (⟨rfl, (Option.some.inj hj).symm⟩))
        clear hj hlt
        rcases hcs with ⟨rfl, rfl⟩ | ⟨rfl, rfl⟩ | ⟨rfl, rfl⟩
        · show WP _ _ 52 _ _ _ _ _ _
          refine WP_aload_n dX10_wants_52 rfl ?_
          refine WP_getr dX10_wants_53 fX10_33 rfl (lyx_is hy 0 10 rfl) (rfx hr 0 2 5 (by decide)) ?_
          refine WP_getr dX10_wants_56 fX10_102 rfl (lyx_is hy 5 0 rfl) hT ?_
          refine WP_getr dX10_wants_59 fX10_171 rfl (lyx_is hy 27 7 rfl) (rfx hr 27 11 34 (by decide)) ?_
          refine WP_iload dX10_wants_62 rfl ?_
          refine WE_ia dX10_wants_64 (lyx_is hy 34 13 rfl) (lyx_n hy 34 28 rfl) (by omega) (by omega) (fun v3491 ev3491 => ?_)
          exact WP_iret dX10_wants_65 rfl ⟨⟨rfl, rfl, rfl⟩, v3491, rfl, by
            unfold wantS
            rw [if_pos (by omega), show 7 + w.toInt.toNat = 7 by omega, row_y (by omega)]
            rw [← ev3491, show v3488.toInt.toNat = (s.toInt * 7 + d.toInt).toNat by omega]
            exact hS.2.2.1 (7, 7) (by decide) ((s.toInt * 7 + d.toInt).toNat) (by show (((s.toInt * 7 + d.toInt).toNat : Nat) : Int) < ((7 : Nat) : Int) * S.1 0 1; omega)⟩
        · show WP _ _ 66 _ _ _ _ _ _
          refine WP_aload_n dX10_wants_66 rfl ?_
          refine WP_getr dX10_wants_67 fX10_33 rfl (lyx_is hy 0 10 rfl) (rfx hr 0 2 5 (by decide)) ?_
          refine WP_getr dX10_wants_70 fX10_102 rfl (lyx_is hy 5 0 rfl) hT ?_
          refine WP_getr dX10_wants_73 fX10_174 rfl (lyx_is hy 27 7 rfl) (rfx hr 27 12 35 (by decide)) ?_
          refine WP_iload dX10_wants_76 rfl ?_
          refine WE_ia dX10_wants_78 (lyx_is hy 35 13 rfl) (lyx_n hy 35 28 rfl) (by omega) (by omega) (fun v3492 ev3492 => ?_)
          exact WP_iret dX10_wants_79 rfl ⟨⟨rfl, rfl, rfl⟩, v3492, rfl, by
            unfold wantS
            rw [if_pos (by omega), show 7 + w.toInt.toNat = 8 by omega, row_y (by omega)]
            rw [← ev3492, show v3488.toInt.toNat = (s.toInt * 7 + d.toInt).toNat by omega]
            exact hS.2.2.1 (8, 7) (by decide) ((s.toInt * 7 + d.toInt).toNat) (by show (((s.toInt * 7 + d.toInt).toNat : Nat) : Int) < ((7 : Nat) : Int) * S.1 0 1; omega)⟩
        · show WP _ _ 80 _ _ _ _ _ _
          refine WP_aload_n dX10_wants_80 rfl ?_
          refine WP_getr dX10_wants_81 fX10_33 rfl (lyx_is hy 0 10 rfl) (rfx hr 0 2 5 (by decide)) ?_
          refine WP_getr dX10_wants_84 fX10_102 rfl (lyx_is hy 5 0 rfl) hT ?_
          refine WP_getr dX10_wants_87 fX10_177 rfl (lyx_is hy 27 7 rfl) (rfx hr 27 13 36 (by decide)) ?_
          refine WP_iload dX10_wants_90 rfl ?_
          refine WE_ia dX10_wants_92 (lyx_is hy 36 13 rfl) (lyx_n hy 36 28 rfl) (by omega) (by omega) (fun v3493 ev3493 => ?_)
          exact WP_iret dX10_wants_93 rfl ⟨⟨rfl, rfl, rfl⟩, v3493, rfl, by
            unfold wantS
            rw [if_pos (by omega), show 7 + w.toInt.toNat = 9 by omega, row_y (by omega)]
            rw [← ev3493, show v3488.toInt.toNat = (s.toInt * 7 + d.toInt).toNat by omega]
            exact hS.2.2.1 (9, 7) (by decide) ((s.toInt * 7 + d.toInt).toNat) (by show (((s.toInt * 7 + d.toInt).toNat : Nat) : Int) < ((7 : Nat) : Int) * S.1 0 1; omega)⟩
    · refine WQ_bipush (-2) (-2) dX10_wants_15 rfl rfl (fun v3494 hv3494 => ?_)
      exact WP_iret dX10_wants_17 rfl ⟨⟨rfl, rfl, rfl⟩, v3494, rfl, by
        unfold wantS
        split
        · rw [row_n (by omega)]; omega
        · omega⟩
theorem ax_wantsb {g : GG} {I : pI} {J : pJ} {R : pR} (hy : LyX g) (hr : RfX g R) {S : TwS} (s d w : Int32) (hT : R (ad g 5) 0 = some (ad g 27)) (hS : RTW g 27 S I J) (hB : SBn S) : SP g mX10_wants [.ref (ad g 0), .int s, .int d, .int w] I J R (fun r _ _ _ => ∃ v : Int32, r = some (.int v) ∧ v.toInt = wantS S s.toInt d.toInt w.toInt) := SP_wk (ex_wantsb hy hr s d w hT hS hB) (fun r I9 J9 R9 q => q.2)
