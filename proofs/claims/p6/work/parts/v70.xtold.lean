/-! WHAT IS TOLD OF A TOWN: the answers -/
theorem idnn {x y : Int32} (h1 : x.toInt < 0) (h2 : 1 < y.toInt) : (x / y).toInt = -((-x.toInt) / y.toInt) := by
  have r := rng x
  have e := Int.neg_tdiv (-x.toInt) y.toInt
  rw [Int.neg_neg, Int.tdiv_eq_ediv_of_nonneg (show 0 ≤ -x.toInt by omega)] at e
  rw [Int32.toInt_div, e]
  have h3 : 0 ≤ (-x.toInt) / y.toInt := Int.ediv_nonneg (by omega) (by omega)
  have h4 : (-x.toInt) / y.toInt ≤ -x.toInt := Int.ediv_le_self _ (by omega)
  exact bm32 (by omega) (by omega)
theorem irn {x y : Int32} (h1 : x.toInt < 0) (h2 : 1 < y.toInt) : (x - x / y * y).toInt = -((-x.toInt) % y.toInt) := by
  have r := rng x
  have e1 := idnn h1 h2
  have h5 := Int.mul_ediv_add_emod (-x.toInt) y.toInt
  have h6 := Int.emod_nonneg (-x.toInt) (show y.toInt ≠ 0 by omega)
  have h3 : 0 ≤ (-x.toInt) / y.toInt := Int.ediv_nonneg (by omega) (by omega)
  have h7 : 0 ≤ (-x.toInt) / y.toInt * y.toInt := Int.mul_nonneg h3 (by omega)
  have h8 : -((-x.toInt) / y.toInt) * y.toInt = -((-x.toInt) / y.toInt * y.toInt) := Int.neg_mul _ _
  rw [Int.mul_comm] at h5
  have e2 : (x / y * y).toInt = -((-x.toInt) / y.toInt * y.toInt) := by
    rw [im, e1, h8]
    · rw [e1, h8]; omega
    · rw [e1, h8]; omega
  rw [is', e2]
  · omega
  · rw [e2]; omega
  · rw [e2]; omega
section Rules
variable {g : GG} {d : MD} {pc : Nat} {ls : List (Nat × Value)} {st : List Value} {I : pI} {J : pJ} {R : pR} {Q : Post}
theorem WE_idivs {x y : Int32} (z : Int) (h : decode (md_c d) pc = .ok (.idiv, 1)) (hz : y.toInt = z) (h0 : 1 < z) (k : ∀ v : Int32, (0 ≤ x.toInt → v.toInt = x.toInt / z) → (x.toInt < 0 → v.toInt = -((-x.toInt) / z)) → WP g d (pc + 1) ls (.int v :: st) I J R Q) : WP g d pc ls (.int y :: .int x :: st) I J R Q := by
  subst hz
  exact WP_idiv h (fun e => by rw [e] at h0; exact absurd h0 (by decide)) (k _ (fun hx => idv hx (by omega)) (fun hx => idnn hx h0))
theorem WE_irems {x y : Int32} (z : Int) (h : decode (md_c d) pc = .ok (.irem, 1)) (hz : y.toInt = z) (h0 : 1 < z) (k : ∀ v : Int32, (0 ≤ x.toInt → v.toInt = x.toInt % z) → (x.toInt < 0 → v.toInt = -((-x.toInt) % z)) → WP g d (pc + 1) ls (.int v :: st) I J R Q) : WP g d pc ls (.int y :: .int x :: st) I J R Q := by
  subst hz
  exact WP_irem h (fun e => by rw [e] at h0; exact absurd h0 (by decide)) (k _ (fun hx => ir hx (by omega)) (fun hx => irn hx h0))
end Rules
def toldS (S : TwS) (a : Int) : Int :=
  if a = 0 then S.1 0 1 else if a = 1 then S.1 0 2 else if a = 2 then S.1 0 3 else if a = 3 then S.1 0 4
  else if 10 ≤ a ∧ a ≤ 16 then S.1 1 (a - 10).toNat
  else if 20 ≤ a ∧ a ≤ 59 then (if a % 10 < S.1 0 1 then S.1 (a / 10).toNat (a % 10).toNat else -1)
  else if 60 ≤ a ∧ a ≤ 79 then (if a % 10 < S.1 0 2 then S.1 (a / 10 + 4).toNat (a % 10).toNat else -1)
  else -1
theorem told_r {S : TwS} {a : Int} (h : 10 ≤ a ∧ a ≤ 16) : toldS S a = S.1 1 (a - 10).toNat := by
  unfold toldS
  rw [if_neg (by omega), if_neg (by omega), if_neg (by omega), if_neg (by omega), if_pos h]
theorem told_s {S : TwS} {a : Int} (h : 20 ≤ a ∧ a ≤ 59) (hk : a % 10 < S.1 0 1) : toldS S a = S.1 (a / 10).toNat (a % 10).toNat := by
  unfold toldS
  rw [if_neg (by omega), if_neg (by omega), if_neg (by omega), if_neg (by omega), if_neg (by omega), if_pos h, if_pos hk]
theorem told_t {S : TwS} {a : Int} (h : 60 ≤ a ∧ a ≤ 79) (hk : a % 10 < S.1 0 2) : toldS S a = S.1 (a / 10 + 4).toNat (a % 10).toNat := by
  unfold toldS
  rw [if_neg (by omega), if_neg (by omega), if_neg (by omega), if_neg (by omega), if_neg (by omega), if_neg (by omega), if_pos h, if_pos hk]
theorem told_n {S : TwS} {a : Int} (h0 : a < 0 ∨ 3 < a) (h1 : a < 10 ∨ 16 < a) (h2 : 20 ≤ a → a ≤ 59 → S.1 0 1 ≤ a % 10) (h3 : 60 ≤ a → a ≤ 79 → S.1 0 2 ≤ a % 10) : toldS S a = -1 := by
  unfold toldS
  rw [if_neg (by omega), if_neg (by omega), if_neg (by omega), if_neg (by omega), if_neg (by omega)]
  by_cases e : 20 ≤ a ∧ a ≤ 59
  · rw [if_pos e, if_neg (by have := h2 e.1 e.2; omega)]
  · rw [if_neg e]
    by_cases e2 : 60 ≤ a ∧ a ≤ 79
    · rw [if_pos e2, if_neg (by have := h3 e2.1 e2.2; omega)]
    · rw [if_neg e2]
set_option maxHeartbeats 4000000 in
set_option maxRecDepth 100000 in
theorem ex_isSorta {g : GG} {I : pI} {J : pJ} {R : pR} (hy : LyX g) (hr : RfX g R) {S : TwS} (s : Int32) (hT : R (ad g 5) 0 = some (ad g 6)) (hS : RTW g 6 S I J) (hB : SBn S) : SP g mX10_isSort [.ref (ad g 0), .int s] I J R (fun r I' J' R' => (I' = I ∧ J' = J ∧ R' = R) ∧ ∃ v : Int32, r = some (.int v) ∧ ((v.toInt = 1 ∧ 0 ≤ s.toInt ∧ s.toInt < S.1 0 1) ∨ (v.toInt = 0 ∧ ¬ (0 ≤ s.toInt ∧ s.toInt < S.1 0 1)))) := by
  refine SP_of ⟨by decide, rfl⟩ (Nat.le_of_ble_eq_true rfl) ?_
  have hB2 := hB
  unfold SBn at hB2
  obtain ⟨z0, z1, z2, z3, z4⟩ := hS.1
  obtain ⟨w3299, ew3299⟩ : ∃ w : Int32, I (ad g 6) 1 = w := ⟨_, rfl⟩
  try simp only [ew3299] at z1
  refine WP_iload_n dX10_isSort_0 rfl ?_
  refine WQ_if_lt 22 dX10_isSort_1 rfl (fun c3299 => ?_) (fun c3299 => ?_)
  · refine WQ_iconst (0) (0) dX10_isSort_22 rfl rfl (fun v3301 hv3301 => ?_)
    exact WP_zret dX10_isSort_23 rfl (nar_z (by omega)) ⟨⟨rfl, rfl, rfl⟩, v3301, rfl, by
      try simp only [ew3299]
      first
      | exact Or.inl ⟨by omega, by omega, by omega⟩
      | exact Or.inr ⟨by omega, by omega⟩⟩
  · refine WP_iload_n dX10_isSort_4 rfl ?_
    refine WP_aload_n dX10_isSort_5 rfl ?_
    refine WP_getr dX10_isSort_6 fX10_33 rfl (lyx_is hy 0 10 rfl) (rfx hr 0 2 5 (by decide)) ?_
    refine WP_getr dX10_isSort_9 fX10_102 rfl (lyx_is hy 5 0 rfl) hT ?_
    refine WQ_getim dX10_isSort_12 fX10_114 rfl (lyx_is hy 6 7 rfl) ew3299 ?_
    refine WQ_icmp_ge 22 dX10_isSort_15 rfl (fun c3301 => ?_) (fun c3301 => ?_)
    · refine WQ_iconst (0) (0) dX10_isSort_22 rfl rfl (fun v3303 hv3303 => ?_)
      exact WP_zret dX10_isSort_23 rfl (nar_z (by omega)) ⟨⟨rfl, rfl, rfl⟩, v3303, rfl, by
        try simp only [ew3299]
        first
        | exact Or.inl ⟨by omega, by omega, by omega⟩
        | exact Or.inr ⟨by omega, by omega⟩⟩
    · refine WQ_iconst (1) (1) dX10_isSort_18 rfl rfl (fun v3304 hv3304 => ?_)
      refine WP_goto 23 dX10_isSort_19 rfl ?_
      exact WP_zret dX10_isSort_23 rfl (nar_z (by omega)) ⟨⟨rfl, rfl, rfl⟩, v3304, rfl, by
        try simp only [ew3299]
        first
        | exact Or.inl ⟨by omega, by omega, by omega⟩
        | exact Or.inr ⟨by omega, by omega⟩⟩
set_option maxHeartbeats 4000000 in
set_option maxRecDepth 100000 in
theorem ex_toldOfSorta {g : GG} {I : pI} {J : pJ} {R : pR} (hy : LyX g) (hr : RfX g R) {S : TwS} (r9 : Int32) (k : Int32) (hS : RTW g 6 S I J) (hB : SBn S) (hk : 0 ≤ k.toInt ∧ k.toInt < S.1 0 1) : SP g mX10_toldOfSort [.ref (ad g 6), .int r9, .int k] I J R (fun r I' J' R' => (I' = I ∧ J' = J ∧ R' = R) ∧ ∃ v : Int32, r = some (.int v) ∧ ((2 ≤ r9.toInt ∧ r9.toInt ≤ 5 ∧ v.toInt = S.1 r9.toInt.toNat k.toInt.toNat) ∨ ((r9.toInt < 2 ∨ 5 < r9.toInt) ∧ v.toInt = -1))) := by
  refine SP_of ⟨by decide, rfl⟩ (Nat.le_of_ble_eq_true rfl) ?_
  have hB2 := hB
  unfold SBn at hB2
  obtain ⟨z0, z1, z2, z3, z4⟩ := hS.1
  refine WP_iload_n dX10_toldOfSort_0 rfl ?_
  refine WP_tab 60 dX10_toldOfSort_1 rfl rfl (fun c3310 => ?_) (fun j off c3310 hj => ?_) (by decide)
  · refine WQ_iconst (-1) (-1) dX10_toldOfSort_60 rfl rfl (fun v3312 hv3312 => ?_)
    exact WP_iret dX10_toldOfSort_61 rfl ⟨⟨rfl, rfl, rfl⟩, v3312, rfl, by
      exact Or.inr ⟨by omega, by omega⟩⟩
  · have hlt : j < 4 := by have := (Array.getElem?_eq_some_iff.mp hj).1; simpa using this
    have hcs : (j = 0 ∧ off = 31) ∨ (j = 1 ∧ off = 38) ∨ (j = 2 ∧ off = 45) ∨ (j = 3 ∧ off = 52) := by
      match j, hlt, hj with
      | 0, _, hj => exact Or.inl ⟨rfl, (Option.some.inj hj).symm⟩
      | 1, _, hj => exact Or.inr (Or.inl ⟨rfl, (Option.some.inj hj).symm⟩)
      | 2, _, hj => exact Or.inr (Or.inr (Or.inl ⟨rfl, (Option.some.inj hj).symm⟩))
      | 3, _, hj => exact Or.inr (Or.inr (Or.inr (⟨rfl, (Option.some.inj hj).symm⟩)))
    clear hj hlt
    rcases hcs with ⟨rfl, rfl⟩ | ⟨rfl, rfl⟩ | ⟨rfl, rfl⟩ | ⟨rfl, rfl⟩
    · show WP _ _ 32 _ _ _ _ _ _
      refine WP_aload_n dX10_toldOfSort_32 rfl ?_
      refine WP_getr dX10_toldOfSort_33 fX10_140 rfl (lyx_is hy 6 7 rfl) (rfx hr 6 6 8 (by decide)) ?_
      refine WP_iload_n dX10_toldOfSort_36 rfl ?_
      refine WE_ia dX10_toldOfSort_37 (lyx_is hy 8 13 rfl) (lyx_n hy 8 4 rfl) (by omega) (by omega) (fun v3313 ev3313 => ?_)
      exact WP_iret dX10_toldOfSort_38 rfl ⟨⟨rfl, rfl, rfl⟩, v3313, rfl, by
        refine Or.inl ⟨by omega, by omega, ?_⟩
        rw [show r9.toInt.toNat = 2 by omega]
        rw [← ev3313, show k.toInt.toNat = k.toInt.toNat by omega]
        exact hS.2.2.1 (2, 1) (by decide) (k.toInt.toNat) (by show ((k.toInt.toNat : Nat) : Int) < ((1 : Nat) : Int) * S.1 0 1; omega)⟩
    · show WP _ _ 39 _ _ _ _ _ _
      refine WP_aload_n dX10_toldOfSort_39 rfl ?_
      refine WP_getr dX10_toldOfSort_40 fX10_143 rfl (lyx_is hy 6 7 rfl) (rfx hr 6 7 9 (by decide)) ?_
      refine WP_iload_n dX10_toldOfSort_43 rfl ?_
      refine WE_ia dX10_toldOfSort_44 (lyx_is hy 9 13 rfl) (lyx_n hy 9 4 rfl) (by omega) (by omega) (fun v3314 ev3314 => ?_)
      exact WP_iret dX10_toldOfSort_45 rfl ⟨⟨rfl, rfl, rfl⟩, v3314, rfl, by
        refine Or.inl ⟨by omega, by omega, ?_⟩
        rw [show r9.toInt.toNat = 3 by omega]
        rw [← ev3314, show k.toInt.toNat = k.toInt.toNat by omega]
        exact hS.2.2.1 (3, 1) (by decide) (k.toInt.toNat) (by show ((k.toInt.toNat : Nat) : Int) < ((1 : Nat) : Int) * S.1 0 1; omega)⟩
    · show WP _ _ 46 _ _ _ _ _ _
      refine WP_aload_n dX10_toldOfSort_46 rfl ?_
      refine WP_getr dX10_toldOfSort_47 fX10_146 rfl (lyx_is hy 6 7 rfl) (rfx hr 6 8 10 (by decide)) ?_
      refine WP_iload_n dX10_toldOfSort_50 rfl ?_
      refine WE_ia dX10_toldOfSort_51 (lyx_is hy 10 13 rfl) (lyx_n hy 10 4 rfl) (by omega) (by omega) (fun v3315 ev3315 => ?_)
      exact WP_iret dX10_toldOfSort_52 rfl ⟨⟨rfl, rfl, rfl⟩, v3315, rfl, by
        refine Or.inl ⟨by omega, by omega, ?_⟩
        rw [show r9.toInt.toNat = 4 by omega]
        rw [← ev3315, show k.toInt.toNat = k.toInt.toNat by omega]
        exact hS.2.2.1 (4, 1) (by decide) (k.toInt.toNat) (by show ((k.toInt.toNat : Nat) : Int) < ((1 : Nat) : Int) * S.1 0 1; omega)⟩
    · show WP _ _ 53 _ _ _ _ _ _
      refine WP_aload_n dX10_toldOfSort_53 rfl ?_
      refine WP_getr dX10_toldOfSort_54 fX10_149 rfl (lyx_is hy 6 7 rfl) (rfx hr 6 9 11 (by decide)) ?_
      refine WP_iload_n dX10_toldOfSort_57 rfl ?_
      refine WE_ia dX10_toldOfSort_58 (lyx_is hy 11 13 rfl) (lyx_n hy 11 4 rfl) (by omega) (by omega) (fun v3316 ev3316 => ?_)
      exact WP_iret dX10_toldOfSort_59 rfl ⟨⟨rfl, rfl, rfl⟩, v3316, rfl, by
        refine Or.inl ⟨by omega, by omega, ?_⟩
        rw [show r9.toInt.toNat = 5 by omega]
        rw [← ev3316, show k.toInt.toNat = k.toInt.toNat by omega]
        exact hS.2.2.1 (5, 1) (by decide) (k.toInt.toNat) (by show ((k.toInt.toNat : Nat) : Int) < ((1 : Nat) : Int) * S.1 0 1; omega)⟩
set_option maxHeartbeats 4000000 in
set_option maxRecDepth 100000 in
theorem ex_tolda {g : GG} {I : pI} {J : pJ} {R : pR} (hy : LyX g) (hr : RfX g R) {S : TwS} (a : Int32) (hT : R (ad g 5) 0 = some (ad g 6)) (hS : RTW g 6 S I J) (hB : SBn S) : SP g mX10_told [.ref (ad g 0), .int a] I J R (fun r I' J' R' => (I' = I ∧ J' = J ∧ R' = R) ∧ ∃ v : Int32, r = some (.int v) ∧ (v.toInt = toldS S a.toInt)) := by
  refine SP_of ⟨by decide, rfl⟩ (Nat.le_of_ble_eq_true rfl) ?_
  have hB2 := hB
  unfold SBn at hB2
  obtain ⟨z0, z1, z2, z3, z4⟩ := hS.1
  obtain ⟨w3317, ew3317⟩ : ∃ w : Int32, I (ad g 6) 1 = w := ⟨_, rfl⟩
  obtain ⟨w3318, ew3318⟩ : ∃ w : Int32, I (ad g 6) 2 = w := ⟨_, rfl⟩
  obtain ⟨w3319, ew3319⟩ : ∃ w : Int32, I (ad g 6) 3 = w := ⟨_, rfl⟩
  obtain ⟨w3320, ew3320⟩ : ∃ w : Int32, I (ad g 6) 4 = w := ⟨_, rfl⟩
  try simp only [ew3317, ew3318, ew3319, ew3320] at z1 z2 z3 z4
  refine WP_aload_n dX10_told_0 rfl ?_
  refine WP_getr dX10_told_1 fX10_33 rfl (lyx_is hy 0 10 rfl) (rfx hr 0 2 5 (by decide)) ?_
  refine WP_getr dX10_told_4 fX10_102 rfl (lyx_is hy 5 0 rfl) hT ?_
  refine WP_astore_n (ls' := [(0, _), (1, _), (2, _)]) dX10_told_7 (by decide) rfl ?_
  refine WP_iload_n dX10_told_8 rfl ?_
  refine WP_tab 60 dX10_told_9 rfl rfl (fun c3320 => ?_) (fun j off c3320 hj => ?_) (by decide)
  · refine WP_iload_n dX10_told_60 rfl ?_
    refine WQ_bipush (10) (10) dX10_told_61 rfl rfl (fun v3322 hv3322 => ?_)
    refine WE_idivs (10) dX10_told_63 hv3322 (by decide) (fun v3323 hv3323 nv3323 => ?_)
    refine WP_istore_n (ls' := [(0, _), (1, _), (2, _), (3, _)]) dX10_told_64 (by decide) rfl ?_
    refine WP_iload_n dX10_told_65 rfl ?_
    refine WQ_bipush (10) (10) dX10_told_66 rfl rfl (fun v3324 hv3324 => ?_)
    refine WE_irems (10) dX10_told_68 hv3324 (by decide) (fun v3325 hv3325 nv3325 => ?_)
    refine WP_istore (ls' := [(0, _), (1, _), (2, _), (3, _), (4, _)]) dX10_told_69 (by decide) rfl ?_
    refine WP_iload dX10_told_71 rfl ?_
    refine WQ_if_ge 78 dX10_told_73 rfl (fun c3325 => ?_) (fun c3325 => ?_)
    · refine WP_iload_n dX10_told_78 rfl ?_
      refine WQ_iconst (1) (1) dX10_told_79 rfl rfl (fun v3327 hv3327 => ?_)
      refine WQ_icmp_ne 102 dX10_told_80 rfl (fun c3327 => ?_) (fun c3327 => ?_)
      · refine WP_iload_n dX10_told_102 rfl ?_
        refine WQ_bipush (6) (6) dX10_told_103 rfl rfl (fun v3329 hv3329 => ?_)
        refine WQ_icmp_eq 114 dX10_told_105 rfl (fun c3329 => ?_) (fun c3329 => ?_)
        · refine WP_iload dX10_told_114 rfl ?_
          refine WP_aload_n dX10_told_116 rfl ?_
          refine WQ_getim dX10_told_117 fX10_117 rfl (lyx_is hy 6 7 rfl) ew3318 ?_
          refine WQ_icmp_ge 149 dX10_told_120 rfl (fun c3330 => ?_) (fun c3330 => ?_)
          · refine WQ_iconst (-1) (-1) dX10_told_149 rfl rfl (fun v3332 hv3332 => ?_)
            exact WP_iret dX10_told_150 rfl ⟨⟨rfl, rfl, rfl⟩, v3332, rfl, by
              try simp only [ew3317, ew3318, ew3319, ew3320]
              rw [told_n (by omega) (by omega) (by omega) (by omega)]
              omega⟩
          · refine WP_iload_n dX10_told_123 rfl ?_
            refine WQ_bipush (6) (6) dX10_told_124 rfl rfl (fun v3333 hv3333 => ?_)
            refine WQ_icmp_ne 139 dX10_told_126 rfl (fun c3333 => ?_) (fun c3333 => ?_)
            · refine WP_aload_n dX10_told_139 rfl ?_
              refine WP_getr dX10_told_140 fX10_133 rfl (lyx_is hy 6 7 rfl) (rfx hr 6 15 17 (by decide)) ?_
              refine WP_iload dX10_told_143 rfl ?_
              refine WE_ia dX10_told_145 (lyx_is hy 17 13 rfl) (lyx_n hy 17 3 rfl) (by omega) (by omega) (fun v3335 ev3335 => ?_)
              refine WP_goto 150 dX10_told_146 rfl ?_
              exact WP_iret dX10_told_150 rfl ⟨⟨rfl, rfl, rfl⟩, v3335, rfl, by
                try simp only [ew3317, ew3318, ew3319, ew3320]
                rw [told_t (by omega) (by omega), show (a.toInt / 10 + 4).toNat = 11 by omega]
                rw [← ev3335, show v3325.toInt.toNat = (a.toInt % 10).toNat by omega]
                exact hS.2.2.2.1 (11, 1) (by decide) ((a.toInt % 10).toNat) (by show (((a.toInt % 10).toNat : Nat) : Int) < ((1 : Nat) : Int) * S.1 0 2; omega)⟩
            · refine WP_aload_n dX10_told_129 rfl ?_
              refine WP_getr dX10_told_130 fX10_130 rfl (lyx_is hy 6 7 rfl) (rfx hr 6 14 16 (by decide)) ?_
              refine WP_iload dX10_told_133 rfl ?_
              refine WE_ia dX10_told_135 (lyx_is hy 16 13 rfl) (lyx_n hy 16 3 rfl) (by omega) (by omega) (fun v3336 ev3336 => ?_)
              refine WP_goto 150 dX10_told_136 rfl ?_
              exact WP_iret dX10_told_150 rfl ⟨⟨rfl, rfl, rfl⟩, v3336, rfl, by
                try simp only [ew3317, ew3318, ew3319, ew3320]
                rw [told_t (by omega) (by omega), show (a.toInt / 10 + 4).toNat = 10 by omega]
                rw [← ev3336, show v3325.toInt.toNat = (a.toInt % 10).toNat by omega]
                exact hS.2.2.2.1 (10, 1) (by decide) ((a.toInt % 10).toNat) (by show (((a.toInt % 10).toNat : Nat) : Int) < ((1 : Nat) : Int) * S.1 0 2; omega)⟩
        · refine WP_iload_n dX10_told_108 rfl ?_
          refine WQ_bipush (7) (7) dX10_told_109 rfl rfl (fun v3337 hv3337 => ?_)
          refine WQ_icmp_ne 151 dX10_told_111 rfl (fun c3337 => ?_) (fun c3337 => ?_)
          · refine WP_iload dX10_told_151 rfl ?_
            refine WP_aload_n dX10_told_153 rfl ?_
            refine WQ_getim dX10_told_154 fX10_114 rfl (lyx_is hy 6 7 rfl) ew3317 ?_
            refine WQ_icmp_ge 170 dX10_told_157 rfl (fun c3338 => ?_) (fun c3338 => ?_)
            · refine WQ_iconst (-1) (-1) dX10_told_170 rfl rfl (fun v3340 hv3340 => ?_)
              exact WP_iret dX10_told_171 rfl ⟨⟨rfl, rfl, rfl⟩, v3340, rfl, by
                try simp only [ew3317, ew3318, ew3319, ew3320]
                rw [told_n (by omega) (by omega) (by omega) (by omega)]
                omega⟩
            · refine WP_aload_n dX10_told_160 rfl ?_
              refine WP_iload_n dX10_told_161 rfl ?_
              refine WP_iload dX10_told_162 rfl ?_
              refine WP_callS3 dX10_told_164 ⟨⟨⟨by decide, by decide⟩, zX10_toldOfSort⟩, lX10_136, tX10_toldOfSort⟩ (ex_toldOfSorta hy hr _ _  hS hB (by omega)) (Nat.le_of_ble_eq_true rfl) ?_
              intro r Ia Ja Ra hq
              obtain ⟨⟨ea, eb, ec⟩, v3342, er, p3341⟩ := hq
              rw [ea, eb, ec, er]
              clear ea eb ec er Ia Ja Ra r
              refine WP_goto 171 dX10_told_167 rfl ?_
              exact WP_iret dX10_told_171 rfl ⟨⟨rfl, rfl, rfl⟩, v3342, rfl, by
                try simp only [ew3317, ew3318, ew3319, ew3320]
                rcases p3341 with ⟨q1, q2, q3⟩ | ⟨q1, q2⟩
                · rw [told_s (by omega) (by omega), q3, show v3323.toInt.toNat = (a.toInt / 10).toNat by omega, show v3325.toInt.toNat = (a.toInt % 10).toNat by omega]
                · rw [told_n (by omega) (by omega) (by omega) (by omega)]; omega⟩
          · refine WP_iload dX10_told_114 rfl ?_
            refine WP_aload_n dX10_told_116 rfl ?_
            refine WQ_getim dX10_told_117 fX10_117 rfl (lyx_is hy 6 7 rfl) ew3318 ?_
            refine WQ_icmp_ge 149 dX10_told_120 rfl (fun c3342 => ?_) (fun c3342 => ?_)
            · refine WQ_iconst (-1) (-1) dX10_told_149 rfl rfl (fun v3344 hv3344 => ?_)
              exact WP_iret dX10_told_150 rfl ⟨⟨rfl, rfl, rfl⟩, v3344, rfl, by
                try simp only [ew3317, ew3318, ew3319, ew3320]
                rw [told_n (by omega) (by omega) (by omega) (by omega)]
                omega⟩
            · refine WP_iload_n dX10_told_123 rfl ?_
              refine WQ_bipush (6) (6) dX10_told_124 rfl rfl (fun v3345 hv3345 => ?_)
              refine WQ_icmp_ne 139 dX10_told_126 rfl (fun c3345 => ?_) (fun c3345 => ?_)
              · refine WP_aload_n dX10_told_139 rfl ?_
                refine WP_getr dX10_told_140 fX10_133 rfl (lyx_is hy 6 7 rfl) (rfx hr 6 15 17 (by decide)) ?_
                refine WP_iload dX10_told_143 rfl ?_
                refine WE_ia dX10_told_145 (lyx_is hy 17 13 rfl) (lyx_n hy 17 3 rfl) (by omega) (by omega) (fun v3347 ev3347 => ?_)
                refine WP_goto 150 dX10_told_146 rfl ?_
                exact WP_iret dX10_told_150 rfl ⟨⟨rfl, rfl, rfl⟩, v3347, rfl, by
                  try simp only [ew3317, ew3318, ew3319, ew3320]
                  rw [told_t (by omega) (by omega), show (a.toInt / 10 + 4).toNat = 11 by omega]
                  rw [← ev3347, show v3325.toInt.toNat = (a.toInt % 10).toNat by omega]
                  exact hS.2.2.2.1 (11, 1) (by decide) ((a.toInt % 10).toNat) (by show (((a.toInt % 10).toNat : Nat) : Int) < ((1 : Nat) : Int) * S.1 0 2; omega)⟩
              · refine WP_aload_n dX10_told_129 rfl ?_
                refine WP_getr dX10_told_130 fX10_130 rfl (lyx_is hy 6 7 rfl) (rfx hr 6 14 16 (by decide)) ?_
                refine WP_iload dX10_told_133 rfl ?_
                refine WE_ia dX10_told_135 (lyx_is hy 16 13 rfl) (lyx_n hy 16 3 rfl) (by omega) (by omega) (fun v3348 ev3348 => ?_)
                refine WP_goto 150 dX10_told_136 rfl ?_
                exact WP_iret dX10_told_150 rfl ⟨⟨rfl, rfl, rfl⟩, v3348, rfl, by
                  try simp only [ew3317, ew3318, ew3319, ew3320]
                  rw [told_t (by omega) (by omega), show (a.toInt / 10 + 4).toNat = 10 by omega]
                  rw [← ev3348, show v3325.toInt.toNat = (a.toInt % 10).toNat by omega]
                  exact hS.2.2.2.1 (10, 1) (by decide) ((a.toInt % 10).toNat) (by show (((a.toInt % 10).toNat : Nat) : Int) < ((1 : Nat) : Int) * S.1 0 2; omega)⟩
      · refine WP_iload dX10_told_83 rfl ?_
        refine WQ_bipush (7) (7) dX10_told_85 rfl rfl (fun v3349 hv3349 => ?_)
        refine WQ_icmp_ge 100 dX10_told_87 rfl (fun c3349 => ?_) (fun c3349 => ?_)
        · refine WQ_iconst (-1) (-1) dX10_told_100 rfl rfl (fun v3351 hv3351 => ?_)
          exact WP_iret dX10_told_101 rfl ⟨⟨rfl, rfl, rfl⟩, v3351, rfl, by
            try simp only [ew3317, ew3318, ew3319, ew3320]
            rw [told_n (by omega) (by omega) (by omega) (by omega)]
            omega⟩
        · refine WP_aload_n dX10_told_90 rfl ?_
          refine WP_getr dX10_told_91 fX10_126 rfl (lyx_is hy 6 7 rfl) (rfx hr 6 5 7 (by decide)) ?_
          refine WP_iload dX10_told_94 rfl ?_
          refine WE_ia dX10_told_96 (lyx_is hy 7 13 rfl) (lyx_n hy 7 7 rfl) (by omega) (by omega) (fun v3352 ev3352 => ?_)
          refine WP_goto 101 dX10_told_97 rfl ?_
          exact WP_iret dX10_told_101 rfl ⟨⟨rfl, rfl, rfl⟩, v3352, rfl, by
            try simp only [ew3317, ew3318, ew3319, ew3320]
            rw [told_r (by omega), ← ev3352, show v3325.toInt.toNat = (a.toInt - 10).toNat by omega]
            exact hS.2.1 _ (by omega)⟩
    · refine WQ_iconst (-1) (-1) dX10_told_76 rfl rfl (fun v3353 hv3353 => ?_)
      exact WP_iret dX10_told_77 rfl ⟨⟨rfl, rfl, rfl⟩, v3353, rfl, by
        try simp only [ew3317, ew3318, ew3319, ew3320]
        rw [told_n (by omega) (by omega) (by omega) (by omega)]
        omega⟩
  · have hlt : j < 4 := by have := (Array.getElem?_eq_some_iff.mp hj).1; simpa using this
    have hcs : (j = 0 ∧ off = 31) ∨ (j = 1 ∧ off = 36) ∨ (j = 2 ∧ off = 41) ∨ (j = 3 ∧ off = 46) := by
      match j, hlt, hj with
      | 0, _, hj => exact Or.inl ⟨rfl, (Option.some.inj hj).symm⟩
      | 1, _, hj => exact Or.inr (Or.inl ⟨rfl, (Option.some.inj hj).symm⟩)
      | 2, _, hj => exact Or.inr (Or.inr (Or.inl ⟨rfl, (Option.some.inj hj).symm⟩))
      | 3, _, hj => exact Or.inr (Or.inr (Or.inr (⟨rfl, (Option.some.inj hj).symm⟩)))
    clear hj hlt
    rcases hcs with ⟨rfl, rfl⟩ | ⟨rfl, rfl⟩ | ⟨rfl, rfl⟩ | ⟨rfl, rfl⟩
    · show WP _ _ 40 _ _ _ _ _ _
      refine WP_aload_n dX10_told_40 rfl ?_
      refine WQ_getim dX10_told_41 fX10_114 rfl (lyx_is hy 6 7 rfl) ew3317 ?_
      exact WP_iret dX10_told_44 rfl ⟨⟨rfl, rfl, rfl⟩, w3317, rfl, by
        try simp only [ew3317, ew3318, ew3319, ew3320]
        unfold toldS
        rw [if_pos (by omega)]
        omega⟩
    · show WP _ _ 45 _ _ _ _ _ _
      refine WP_aload_n dX10_told_45 rfl ?_
      refine WQ_getim dX10_told_46 fX10_117 rfl (lyx_is hy 6 7 rfl) ew3318 ?_
      exact WP_iret dX10_told_49 rfl ⟨⟨rfl, rfl, rfl⟩, w3318, rfl, by
        try simp only [ew3317, ew3318, ew3319, ew3320]
        unfold toldS
        rw [if_neg (by omega), if_pos (by omega)]
        omega⟩
    · show WP _ _ 50 _ _ _ _ _ _
      refine WP_aload_n dX10_told_50 rfl ?_
      refine WQ_getim dX10_told_51 fX10_120 rfl (lyx_is hy 6 7 rfl) ew3319 ?_
      exact WP_iret dX10_told_54 rfl ⟨⟨rfl, rfl, rfl⟩, w3319, rfl, by
        try simp only [ew3317, ew3318, ew3319, ew3320]
        unfold toldS
        rw [if_neg (by omega), if_neg (by omega), if_pos (by omega)]
        omega⟩
    · show WP _ _ 55 _ _ _ _ _ _
      refine WP_aload_n dX10_told_55 rfl ?_
      refine WQ_getim dX10_told_56 fX10_123 rfl (lyx_is hy 6 7 rfl) ew3320 ?_
      exact WP_iret dX10_told_59 rfl ⟨⟨rfl, rfl, rfl⟩, w3320, rfl, by
        try simp only [ew3317, ew3318, ew3319, ew3320]
        unfold toldS
        rw [if_neg (by omega), if_neg (by omega), if_neg (by omega), if_pos (by omega)]
        omega⟩
theorem ax_tolda {g : GG} {I : pI} {J : pJ} {R : pR} (hy : LyX g) (hr : RfX g R) {S : TwS} (a : Int32) (hT : R (ad g 5) 0 = some (ad g 6)) (hS : RTW g 6 S I J) (hB : SBn S) : SP g mX10_told [.ref (ad g 0), .int a] I J R (fun r _ _ _ => ∃ v : Int32, r = some (.int v) ∧ v.toInt = toldS S a.toInt) := SP_wk (ex_tolda hy hr a hT hS hB) (fun r I9 J9 R9 q => q.2)
set_option maxHeartbeats 4000000 in
set_option maxRecDepth 100000 in
theorem ex_isSortb {g : GG} {I : pI} {J : pJ} {R : pR} (hy : LyX g) (hr : RfX g R) {S : TwS} (s : Int32) (hT : R (ad g 5) 0 = some (ad g 27)) (hS : RTW g 27 S I J) (hB : SBn S) : SP g mX10_isSort [.ref (ad g 0), .int s] I J R (fun r I' J' R' => (I' = I ∧ J' = J ∧ R' = R) ∧ ∃ v : Int32, r = some (.int v) ∧ ((v.toInt = 1 ∧ 0 ≤ s.toInt ∧ s.toInt < S.1 0 1) ∨ (v.toInt = 0 ∧ ¬ (0 ≤ s.toInt ∧ s.toInt < S.1 0 1)))) := by
  refine SP_of ⟨by decide, rfl⟩ (Nat.le_of_ble_eq_true rfl) ?_
  have hB2 := hB
  unfold SBn at hB2
  obtain ⟨z0, z1, z2, z3, z4⟩ := hS.1
  obtain ⟨w3400, ew3400⟩ : ∃ w : Int32, I (ad g 27) 1 = w := ⟨_, rfl⟩
  try simp only [ew3400] at z1
  refine WP_iload_n dX10_isSort_0 rfl ?_
  refine WQ_if_lt 22 dX10_isSort_1 rfl (fun c3400 => ?_) (fun c3400 => ?_)
  · refine WQ_iconst (0) (0) dX10_isSort_22 rfl rfl (fun v3402 hv3402 => ?_)
    exact WP_zret dX10_isSort_23 rfl (nar_z (by omega)) ⟨⟨rfl, rfl, rfl⟩, v3402, rfl, by
      try simp only [ew3400]
      first
      | exact Or.inl ⟨by omega, by omega, by omega⟩
      | exact Or.inr ⟨by omega, by omega⟩⟩
  · refine WP_iload_n dX10_isSort_4 rfl ?_
    refine WP_aload_n dX10_isSort_5 rfl ?_
    refine WP_getr dX10_isSort_6 fX10_33 rfl (lyx_is hy 0 10 rfl) (rfx hr 0 2 5 (by decide)) ?_
    refine WP_getr dX10_isSort_9 fX10_102 rfl (lyx_is hy 5 0 rfl) hT ?_
    refine WQ_getim dX10_isSort_12 fX10_114 rfl (lyx_is hy 27 7 rfl) ew3400 ?_
    refine WQ_icmp_ge 22 dX10_isSort_15 rfl (fun c3402 => ?_) (fun c3402 => ?_)
    · refine WQ_iconst (0) (0) dX10_isSort_22 rfl rfl (fun v3404 hv3404 => ?_)
      exact WP_zret dX10_isSort_23 rfl (nar_z (by omega)) ⟨⟨rfl, rfl, rfl⟩, v3404, rfl, by
        try simp only [ew3400]
        first
        | exact Or.inl ⟨by omega, by omega, by omega⟩
        | exact Or.inr ⟨by omega, by omega⟩⟩
    · refine WQ_iconst (1) (1) dX10_isSort_18 rfl rfl (fun v3405 hv3405 => ?_)
      refine WP_goto 23 dX10_isSort_19 rfl ?_
      exact WP_zret dX10_isSort_23 rfl (nar_z (by omega)) ⟨⟨rfl, rfl, rfl⟩, v3405, rfl, by
        try simp only [ew3400]
        first
        | exact Or.inl ⟨by omega, by omega, by omega⟩
        | exact Or.inr ⟨by omega, by omega⟩⟩
set_option maxHeartbeats 4000000 in
set_option maxRecDepth 100000 in
theorem ex_toldOfSortb {g : GG} {I : pI} {J : pJ} {R : pR} (hy : LyX g) (hr : RfX g R) {S : TwS} (r9 : Int32) (k : Int32) (hS : RTW g 27 S I J) (hB : SBn S) (hk : 0 ≤ k.toInt ∧ k.toInt < S.1 0 1) : SP g mX10_toldOfSort [.ref (ad g 27), .int r9, .int k] I J R (fun r I' J' R' => (I' = I ∧ J' = J ∧ R' = R) ∧ ∃ v : Int32, r = some (.int v) ∧ ((2 ≤ r9.toInt ∧ r9.toInt ≤ 5 ∧ v.toInt = S.1 r9.toInt.toNat k.toInt.toNat) ∨ ((r9.toInt < 2 ∨ 5 < r9.toInt) ∧ v.toInt = -1))) := by
  refine SP_of ⟨by decide, rfl⟩ (Nat.le_of_ble_eq_true rfl) ?_
  have hB2 := hB
  unfold SBn at hB2
  obtain ⟨z0, z1, z2, z3, z4⟩ := hS.1
  refine WP_iload_n dX10_toldOfSort_0 rfl ?_
  refine WP_tab 60 dX10_toldOfSort_1 rfl rfl (fun c3411 => ?_) (fun j off c3411 hj => ?_) (by decide)
  · refine WQ_iconst (-1) (-1) dX10_toldOfSort_60 rfl rfl (fun v3413 hv3413 => ?_)
    exact WP_iret dX10_toldOfSort_61 rfl ⟨⟨rfl, rfl, rfl⟩, v3413, rfl, by
      exact Or.inr ⟨by omega, by omega⟩⟩
  · have hlt : j < 4 := by have := (Array.getElem?_eq_some_iff.mp hj).1; simpa using this
    have hcs : (j = 0 ∧ off = 31) ∨ (j = 1 ∧ off = 38) ∨ (j = 2 ∧ off = 45) ∨ (j = 3 ∧ off = 52) := by
      match j, hlt, hj with
      | 0, _, hj => exact Or.inl ⟨rfl, (Option.some.inj hj).symm⟩
      | 1, _, hj => exact Or.inr (Or.inl ⟨rfl, (Option.some.inj hj).symm⟩)
      | 2, _, hj => exact Or.inr (Or.inr (Or.inl ⟨rfl, (Option.some.inj hj).symm⟩))
      | 3, _, hj => exact Or.inr (Or.inr (Or.inr (⟨rfl, (Option.some.inj hj).symm⟩)))
    clear hj hlt
    rcases hcs with ⟨rfl, rfl⟩ | ⟨rfl, rfl⟩ | ⟨rfl, rfl⟩ | ⟨rfl, rfl⟩
    · show WP _ _ 32 _ _ _ _ _ _
      refine WP_aload_n dX10_toldOfSort_32 rfl ?_
      refine WP_getr dX10_toldOfSort_33 fX10_140 rfl (lyx_is hy 27 7 rfl) (rfx hr 27 6 29 (by decide)) ?_
      refine WP_iload_n dX10_toldOfSort_36 rfl ?_
      refine WE_ia dX10_toldOfSort_37 (lyx_is hy 29 13 rfl) (lyx_n hy 29 4 rfl) (by omega) (by omega) (fun v3414 ev3414 => ?_)
      exact WP_iret dX10_toldOfSort_38 rfl ⟨⟨rfl, rfl, rfl⟩, v3414, rfl, by
        refine Or.inl ⟨by omega, by omega, ?_⟩
        rw [show r9.toInt.toNat = 2 by omega]
        rw [← ev3414, show k.toInt.toNat = k.toInt.toNat by omega]
        exact hS.2.2.1 (2, 1) (by decide) (k.toInt.toNat) (by show ((k.toInt.toNat : Nat) : Int) < ((1 : Nat) : Int) * S.1 0 1; omega)⟩
    · show WP _ _ 39 _ _ _ _ _ _
      refine WP_aload_n dX10_toldOfSort_39 rfl ?_
      refine WP_getr dX10_toldOfSort_40 fX10_143 rfl (lyx_is hy 27 7 rfl) (rfx hr 27 7 30 (by decide)) ?_
      refine WP_iload_n dX10_toldOfSort_43 rfl ?_
      refine WE_ia dX10_toldOfSort_44 (lyx_is hy 30 13 rfl) (lyx_n hy 30 4 rfl) (by omega) (by omega) (fun v3415 ev3415 => ?_)
      exact WP_iret dX10_toldOfSort_45 rfl ⟨⟨rfl, rfl, rfl⟩, v3415, rfl, by
        refine Or.inl ⟨by omega, by omega, ?_⟩
        rw [show r9.toInt.toNat = 3 by omega]
        rw [← ev3415, show k.toInt.toNat = k.toInt.toNat by omega]
        exact hS.2.2.1 (3, 1) (by decide) (k.toInt.toNat) (by show ((k.toInt.toNat : Nat) : Int) < ((1 : Nat) : Int) * S.1 0 1; omega)⟩
    · show WP _ _ 46 _ _ _ _ _ _
      refine WP_aload_n dX10_toldOfSort_46 rfl ?_
      refine WP_getr dX10_toldOfSort_47 fX10_146 rfl (lyx_is hy 27 7 rfl) (rfx hr 27 8 31 (by decide)) ?_
      refine WP_iload_n dX10_toldOfSort_50 rfl ?_
      refine WE_ia dX10_toldOfSort_51 (lyx_is hy 31 13 rfl) (lyx_n hy 31 4 rfl) (by omega) (by omega) (fun v3416 ev3416 => ?_)
      exact WP_iret dX10_toldOfSort_52 rfl ⟨⟨rfl, rfl, rfl⟩, v3416, rfl, by
        refine Or.inl ⟨by omega, by omega, ?_⟩
        rw [show r9.toInt.toNat = 4 by omega]
        rw [← ev3416, show k.toInt.toNat = k.toInt.toNat by omega]
        exact hS.2.2.1 (4, 1) (by decide) (k.toInt.toNat) (by show ((k.toInt.toNat : Nat) : Int) < ((1 : Nat) : Int) * S.1 0 1; omega)⟩
    · show WP _ _ 53 _ _ _ _ _ _
      refine WP_aload_n dX10_toldOfSort_53 rfl ?_
      refine WP_getr dX10_toldOfSort_54 fX10_149 rfl (lyx_is hy 27 7 rfl) (rfx hr 27 9 32 (by decide)) ?_
      refine WP_iload_n dX10_toldOfSort_57 rfl ?_
      refine WE_ia dX10_toldOfSort_58 (lyx_is hy 32 13 rfl) (lyx_n hy 32 4 rfl) (by omega) (by omega) (fun v3417 ev3417 => ?_)
      exact WP_iret dX10_toldOfSort_59 rfl ⟨⟨rfl, rfl, rfl⟩, v3417, rfl, by
        refine Or.inl ⟨by omega, by omega, ?_⟩
        rw [show r9.toInt.toNat = 5 by omega]
        rw [← ev3417, show k.toInt.toNat = k.toInt.toNat by omega]
        exact hS.2.2.1 (5, 1) (by decide) (k.toInt.toNat) (by show ((k.toInt.toNat : Nat) : Int) < ((1 : Nat) : Int) * S.1 0 1; omega)⟩
set_option maxHeartbeats 4000000 in
set_option maxRecDepth 100000 in
theorem ex_toldb {g : GG} {I : pI} {J : pJ} {R : pR} (hy : LyX g) (hr : RfX g R) {S : TwS} (a : Int32) (hT : R (ad g 5) 0 = some (ad g 27)) (hS : RTW g 27 S I J) (hB : SBn S) : SP g mX10_told [.ref (ad g 0), .int a] I J R (fun r I' J' R' => (I' = I ∧ J' = J ∧ R' = R) ∧ ∃ v : Int32, r = some (.int v) ∧ (v.toInt = toldS S a.toInt)) := by
  refine SP_of ⟨by decide, rfl⟩ (Nat.le_of_ble_eq_true rfl) ?_
  have hB2 := hB
  unfold SBn at hB2
  obtain ⟨z0, z1, z2, z3, z4⟩ := hS.1
  obtain ⟨w3418, ew3418⟩ : ∃ w : Int32, I (ad g 27) 1 = w := ⟨_, rfl⟩
  obtain ⟨w3419, ew3419⟩ : ∃ w : Int32, I (ad g 27) 2 = w := ⟨_, rfl⟩
  obtain ⟨w3420, ew3420⟩ : ∃ w : Int32, I (ad g 27) 3 = w := ⟨_, rfl⟩
  obtain ⟨w3421, ew3421⟩ : ∃ w : Int32, I (ad g 27) 4 = w := ⟨_, rfl⟩
  try simp only [ew3418, ew3419, ew3420, ew3421] at z1 z2 z3 z4
  refine WP_aload_n dX10_told_0 rfl ?_
  refine WP_getr dX10_told_1 fX10_33 rfl (lyx_is hy 0 10 rfl) (rfx hr 0 2 5 (by decide)) ?_
  refine WP_getr dX10_told_4 fX10_102 rfl (lyx_is hy 5 0 rfl) hT ?_
  refine WP_astore_n (ls' := [(0, _), (1, _), (2, _)]) dX10_told_7 (by decide) rfl ?_
  refine WP_iload_n dX10_told_8 rfl ?_
  refine WP_tab 60 dX10_told_9 rfl rfl (fun c3421 => ?_) (fun j off c3421 hj => ?_) (by decide)
  · refine WP_iload_n dX10_told_60 rfl ?_
    refine WQ_bipush (10) (10) dX10_told_61 rfl rfl (fun v3423 hv3423 => ?_)
    refine WE_idivs (10) dX10_told_63 hv3423 (by decide) (fun v3424 hv3424 nv3424 => ?_)
    refine WP_istore_n (ls' := [(0, _), (1, _), (2, _), (3, _)]) dX10_told_64 (by decide) rfl ?_
    refine WP_iload_n dX10_told_65 rfl ?_
    refine WQ_bipush (10) (10) dX10_told_66 rfl rfl (fun v3425 hv3425 => ?_)
    refine WE_irems (10) dX10_told_68 hv3425 (by decide) (fun v3426 hv3426 nv3426 => ?_)
    refine WP_istore (ls' := [(0, _), (1, _), (2, _), (3, _), (4, _)]) dX10_told_69 (by decide) rfl ?_
    refine WP_iload dX10_told_71 rfl ?_
    refine WQ_if_ge 78 dX10_told_73 rfl (fun c3426 => ?_) (fun c3426 => ?_)
    · refine WP_iload_n dX10_told_78 rfl ?_
      refine WQ_iconst (1) (1) dX10_told_79 rfl rfl (fun v3428 hv3428 => ?_)
      refine WQ_icmp_ne 102 dX10_told_80 rfl (fun c3428 => ?_) (fun c3428 => ?_)
      · refine WP_iload_n dX10_told_102 rfl ?_
        refine WQ_bipush (6) (6) dX10_told_103 rfl rfl (fun v3430 hv3430 => ?_)
        refine WQ_icmp_eq 114 dX10_told_105 rfl (fun c3430 => ?_) (fun c3430 => ?_)
        · refine WP_iload dX10_told_114 rfl ?_
          refine WP_aload_n dX10_told_116 rfl ?_
          refine WQ_getim dX10_told_117 fX10_117 rfl (lyx_is hy 27 7 rfl) ew3419 ?_
          refine WQ_icmp_ge 149 dX10_told_120 rfl (fun c3431 => ?_) (fun c3431 => ?_)
          · refine WQ_iconst (-1) (-1) dX10_told_149 rfl rfl (fun v3433 hv3433 => ?_)
            exact WP_iret dX10_told_150 rfl ⟨⟨rfl, rfl, rfl⟩, v3433, rfl, by
              try simp only [ew3418, ew3419, ew3420, ew3421]
              rw [told_n (by omega) (by omega) (by omega) (by omega)]
              omega⟩
          · refine WP_iload_n dX10_told_123 rfl ?_
            refine WQ_bipush (6) (6) dX10_told_124 rfl rfl (fun v3434 hv3434 => ?_)
            refine WQ_icmp_ne 139 dX10_told_126 rfl (fun c3434 => ?_) (fun c3434 => ?_)
            · refine WP_aload_n dX10_told_139 rfl ?_
              refine WP_getr dX10_told_140 fX10_133 rfl (lyx_is hy 27 7 rfl) (rfx hr 27 15 38 (by decide)) ?_
              refine WP_iload dX10_told_143 rfl ?_
              refine WE_ia dX10_told_145 (lyx_is hy 38 13 rfl) (lyx_n hy 38 3 rfl) (by omega) (by omega) (fun v3436 ev3436 => ?_)
              refine WP_goto 150 dX10_told_146 rfl ?_
              exact WP_iret dX10_told_150 rfl ⟨⟨rfl, rfl, rfl⟩, v3436, rfl, by
                try simp only [ew3418, ew3419, ew3420, ew3421]
                rw [told_t (by omega) (by omega), show (a.toInt / 10 + 4).toNat = 11 by omega]
                rw [← ev3436, show v3426.toInt.toNat = (a.toInt % 10).toNat by omega]
                exact hS.2.2.2.1 (11, 1) (by decide) ((a.toInt % 10).toNat) (by show (((a.toInt % 10).toNat : Nat) : Int) < ((1 : Nat) : Int) * S.1 0 2; omega)⟩
            · refine WP_aload_n dX10_told_129 rfl ?_
              refine WP_getr dX10_told_130 fX10_130 rfl (lyx_is hy 27 7 rfl) (rfx hr 27 14 37 (by decide)) ?_
              refine WP_iload dX10_told_133 rfl ?_
              refine WE_ia dX10_told_135 (lyx_is hy 37 13 rfl) (lyx_n hy 37 3 rfl) (by omega) (by omega) (fun v3437 ev3437 => ?_)
              refine WP_goto 150 dX10_told_136 rfl ?_
              exact WP_iret dX10_told_150 rfl ⟨⟨rfl, rfl, rfl⟩, v3437, rfl, by
                try simp only [ew3418, ew3419, ew3420, ew3421]
                rw [told_t (by omega) (by omega), show (a.toInt / 10 + 4).toNat = 10 by omega]
                rw [← ev3437, show v3426.toInt.toNat = (a.toInt % 10).toNat by omega]
                exact hS.2.2.2.1 (10, 1) (by decide) ((a.toInt % 10).toNat) (by show (((a.toInt % 10).toNat : Nat) : Int) < ((1 : Nat) : Int) * S.1 0 2; omega)⟩
        · refine WP_iload_n dX10_told_108 rfl ?_
          refine WQ_bipush (7) (7) dX10_told_109 rfl rfl (fun v3438 hv3438 => ?_)
          refine WQ_icmp_ne 151 dX10_told_111 rfl (fun c3438 => ?_) (fun c3438 => ?_)
          · refine WP_iload dX10_told_151 rfl ?_
            refine WP_aload_n dX10_told_153 rfl ?_
            refine WQ_getim dX10_told_154 fX10_114 rfl (lyx_is hy 27 7 rfl) ew3418 ?_
            refine WQ_icmp_ge 170 dX10_told_157 rfl (fun c3439 => ?_) (fun c3439 => ?_)
            · refine WQ_iconst (-1) (-1) dX10_told_170 rfl rfl (fun v3441 hv3441 => ?_)
              exact WP_iret dX10_told_171 rfl ⟨⟨rfl, rfl, rfl⟩, v3441, rfl, by
                try simp only [ew3418, ew3419, ew3420, ew3421]
                rw [told_n (by omega) (by omega) (by omega) (by omega)]
                omega⟩
            · refine WP_aload_n dX10_told_160 rfl ?_
              refine WP_iload_n dX10_told_161 rfl ?_
              refine WP_iload dX10_told_162 rfl ?_
              refine WP_callS3 dX10_told_164 ⟨⟨⟨by decide, by decide⟩, zX10_toldOfSort⟩, lX10_136, tX10_toldOfSort⟩ (ex_toldOfSortb hy hr _ _  hS hB (by omega)) (Nat.le_of_ble_eq_true rfl) ?_
              intro r Ia Ja Ra hq
              obtain ⟨⟨ea, eb, ec⟩, v3443, er, p3442⟩ := hq
              rw [ea, eb, ec, er]
              clear ea eb ec er Ia Ja Ra r
              refine WP_goto 171 dX10_told_167 rfl ?_
              exact WP_iret dX10_told_171 rfl ⟨⟨rfl, rfl, rfl⟩, v3443, rfl, by
                try simp only [ew3418, ew3419, ew3420, ew3421]
                rcases p3442 with ⟨q1, q2, q3⟩ | ⟨q1, q2⟩
                · rw [told_s (by omega) (by omega), q3, show v3424.toInt.toNat = (a.toInt / 10).toNat by omega, show v3426.toInt.toNat = (a.toInt % 10).toNat by omega]
                · rw [told_n (by omega) (by omega) (by omega) (by omega)]; omega⟩
          · refine WP_iload dX10_told_114 rfl ?_
            refine WP_aload_n dX10_told_116 rfl ?_
            refine WQ_getim dX10_told_117 fX10_117 rfl (lyx_is hy 27 7 rfl) ew3419 ?_
            refine WQ_icmp_ge 149 dX10_told_120 rfl (fun c3443 => ?_) (fun c3443 => ?_)
            · refine WQ_iconst (-1) (-1) dX10_told_149 rfl rfl (fun v3445 hv3445 => ?_)
              exact WP_iret dX10_told_150 rfl ⟨⟨rfl, rfl, rfl⟩, v3445, rfl, by
                try simp only [ew3418, ew3419, ew3420, ew3421]
                rw [told_n (by omega) (by omega) (by omega) (by omega)]
                omega⟩
            · refine WP_iload_n dX10_told_123 rfl ?_
              refine WQ_bipush (6) (6) dX10_told_124 rfl rfl (fun v3446 hv3446 => ?_)
              refine WQ_icmp_ne 139 dX10_told_126 rfl (fun c3446 => ?_) (fun c3446 => ?_)
              · refine WP_aload_n dX10_told_139 rfl ?_
                refine WP_getr dX10_told_140 fX10_133 rfl (lyx_is hy 27 7 rfl) (rfx hr 27 15 38 (by decide)) ?_
                refine WP_iload dX10_told_143 rfl ?_
                refine WE_ia dX10_told_145 (lyx_is hy 38 13 rfl) (lyx_n hy 38 3 rfl) (by omega) (by omega) (fun v3448 ev3448 => ?_)
                refine WP_goto 150 dX10_told_146 rfl ?_
                exact WP_iret dX10_told_150 rfl ⟨⟨rfl, rfl, rfl⟩, v3448, rfl, by
                  try simp only [ew3418, ew3419, ew3420, ew3421]
                  rw [told_t (by omega) (by omega), show (a.toInt / 10 + 4).toNat = 11 by omega]
                  rw [← ev3448, show v3426.toInt.toNat = (a.toInt % 10).toNat by omega]
                  exact hS.2.2.2.1 (11, 1) (by decide) ((a.toInt % 10).toNat) (by show (((a.toInt % 10).toNat : Nat) : Int) < ((1 : Nat) : Int) * S.1 0 2; omega)⟩
              · refine WP_aload_n dX10_told_129 rfl ?_
                refine WP_getr dX10_told_130 fX10_130 rfl (lyx_is hy 27 7 rfl) (rfx hr 27 14 37 (by decide)) ?_
                refine WP_iload dX10_told_133 rfl ?_
                refine WE_ia dX10_told_135 (lyx_is hy 37 13 rfl) (lyx_n hy 37 3 rfl) (by omega) (by omega) (fun v3449 ev3449 => ?_)
                refine WP_goto 150 dX10_told_136 rfl ?_
                exact WP_iret dX10_told_150 rfl ⟨⟨rfl, rfl, rfl⟩, v3449, rfl, by
                  try simp only [ew3418, ew3419, ew3420, ew3421]
                  rw [told_t (by omega) (by omega), show (a.toInt / 10 + 4).toNat = 10 by omega]
                  rw [← ev3449, show v3426.toInt.toNat = (a.toInt % 10).toNat by omega]
                  exact hS.2.2.2.1 (10, 1) (by decide) ((a.toInt % 10).toNat) (by show (((a.toInt % 10).toNat : Nat) : Int) < ((1 : Nat) : Int) * S.1 0 2; omega)⟩
      · refine WP_iload dX10_told_83 rfl ?_
        refine WQ_bipush (7) (7) dX10_told_85 rfl rfl (fun v3450 hv3450 => ?_)
        refine WQ_icmp_ge 100 dX10_told_87 rfl (fun c3450 => ?_) (fun c3450 => ?_)
        · refine WQ_iconst (-1) (-1) dX10_told_100 rfl rfl (fun v3452 hv3452 => ?_)
          exact WP_iret dX10_told_101 rfl ⟨⟨rfl, rfl, rfl⟩, v3452, rfl, by
            try simp only [ew3418, ew3419, ew3420, ew3421]
            rw [told_n (by omega) (by omega) (by omega) (by omega)]
            omega⟩
        · refine WP_aload_n dX10_told_90 rfl ?_
          refine WP_getr dX10_told_91 fX10_126 rfl (lyx_is hy 27 7 rfl) (rfx hr 27 5 28 (by decide)) ?_
          refine WP_iload dX10_told_94 rfl ?_
          refine WE_ia dX10_told_96 (lyx_is hy 28 13 rfl) (lyx_n hy 28 7 rfl) (by omega) (by omega) (fun v3453 ev3453 => ?_)
          refine WP_goto 101 dX10_told_97 rfl ?_
          exact WP_iret dX10_told_101 rfl ⟨⟨rfl, rfl, rfl⟩, v3453, rfl, by
            try simp only [ew3418, ew3419, ew3420, ew3421]
            rw [told_r (by omega), ← ev3453, show v3426.toInt.toNat = (a.toInt - 10).toNat by omega]
            exact hS.2.1 _ (by omega)⟩
    · refine WQ_iconst (-1) (-1) dX10_told_76 rfl rfl (fun v3454 hv3454 => ?_)
      exact WP_iret dX10_told_77 rfl ⟨⟨rfl, rfl, rfl⟩, v3454, rfl, by
        try simp only [ew3418, ew3419, ew3420, ew3421]
        rw [told_n (by omega) (by omega) (by omega) (by omega)]
        omega⟩
  · have hlt : j < 4 := by have := (Array.getElem?_eq_some_iff.mp hj).1; simpa using this
    have hcs : (j = 0 ∧ off = 31) ∨ (j = 1 ∧ off = 36) ∨ (j = 2 ∧ off = 41) ∨ (j = 3 ∧ off = 46) := by
      match j, hlt, hj with
      | 0, _, hj => exact Or.inl ⟨rfl, (Option.some.inj hj).symm⟩
      | 1, _, hj => exact Or.inr (Or.inl ⟨rfl, (Option.some.inj hj).symm⟩)
      | 2, _, hj => exact Or.inr (Or.inr (Or.inl ⟨rfl, (Option.some.inj hj).symm⟩))
      | 3, _, hj => exact Or.inr (Or.inr (Or.inr (⟨rfl, (Option.some.inj hj).symm⟩)))
    clear hj hlt
    rcases hcs with ⟨rfl, rfl⟩ | ⟨rfl, rfl⟩ | ⟨rfl, rfl⟩ | ⟨rfl, rfl⟩
    · show WP _ _ 40 _ _ _ _ _ _
      refine WP_aload_n dX10_told_40 rfl ?_
      refine WQ_getim dX10_told_41 fX10_114 rfl (lyx_is hy 27 7 rfl) ew3418 ?_
      exact WP_iret dX10_told_44 rfl ⟨⟨rfl, rfl, rfl⟩, w3418, rfl, by
        try simp only [ew3418, ew3419, ew3420, ew3421]
        unfold toldS
        rw [if_pos (by omega)]
        omega⟩
    · show WP _ _ 45 _ _ _ _ _ _
      refine WP_aload_n dX10_told_45 rfl ?_
      refine WQ_getim dX10_told_46 fX10_117 rfl (lyx_is hy 27 7 rfl) ew3419 ?_
      exact WP_iret dX10_told_49 rfl ⟨⟨rfl, rfl, rfl⟩, w3419, rfl, by
        try simp only [ew3418, ew3419, ew3420, ew3421]
        unfold toldS
        rw [if_neg (by omega), if_pos (by omega)]
        omega⟩
    · show WP _ _ 50 _ _ _ _ _ _
      refine WP_aload_n dX10_told_50 rfl ?_
      refine WQ_getim dX10_told_51 fX10_120 rfl (lyx_is hy 27 7 rfl) ew3420 ?_
      exact WP_iret dX10_told_54 rfl ⟨⟨rfl, rfl, rfl⟩, w3420, rfl, by
        try simp only [ew3418, ew3419, ew3420, ew3421]
        unfold toldS
        rw [if_neg (by omega), if_neg (by omega), if_pos (by omega)]
        omega⟩
    · show WP _ _ 55 _ _ _ _ _ _
      refine WP_aload_n dX10_told_55 rfl ?_
      refine WQ_getim dX10_told_56 fX10_123 rfl (lyx_is hy 27 7 rfl) ew3421 ?_
      exact WP_iret dX10_told_59 rfl ⟨⟨rfl, rfl, rfl⟩, w3421, rfl, by
        try simp only [ew3418, ew3419, ew3420, ew3421]
        unfold toldS
        rw [if_neg (by omega), if_neg (by omega), if_neg (by omega), if_pos (by omega)]
        omega⟩
theorem ax_toldb {g : GG} {I : pI} {J : pJ} {R : pR} (hy : LyX g) (hr : RfX g R) {S : TwS} (a : Int32) (hT : R (ad g 5) 0 = some (ad g 27)) (hS : RTW g 27 S I J) (hB : SBn S) : SP g mX10_told [.ref (ad g 0), .int a] I J R (fun r _ _ _ => ∃ v : Int32, r = some (.int v) ∧ v.toInt = toldS S a.toInt) := SP_wk (ex_toldb hy hr a hT hS hB) (fun r I9 J9 R9 q => q.2)
