def TM : List BR := [(0, 1, 2, 0, 0, 900), (0, 2, 3, 0, 0, 900), (0, 3, 4, 0, 0, 900), (0, 4, 5, 0, 0, 900), (0, 5, 6, 0, 0, 4), (0, 7, 8, -1, 0, 1000), (0, 10, 11, 0, 0, 4), (0, 11, 12, 0, 0, 3), (0, 13, 14, -1, 0, 3), (0, 14, 15, -1, 0, 2), (0, 15, 16, 0, 0, 4), (0, 16, 17, 0, 0, 3), (0, 17, 18, -1, 0, 3), (0, 18, 19, -1, 0, 2), (0, 55, 56, -1, 0, 900), (0, 56, 57, 0, 0, 47), (0, 64, 65, 0, 0, 1), (0, 70, 71, 0, 0, 1), (6, 0, 7, 0, 0, 900), (7, 0, 7, 0, 0, 900), (8, 0, 4, 0, 0, 99), (14, 0, 4, 0, 0, 99), (9, 0, 4, 0, 0, 1000), (15, 0, 4, 0, 0, 1000), (10, 0, 4, 0, 0, 60), (16, 0, 4, 0, 0, 60), (11, 0, 4, 0, 0, 127), (17, 0, 4, 0, 0, 127), (12, 0, 3, 0, 0, 1000), (18, 0, 3, 0, 0, 1000), (13, 0, 3, 0, 0, 9), (19, 0, 3, 0, 0, 9), (20, 0, 28, 0, 0, 20), (27, 0, 28, 0, 0, 20), (21, 0, 21, 0, 0, 20), (22, 0, 21, 0, 0, 20), (28, 0, 21, 0, 0, 20), (23, 0, 21, -1, 0, 999), (29, 0, 21, -1, 0, 999), (24, 0, 28, -1, 0, 2), (30, 0, 28, -1, 0, 2), (25, 0, 28, 0, 0, 3), (31, 0, 28, 0, 0, 3), (26, 0, 28, 0, 0, 99), (32, 0, 28, 0, 0, 99), (40, 0, 3, 0, 0, 1000000), (36, 0, 10248, 0, 0, 3564), (38, 0, 4, 0, 0, 60), (38, 4, 8, 0, 0, 5), (38, 32, 33, 0, 23760, 0), (38, 33, 34, 0, 1, 0), (39, 0, 4, 0, 0, 60), (39, 4, 8, 0, 0, 5), (39, 32, 33, 0, 23760, 700000), (39, 33, 34, 0, 1, 30), (42, 0, 4, 0, 0, 60), (42, 4, 8, 0, 0, 5), (42, 32, 33, 0, 23760, 0), (42, 33, 34, 0, 1, 0), (42, 35, 39, 0, 0, 60), (42, 39, 43, 0, 0, 5), (42, 67, 68, 0, 23760, 0), (42, 68, 69, 0, 1, 0), (42, 70, 74, 0, 0, 60), (42, 74, 78, 0, 0, 5), (42, 102, 103, 0, 23760, 0), (42, 103, 104, 0, 1, 0)]
def MI (g : GG) (n : Int) (L : Int32) (I : pI) : Prop := BT g TM n I ∧ I (ad g 0) 1 = L
theorem TM_lt : ∀ e ∈ TM, e.1 < 49 := by decide
theorem mi_ne {g : GG} (hy : Ly g) {c : Nat} (hc : c < 49) : ∀ e ∈ TM, e.1 ≠ c → ad g e.1 ≠ ad g c := fun e he h => ly_ne hy h (TM_lt e he) hc
theorem mi_keep {g : GG} {n : Int} {L : Int32} {I : pI} (hy : Ly g) (h : MI g n L I) {c q : Nat} {v : Int32} (hc : c < 49) (ht : c ≠ 0 ∨ q ≠ 1) (hv : ∀ e ∈ TM, e.1 = c → e.2.1 ≤ q → q < e.2.2.1 → e.2.2.2.1 ≤ v.toInt ∧ v.toInt ≤ e.2.2.2.2.1 * n + e.2.2.2.2.2) : MI g n L (pp I (ad g c) q v) := by
  refine ⟨BT_pp h.1 (mi_ne hy hc) hv, ?_⟩
  rw [pp_ne, h.2]
  rcases ht with ht | ht
  · exact Or.inl (ly_ne hy (Ne.symm ht) (by decide) hc)
  · exact Or.inr (Ne.symm ht)
theorem mi_f {g : GG} {n : Int} {L : Int32} {I : pI} (hy : Ly g) (h : MI g n L I) {c q : Nat} {v : Int32} (lo a b : Int) (hc : c < 49) (ht : c ≠ 0 ∨ q ≠ 1) (hk : (TM.all fun e => e.1 != c || decide (q < e.2.1) || decide (e.2.2.1 ≤ q) || (e.2.2.2.1 == lo && e.2.2.2.2.1 == a && e.2.2.2.2.2 == b)) = true) (h1 : lo ≤ v.toInt) (h2 : v.toInt ≤ a * n + b) : MI g n L (pp I (ad g c) q v) := by
  refine mi_keep hy h hc ht (fun e he e1 e2 e3 => ?_)
  have q1 := List.all_eq_true.mp hk e he
  simp only [e1, bne_self_eq_false, Bool.false_or, Bool.or_eq_true, decide_eq_true_eq, Bool.and_eq_true, beq_iff_eq] at q1
  rcases q1 with (q1 | q1) | q1
  · omega
  · omega
  · rw [q1.1.1, q1.1.2, q1.2]; exact ⟨h1, h2⟩
theorem mi_f0 {g : GG} {n : Int} {L : Int32} {I : pI} (hy : Ly g) (h : MI g n L I) {c q : Nat} {v : Int32} (hc : c < 49) (ht : c ≠ 0 ∨ q ≠ 1) (hk : (TM.all fun e => e.1 != c || decide (q < e.2.1) || decide (e.2.2.1 ≤ q)) = true) : MI g n L (pp I (ad g c) q v) := by
  refine mi_keep hy h hc ht (fun e he e1 e2 e3 => ?_)
  have q1 := List.all_eq_true.mp hk e he
  simp only [e1, bne_self_eq_false, Bool.false_or, Bool.or_eq_true, decide_eq_true_eq] at q1
  omega
theorem mi_r {g : GG} {n : Int} {L : Int32} {I : pI} (hy : Ly g) (h : MI g n L I) {c q : Nat} {v : Int32} (lo a b : Int) (hc : c < 49) (ht : c ≠ 0 ∨ q ≠ 1) (hk : (TM.all fun e => e.1 != c || (e.2.2.2.1 == lo && e.2.2.2.2.1 == a && e.2.2.2.2.2 == b)) = true) (h1 : lo ≤ v.toInt) (h2 : v.toInt ≤ a * n + b) : MI g n L (pp I (ad g c) q v) := by
  refine mi_keep hy h hc ht (fun e he e1 e2 e3 => ?_)
  have q1 := List.all_eq_true.mp hk e he
  simp only [e1, bne_self_eq_false, Bool.false_or, Bool.and_eq_true, beq_iff_eq] at q1
  rw [q1.1.1, q1.1.2, q1.2]; exact ⟨h1, h2⟩
theorem mi_r0 {g : GG} {n : Int} {L : Int32} {I : pI} (hy : Ly g) (h : MI g n L I) {c q : Nat} {v : Int32} (hc : c < 49) (ht : c ≠ 0 ∨ q ≠ 1) (hk : (TM.all fun e => e.1 != c) = true) : MI g n L (pp I (ad g c) q v) := by
  refine mi_keep hy h hc ht (fun e he e1 e2 e3 => ?_)
  have q1 := List.all_eq_true.mp hk e he
  simp [e1] at q1
theorem mi_len {g : GG} {n : Int} {L v : Int32} {I : pI} (hy : Ly g) (h : MI g n L I) (h1 : 0 ≤ v.toInt) (h2 : v.toInt ≤ 900) : MI g n v (pp I (ad g 0) 1 v) := by
  refine ⟨BT_pp h.1 (mi_ne hy (by decide)) (fun e he e1 e2 e3 => ?_), pp_self _ _ _ _⟩
  have q1 : ∀ e ∈ TM, e.1 = 0 → e.2.1 ≤ 1 → 1 < e.2.2.1 → e.2.2.2.1 = 0 ∧ e.2.2.2.2.1 = 0 ∧ e.2.2.2.2.2 = 900 := by decide
  obtain ⟨a1, a2, a3⟩ := q1 e he e1 e2 e3
  rw [a1, a2, a3]
  omega
theorem mi_rr {g : GG} {n : Int} {L : Int32} {I : pI} (hy : Ly g) (h : MI g n L I) {c q : Nat} {v : Int32} (a b : Nat) (lo ka kb : Int) (hc : c < 49) (ht : c ≠ 0 ∨ q ≠ 1) (hq : a ≤ q ∧ q ≤ b) (hk : (TM.all fun e => e.1 != c || decide (b < e.2.1) || decide (e.2.2.1 ≤ a) || (e.2.2.2.1 == lo && e.2.2.2.2.1 == ka && e.2.2.2.2.2 == kb)) = true) (hv : (TM.any fun e => e.1 == c && !(decide (b < e.2.1) || decide (e.2.2.1 ≤ a))) = true → lo ≤ v.toInt ∧ v.toInt ≤ ka * n + kb) : MI g n L (pp I (ad g c) q v) := by
  refine mi_keep hy h hc ht (fun e he e1 e2 e3 => ?_)
  have q1 := List.all_eq_true.mp hk e he
  simp only [e1, bne_self_eq_false, Bool.false_or, Bool.or_eq_true, decide_eq_true_eq, Bool.and_eq_true, beq_iff_eq] at q1
  rcases q1 with (q1 | q1) | q1
  · omega
  · omega
  · rw [q1.1.1, q1.1.2, q1.2]
    refine hv (List.any_eq_true.mpr ⟨e, he, ?_⟩)
    have n1 : ¬ b < e.2.1 := by omega
    have n2 : ¬ e.2.2.1 ≤ a := by omega
    simp [e1, n1, n2]
/-- who is told has somebody in it; the chest's sort is told; what is wanted is a thing -/
def PP (g : GG) (I : pI) : Prop := (∀ q : Nat, (q : Int) < (I (ad g 0) 10).toInt → 1 ≤ (I (ad g 8) q).toInt) ∧ (I (ad g 0) 13).toInt < (I (ad g 0) 10).toInt ∧ (∀ q : Nat, (q : Int) < 7 * (I (ad g 0) 10).toInt → (I (ad g 24) q).toInt = -1 → (I (ad g 25) q).toInt = 0)
/-- what is best over k days -/
def MBt (g : GG) (I : pI) : Prop := ∀ k q : Nat, k < 29 → q < 366 → 0 ≤ (I (ad g 35) (366 * k + q)).toInt ∧ (I (ad g 35) (366 * k + q)).toInt ≤ 594 * (k : Int)
def RQt (g : GG) (I : pI) : Prop := ∀ q : Nat, (q : Int) < (I (ad g 0) 15).toInt → 1 ≤ (I (ad g 14) q).toInt
def MW (g : GG) (n : Int) (L : Int32) (I : pI) : Prop := MI g n L I ∧ MBt g I ∧ RQt g I
def MP (g : GG) (n : Int) (L : Int32) (I : pI) : Prop := MI g n L I ∧ (PP g I ∨ (I (ad g 0) 10).toInt = 0 ∧ (I (ad g 0) 13).toInt = -1) ∧ MBt g I ∧ RQt g I
theorem mp_mw {g : GG} {n : Int} {L : Int32} {I : pI} (h : MP g n L I) : MW g n L I := ⟨h.1, h.2.2⟩
theorem q_off {g : GG} (hy : Ly g) {I : pI} {c q d : Nat} {v : Int32} (hc : c < 49) (hd : d < 49) (h : c ≠ d) : pp I (ad g c) q v (ad g d) = I (ad g d) := pp_off _ _ (ly_ne hy (Ne.symm h) hd hc)
theorem q_fld {g : GG} (hy : Ly g) {I : pI} {c q d : Nat} {v : Int32} (hc : c < 49) (h : c ≠ 0 ∨ q ≠ d) : pp I (ad g c) q v (ad g 0) d = I (ad g 0) d := by
  rcases h with h | h
  · rw [q_off hy hc (by decide) h]
  · exact pp_ne _ _ (Or.inr (Ne.symm h))
theorem mw_w {g : GG} {n : Int} {L L2 : Int32} {I : pI} (hy : Ly g) (h : MW g n L I) {c q : Nat} {v : Int32} (h2 : MI g n L2 (pp I (ad g c) q v)) (hc : c < 49) (h8 : c ≠ 35 ∧ c ≠ 14) (h0 : c ≠ 0 ∨ q ≠ 15) : MW g n L2 (pp I (ad g c) q v) := by
  refine ⟨h2, ?_, ?_⟩
  · unfold MBt; rw [q_off hy hc (by decide) h8.1]; exact h.2.1
  · unfold RQt; rw [q_off hy hc (by decide) h8.2, q_fld hy hc h0]; exact h.2.2
theorem mp_w {g : GG} {n : Int} {L L2 : Int32} {I : pI} (hy : Ly g) (h : MP g n L I) {c q : Nat} {v : Int32} (h2 : MI g n L2 (pp I (ad g c) q v)) (hc : c < 49) (h8 : c ≠ 8 ∧ c ≠ 24 ∧ c ≠ 25 ∧ c ≠ 35 ∧ c ≠ 14) (h0 : c ≠ 0 ∨ (q ≠ 10 ∧ q ≠ 13 ∧ q ≠ 15)) : MP g n L2 (pp I (ad g c) q v) := by
  have w := mw_w hy (mp_mw h) h2 hc h8.2.2.2 (h0.imp id fun z => z.2.2)
  refine ⟨h2, ?_, w.2⟩
  unfold PP
  rw [q_off hy hc (by decide) h8.1, q_off hy hc (by decide) h8.2.1, q_off hy hc (by decide) h8.2.2.1, q_fld hy hc (h0.imp id fun z => z.1), q_fld hy hc (h0.imp id fun z => z.2.1)]
  exact h.2.1
theorem pp_same {g : GG} {n : Int} {L : Int32} {I I2 : pI} (h : MP g n L I) (e8 : I2 (ad g 8) = I (ad g 8)) (e24 : I2 (ad g 24) = I (ad g 24)) (e25 : I2 (ad g 25) = I (ad g 25)) (e10 : I2 (ad g 0) 10 = I (ad g 0) 10) (e13 : I2 (ad g 0) 13 = I (ad g 0) 13) : PP g I2 ∨ (I2 (ad g 0) 10).toInt = 0 ∧ (I2 (ad g 0) 13).toInt = -1 := by
  unfold PP
  rw [e8, e24, e25, e10, e13]
  exact h.2.1
theorem mw_35 {g : GG} {n : Int} {L : Int32} {I : pI} (hy : Ly g) (h : MW g n L I) {q k r : Nat} {v : Int32} (h2 : MI g n L (pp I (ad g 35) q v)) (hk : k < 29) (hr : r < 366) (hq : q = 366 * k + r) (hv : 0 ≤ v.toInt ∧ v.toInt ≤ 594 * (k : Int)) : MW g n L (pp I (ad g 35) q v) := by
  refine ⟨h2, ?_, ?_⟩
  · intro k2 r2 hk2 hr2
    rw [pp_at]
    split
    · rename_i e
      have : k2 = k := by omega
      rw [this]; exact hv
    · exact h.2.1 k2 r2 hk2 hr2
  · unfold RQt; rw [q_off (c := 35) (d := 14) hy (by decide) (by decide) (by decide), q_fld (c := 35) (d := 15) hy (by decide) (Or.inl (by decide))]; exact h.2.2
theorem mp_w35 {g : GG} {n : Int} {L : Int32} {I : pI} (hy : Ly g) (h : MP g n L I) {q k r : Nat} {v : Int32} (h2 : MI g n L (pp I (ad g 35) q v)) (hk : k < 29) (hr : r < 366) (hq : q = 366 * k + r) (hv : 0 ≤ v.toInt ∧ v.toInt ≤ 594 * (k : Int)) : MP g n L (pp I (ad g 35) q v) :=
  ⟨h2, pp_same h (q_off hy (by decide) (by decide) (by decide)) (q_off hy (by decide) (by decide) (by decide)) (q_off hy (by decide) (by decide) (by decide)) (q_fld hy (by decide) (Or.inl (by decide))) (q_fld hy (by decide) (Or.inl (by decide))), (mw_35 hy (mp_mw h) h2 hk hr hq hv).2⟩
theorem mp_w14 {g : GG} {n : Int} {L : Int32} {I : pI} (hy : Ly g) (h : MP g n L I) {q : Nat} {v : Int32} (h2 : MI g n L (pp I (ad g 14) q v)) (hv : 1 ≤ v.toInt) : MP g n L (pp I (ad g 14) q v) := by
  refine ⟨h2, pp_same h (q_off hy (by decide) (by decide) (by decide)) (q_off hy (by decide) (by decide) (by decide)) (q_off hy (by decide) (by decide) (by decide)) (q_fld hy (by decide) (Or.inl (by decide))) (q_fld hy (by decide) (Or.inl (by decide))), ?_, ?_⟩
  · unfold MBt; rw [q_off hy (by decide) (by decide) (by decide)]; exact h.2.2.1
  · intro q2 hq2
    rw [q_fld hy (by decide) (Or.inl (by decide))] at hq2
    rw [pp_at]
    split
    · exact hv
    · exact h.2.2.2 q2 hq2
theorem mp_w15 {g : GG} {n : Int} {L : Int32} {I : pI} (hy : Ly g) (h : MP g n L I) {v : Int32} (h2 : MI g n L (pp I (ad g 0) 15 v)) (hv : v.toInt = 0 ∨ v.toInt = (I (ad g 0) 15).toInt + 1 ∧ 1 ≤ (I (ad g 14) (I (ad g 0) 15).toInt.toNat).toInt) : MP g n L (pp I (ad g 0) 15 v) := by
  refine ⟨h2, pp_same h (q_off hy (by decide) (by decide) (by decide)) (q_off hy (by decide) (by decide) (by decide)) (q_off hy (by decide) (by decide) (by decide)) (q_fld hy (by decide) (Or.inr (by decide))) (q_fld hy (by decide) (Or.inr (by decide))), ?_, ?_⟩
  · unfold MBt; rw [q_off hy (by decide) (by decide) (by decide)]; exact h.2.2.1
  · intro q2 hq2
    rw [pp_self] at hq2
    rw [q_off hy (by decide) (by decide) (by decide)]
    rcases hv with hv | ⟨hv, h1⟩
    · omega
    · by_cases e : (q2 : Int) < (I (ad g 0) 15).toInt
      · exact h.2.2.2 q2 e
      · rw [show q2 = (I (ad g 0) 15).toInt.toNat by omega]; exact h1
theorem mb_get {g : GG} {n : Int} {L : Int32} {I : pI} (h : MP g n L I) {q k r : Nat} (hk : k < 29) (hr : r < 366) (hq : q = 366 * k + r) : 0 ≤ (I (ad g 35) q).toInt ∧ (I (ad g 35) q).toInt ≤ 594 * (k : Int) := by rw [hq]; exact h.2.2.1 k r hk hr
