def TX : List BR := [(1, 1, 2, 0, 0, 900), (1, 2, 3, 0, 0, 4), (1, 3, 4, 0, 0, 900), (1, 6, 7, 0, 0, 900), (4, 0, 5, 0, 0, 1000), (22, 0, 21, 0, 0, 20), (23, 0, 7, 0, 0, 900), (24, 0, 427, 0, 0, 60), (25, 0, 6, 0, 0, 45), (26, 0, 6, 0, 0, 5), (6, 1, 2, 0, 0, 4), (6, 2, 3, 0, 0, 3), (6, 3, 4, -1, 0, 3), (6, 4, 5, -1, 0, 2), (7, 0, 7, 0, 0, 900), (8, 0, 4, 0, 0, 99), (9, 0, 4, 0, 0, 1000), (10, 0, 4, 0, 0, 60), (12, 0, 28, 0, 0, 20), (13, 0, 28, -1, 0, 2), (14, 0, 28, 0, 0, 3), (15, 0, 28, 0, 0, 99), (16, 0, 3, 0, 0, 1000), (17, 0, 3, 0, 0, 9), (18, 0, 21, 0, 0, 20), (19, 0, 21, -1, 0, 999), (27, 1, 2, 0, 0, 4), (27, 2, 3, 0, 0, 3), (27, 3, 4, -1, 0, 3), (27, 4, 5, -1, 0, 2), (28, 0, 7, 0, 0, 900), (29, 0, 4, 0, 0, 99), (30, 0, 4, 0, 0, 1000), (31, 0, 4, 0, 0, 60), (33, 0, 28, 0, 0, 20), (34, 0, 28, -1, 0, 2), (35, 0, 28, 0, 0, 3), (36, 0, 28, 0, 0, 99), (37, 0, 3, 0, 0, 1000), (38, 0, 3, 0, 0, 9), (39, 0, 21, 0, 0, 20), (40, 0, 21, -1, 0, 999), (71, 4, 5, 0, 0, 4), (69, 2, 3, 0, 0, 1), (43, 1, 2, 0, 0, 47), (52, 0, 3, 0, 0, 1000000), (44, 0, 1, -1, 0, 2), (44, 1, 2, 0, 0, 3), (44, 2, 3, 0, 0, 99), (44, 3, 4, 0, 0, 20), (44, 4, 5, 0, 0, 20), (44, 5, 6, 0, 0, 3), (44, 6, 7, 0, 0, 2), (44, 7, 8, 0, 0, 1), (44, 8, 9, 0, 0, 1), (50, 0, 1, -1, 0, 2), (50, 1, 2, 0, 0, 3), (50, 2, 3, 0, 0, 99), (50, 3, 4, 0, 0, 20), (50, 4, 5, 0, 0, 20), (50, 5, 6, 0, 0, 3), (50, 6, 7, 0, 0, 2), (50, 7, 8, 0, 0, 1), (50, 8, 9, 0, 0, 1), (53, 1, 2, 0, 23760, 0), (55, 0, 1, 0, 0, 60), (55, 1, 2, 0, 0, 5), (55, 7, 8, 0, 0, 60), (55, 8, 9, 0, 0, 5), (55, 14, 15, 0, 0, 60), (55, 15, 16, 0, 0, 5), (55, 21, 22, 0, 0, 60), (55, 22, 23, 0, 0, 5), (56, 1, 2, 0, 23760, 700000), (58, 0, 1, 0, 0, 60), (58, 1, 2, 0, 0, 5), (58, 7, 8, 0, 0, 60), (58, 8, 9, 0, 0, 5), (58, 14, 15, 0, 0, 60), (58, 15, 16, 0, 0, 5), (58, 21, 22, 0, 0, 60), (58, 22, 23, 0, 0, 5), (60, 1, 2, 0, 23760, 0), (62, 0, 1, 0, 0, 60), (62, 1, 2, 0, 0, 5), (62, 7, 8, 0, 0, 60), (62, 8, 9, 0, 0, 5), (62, 14, 15, 0, 0, 60), (62, 15, 16, 0, 0, 5), (62, 21, 22, 0, 0, 60), (62, 22, 23, 0, 0, 5), (63, 1, 2, 0, 23760, 0), (65, 0, 1, 0, 0, 60), (65, 1, 2, 0, 0, 5), (65, 7, 8, 0, 0, 60), (65, 8, 9, 0, 0, 5), (65, 14, 15, 0, 0, 60), (65, 15, 16, 0, 0, 5), (65, 21, 22, 0, 0, 60), (65, 22, 23, 0, 0, 5), (66, 1, 2, 0, 23760, 0), (68, 0, 1, 0, 0, 60), (68, 1, 2, 0, 0, 5), (68, 7, 8, 0, 0, 60), (68, 8, 9, 0, 0, 5), (68, 14, 15, 0, 0, 60), (68, 15, 16, 0, 0, 5), (68, 21, 22, 0, 0, 60), (68, 22, 23, 0, 0, 5)]
def XI (g : GG) (n : Int) (L : Int32) (I : pI) : Prop := BT g TX n I ∧ I (ad g 1) 1 = L
theorem TX_lt : ∀ e ∈ TX, e.1 < 74 := by decide
theorem xi_ne {g : GG} (hy : LyX g) {c : Nat} (hc : c < 74) : ∀ e ∈ TX, e.1 ≠ c → ad g e.1 ≠ ad g c := fun e he h => lyx_ne hy h (TX_lt e he) hc
theorem xi_keep {g : GG} {n : Int} {L : Int32} {I : pI} (hy : LyX g) (h : XI g n L I) {c q : Nat} {v : Int32} (hc : c < 74) (ht : c ≠ 1 ∨ q ≠ 1) (hv : ∀ e ∈ TX, e.1 = c → e.2.1 ≤ q → q < e.2.2.1 → e.2.2.2.1 ≤ v.toInt ∧ v.toInt ≤ e.2.2.2.2.1 * n + e.2.2.2.2.2) : XI g n L (pp I (ad g c) q v) := by
  refine ⟨BT_pp h.1 (xi_ne hy hc) hv, ?_⟩
  rw [pp_ne, h.2]
  rcases ht with ht | ht
  · exact Or.inl (lyx_ne hy (Ne.symm ht) (by decide) hc)
  · exact Or.inr (Ne.symm ht)
theorem xi_f {g : GG} {n : Int} {L : Int32} {I : pI} (hy : LyX g) (h : XI g n L I) {c q : Nat} {v : Int32} (lo a b : Int) (hc : c < 74) (ht : c ≠ 1 ∨ q ≠ 1) (hk : (TX.all fun e => e.1 != c || decide (q < e.2.1) || decide (e.2.2.1 ≤ q) || (e.2.2.2.1 == lo && e.2.2.2.2.1 == a && e.2.2.2.2.2 == b)) = true) (h1 : lo ≤ v.toInt) (h2 : v.toInt ≤ a * n + b) : XI g n L (pp I (ad g c) q v) := by
  refine xi_keep hy h hc ht (fun e he e1 e2 e3 => ?_)
  have q1 := List.all_eq_true.mp hk e he
  simp only [e1, bne_self_eq_false, Bool.false_or, Bool.or_eq_true, decide_eq_true_eq, Bool.and_eq_true, beq_iff_eq] at q1
  rcases q1 with (q1 | q1) | q1
  · omega
  · omega
  · rw [q1.1.1, q1.1.2, q1.2]; exact ⟨h1, h2⟩
theorem xi_f0 {g : GG} {n : Int} {L : Int32} {I : pI} (hy : LyX g) (h : XI g n L I) {c q : Nat} {v : Int32} (hc : c < 74) (ht : c ≠ 1 ∨ q ≠ 1) (hk : (TX.all fun e => e.1 != c || decide (q < e.2.1) || decide (e.2.2.1 ≤ q)) = true) : XI g n L (pp I (ad g c) q v) := by
  refine xi_keep hy h hc ht (fun e he e1 e2 e3 => ?_)
  have q1 := List.all_eq_true.mp hk e he
  simp only [e1, bne_self_eq_false, Bool.false_or, Bool.or_eq_true, decide_eq_true_eq] at q1
  omega
theorem xi_r {g : GG} {n : Int} {L : Int32} {I : pI} (hy : LyX g) (h : XI g n L I) {c q : Nat} {v : Int32} (lo a b : Int) (hc : c < 74) (ht : c ≠ 1 ∨ q ≠ 1) (hk : (TX.all fun e => e.1 != c || (e.2.2.2.1 == lo && e.2.2.2.2.1 == a && e.2.2.2.2.2 == b)) = true) (h1 : lo ≤ v.toInt) (h2 : v.toInt ≤ a * n + b) : XI g n L (pp I (ad g c) q v) := by
  refine xi_keep hy h hc ht (fun e he e1 e2 e3 => ?_)
  have q1 := List.all_eq_true.mp hk e he
  simp only [e1, bne_self_eq_false, Bool.false_or, Bool.and_eq_true, beq_iff_eq] at q1
  rw [q1.1.1, q1.1.2, q1.2]; exact ⟨h1, h2⟩
theorem xi_r0 {g : GG} {n : Int} {L : Int32} {I : pI} (hy : LyX g) (h : XI g n L I) {c q : Nat} {v : Int32} (hc : c < 74) (ht : c ≠ 1 ∨ q ≠ 1) (hk : (TX.all fun e => e.1 != c) = true) : XI g n L (pp I (ad g c) q v) := by
  refine xi_keep hy h hc ht (fun e he e1 e2 e3 => ?_)
  have q1 := List.all_eq_true.mp hk e he
  simp [e1] at q1
theorem xi_copy {g : GG} {n : Int} {L : Int32} {I I2 : pI} (hy : LyX g) (h : XI g n L I) (c0 c N : Nat) (hc : c < 74 ∧ c ≠ 1) (hk : ∀ e ∈ TX, e.1 = c → (c0, e.2) ∈ TX ∧ e.2.2.1 ≤ N) (h1 : ∀ q, q < N → I2 (ad g c) q = I (ad g c0) q) (h2 : ∀ b, b ≠ ad g c → I2 b = I b) : XI g n L I2 := by
  refine ⟨fun e he q q1 q2 => ?_, ?_⟩
  · by_cases e1 : e.1 = c
    · obtain ⟨k1, k2⟩ := hk e he e1
      rw [e1, h1 q (Nat.lt_of_lt_of_le q2 k2)]
      exact h.1 _ k1 q q1 q2
    · rw [h2 _ (xi_ne hy hc.1 e he e1)]
      exact h.1 e he q q1 q2
  · rw [h2 _ (lyx_ne hy (Ne.symm hc.2) (by decide) hc.1)]
    exact h.2
theorem xi_fill {g : GG} {n : Int} {L : Int32} {I : pI} (hy : LyX g) (h : XI g n L I) (c N : Nat) (v : Int32) (lo a b : Int) (hc : c < 74 ∧ c ≠ 1) (hk : (TX.all fun e => e.1 != c || (e.2.2.2.1 == lo && e.2.2.2.2.1 == a && e.2.2.2.2.2 == b)) = true) (h1 : lo ≤ v.toInt) (h2 : v.toInt ≤ a * n + b) : XI g n L (fi I (ad g c) N v) := by
  refine ⟨fun e he q q1 q2 => ?_, ?_⟩
  · by_cases e1 : e.1 = c
    · have k1 := List.all_eq_true.mp hk e he
      simp only [e1, bne_self_eq_false, Bool.false_or, Bool.and_eq_true, beq_iff_eq] at k1
      have h3 := h.1 e he q q1 q2
      unfold fi
      split
      · rw [k1.1.1, k1.1.2, k1.2]; exact ⟨h1, h2⟩
      · exact h3
    · rw [fi_off (xi_ne hy hc.1 e he e1)]
      exact h.1 e he q q1 q2
  · rw [fi_off (lyx_ne hy (Ne.symm hc.2) (by decide) hc.1)]
    exact h.2
theorem xi_fill0 {g : GG} {n : Int} {L : Int32} {I : pI} (hy : LyX g) (h : XI g n L I) (c N : Nat) (v : Int32) (hc : c < 74 ∧ c ≠ 1) (hk : (TX.all fun e => e.1 != c) = true) : XI g n L (fi I (ad g c) N v) := by
  refine ⟨fun e he q q1 q2 => ?_, ?_⟩
  · have k1 := List.all_eq_true.mp hk e he
    have e1 : e.1 ≠ c := by simpa using k1
    rw [fi_off (xi_ne hy hc.1 e he e1)]
    exact h.1 e he q q1 q2
  · rw [fi_off (lyx_ne hy (Ne.symm hc.2) (by decide) hc.1)]
    exact h.2
theorem fa_get0 {g : GG} {n : Int} {L : Int32} {I : pI} (h : XI g n L I) {c s : Nat} (hc : c = 55 ∨ c = 58 ∨ c = 62 ∨ c = 65 ∨ c = 68) (hs : s < 4) : 0 ≤ (I (ad g c) (7 * s)).toInt ∧ (I (ad g c) (7 * s)).toInt ≤ 60 := by
  have key : ∀ c ∈ [55, 58, 62, 65, 68], ∀ s, s < 4 → ((c, 7 * s, 7 * s + 1, (0 : Int), (0 : Int), (60 : Int)) : BR) ∈ TX := by decide
  have b := h.1 _ (key c (by simpa using hc) s hs) (7 * s) (Nat.le_refl _) (Nat.lt_succ_self _)
  refine ⟨b.1, ?_⟩
  have b2 : (I (ad g c) (7 * s)).toInt ≤ 0 * n + 60 := b.2
  omega
theorem fa_put {g : GG} {n : Int} {L : Int32} {I : pI} (hy : LyX g) (h : XI g n L I) {c q k s : Nat} {v : Int32} (hc : c = 55 ∨ c = 58 ∨ c = 62 ∨ c = 65 ∨ c = 68) (hs : s < 4) (hk : k < 7) (hq : q = 7 * s + k) (h0 : k = 0 → 0 ≤ v.toInt ∧ v.toInt ≤ 60) (h1 : k = 1 → 0 ≤ v.toInt ∧ v.toInt ≤ 5) : XI g n L (pp I (ad g c) q v) := by
  have hcc : c < 74 ∧ c ≠ 1 := by rcases hc with rfl | rfl | rfl | rfl | rfl <;> decide
  refine xi_keep hy h hcc.1 (Or.inl hcc.2) (fun e he e1 e2 e3 => ?_)
  have key : ∀ e ∈ TX, (e.1 = 55 ∨ e.1 = 58 ∨ e.1 = 62 ∨ e.1 = 65 ∨ e.1 = 68) → e.2.2.1 = e.2.1 + 1 ∧ ((e.2.1 % 7 = 0 ∧ e.2.2.2 = (0, 0, 60)) ∨ (e.2.1 % 7 = 1 ∧ e.2.2.2 = (0, 0, 5))) := by decide
  obtain ⟨k1, k2⟩ := key e he (by rw [e1]; exact hc)
  rcases k2 with ⟨k2, k3⟩ | ⟨k2, k3⟩
  · rw [k3]
    have := h0 (by omega)
    refine ⟨this.1, ?_⟩
    show v.toInt ≤ 0 * n + 60
    omega
  · rw [k3]
    have := h1 (by omega)
    refine ⟨this.1, ?_⟩
    show v.toInt ≤ 0 * n + 5
    omega
theorem fa_get1 {g : GG} {n : Int} {L : Int32} {I : pI} (h : XI g n L I) {c s : Nat} (hc : c = 55 ∨ c = 58 ∨ c = 62 ∨ c = 65 ∨ c = 68) (hs : s < 4) : 0 ≤ (I (ad g c) (7 * s + 1)).toInt ∧ (I (ad g c) (7 * s + 1)).toInt ≤ 5 := by
  have key : ∀ c ∈ [55, 58, 62, 65, 68], ∀ s, s < 4 → ((c, 7 * s + 1, 7 * s + 1 + 1, (0 : Int), (0 : Int), (5 : Int)) : BR) ∈ TX := by decide
  have b := h.1 _ (key c (by simpa using hc) s hs) (7 * s + 1) (Nat.le_refl _) (Nat.lt_succ_self _)
  refine ⟨b.1, ?_⟩
  have b2 : (I (ad g c) (7 * s + 1)).toInt ≤ 0 * n + 5 := b.2
  omega
theorem fa_fill {g : GG} {n : Int} {L : Int32} {I : pI} (hy : LyX g) (h : XI g n L I) {c : Nat} (N : Nat) {v : Int32} (hc : c = 55 ∨ c = 58 ∨ c = 62 ∨ c = 65 ∨ c = 68) (hv : v.toInt = 0) : XI g n L (fi I (ad g c) N v) := by
  have hcc : c < 74 ∧ c ≠ 1 := by rcases hc with rfl | rfl | rfl | rfl | rfl <;> decide
  refine ⟨fun e he q q1 q2 => ?_, ?_⟩
  · by_cases e1 : e.1 = c
    · have key : ∀ e ∈ TX, (e.1 = 55 ∨ e.1 = 58 ∨ e.1 = 62 ∨ e.1 = 65 ∨ e.1 = 68) → (e.2.2.2 = (0, 0, 60) ∨ e.2.2.2 = (0, 0, 5)) := by decide
      have h3 := h.1 e he q q1 q2
      unfold fi
      split
      · rcases key e he (by rw [e1]; exact hc) with k3 | k3
        · rw [k3, hv]; show (0 : Int) ≤ 0 ∧ 0 ≤ 0 * n + 60; omega
        · rw [k3, hv]; show (0 : Int) ≤ 0 ∧ 0 ≤ 0 * n + 5; omega
      · exact h3
    · rw [fi_off (xi_ne hy hcc.1 e he e1)]
      exact h.1 e he q q1 q2
  · rw [fi_off (lyx_ne hy (Ne.symm hcc.2) (by decide) hcc.1)]
    exact h.2
theorem xi_len {g : GG} {n : Int} {L v : Int32} {I : pI} (hy : LyX g) (h : XI g n L I) (h1 : 0 ≤ v.toInt) (h2 : v.toInt ≤ 900) : XI g n v (pp I (ad g 1) 1 v) := by
  refine ⟨BT_pp h.1 (xi_ne hy (by decide)) (fun e he e1 e2 e3 => ?_), pp_self _ _ _ _⟩
  have q1 : ∀ e ∈ TX, e.1 = 1 → e.2.1 ≤ 1 → 1 < e.2.2.1 → e.2.2.2.1 = 0 ∧ e.2.2.2.2.1 = 0 ∧ e.2.2.2.2.2 = 900 := by decide
  obtain ⟨a1, a2, a3⟩ := q1 e he e1 e2 e3
  rw [a1, a2, a3]
  omega
