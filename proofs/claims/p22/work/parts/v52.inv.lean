/-! WHAT HOLDS OF A TOWN THAT IS READ -/
def PI (S : TwS) : Prop :=
  (∀ q : Nat, 7 * S.1 0 1 ≤ (q : Int) → S.1 6 q = 0 ∧ S.1 7 q = -1 ∧ S.1 8 q = 0 ∧ S.1 9 q = 0) ∧
  (∀ s : Nat, S.1 0 1 ≤ (s : Int) → S.1 5 s = 0) ∧
  (∀ s : Nat, S.1 0 1 ≤ (s : Int) → s < 4 → ∀ d, d < 7 → S.2 (12 + s) d = false) ∧
  (∀ q : Nat, 7 * S.1 0 2 ≤ (q : Int) → S.1 12 q = 5 ∧ S.1 13 q = -1) ∧
  (∀ s : Nat, S.1 0 2 ≤ (s : Int) → s < 3 → ∀ d, d < 7 → S.2 (16 + s) d = false) ∧
  (∀ s d : Nat, s < 4 → d < 7 → (S.2 (24 + s) d = true ↔ S.1 7 (s * 7 + d) ≠ -1)) ∧
  (∀ s : Nat, s < 4 → (S.2 (28 + s) 0 = true ↔ S.1 5 s ≠ 0)) ∧
  (∀ s d : Nat, s < 3 → d < 7 → (S.2 (20 + s) d = true ↔ S.1 13 (s * 7 + d) ≠ -1)) ∧
  (S.2 32 0 = true ↔ S.1 0 3 ≠ -1) ∧
  (S.2 36 0 = false → S.1 0 4 = if 0 < S.1 0 2 then 0 else -1)
theorem PI_0 (j : Nat → Nat → Int) : PI (S0 j) := by simp [PI, S0]
theorem PI_nm {S S2 : TwS} (h : PI S) (h1 : ∀ c q, c ≠ 14 → S2.1 c q = S.1 c q) (h2 : S2.2 = S.2) : PI S2 := by
  unfold PI
  rw [h2]
  simp only [h1 0 1 (by decide), h1 0 2 (by decide), h1 0 3 (by decide), h1 0 4 (by decide), h1 5 _ (by decide), h1 6 _ (by decide), h1 7 _ (by decide), h1 8 _ (by decide), h1 9 _ (by decide), h1 12 _ (by decide), h1 13 _ (by decide)]
  exact h
section Tel
variable {P : Nat → Int} {S : TwS}
theorem PI_t0 (hb : SBn S) (h : PI S) : PI (tel 0 P S) := by
  obtain ⟨h1, h2, h3, h4, h5, h6, h7, h8, h9, h10⟩ := h
  unfold SBn at hb
  unfold PI tel
  refine ⟨?_, ?_, ?_, ?_, ?_, ?_, ?_, ?_, ?_, ?_⟩ <;> grind [pp]
theorem PI_t1 (hb : SBn S) (h : PI S) : PI (tel 1 P S) := by
  obtain ⟨h1, h2, h3, h4, h5, h6, h7, h8, h9, h10⟩ := h
  unfold SBn at hb
  unfold PI tel
  refine ⟨?_, ?_, ?_, ?_, ?_, ?_, ?_, ?_, ?_, ?_⟩ <;> grind [pp]
theorem PI_t2 (hb : SBn S) (h : PI S) : PI (tel 2 P S) := by
  obtain ⟨h1, h2, h3, h4, h5, h6, h7, h8, h9, h10⟩ := h
  unfold SBn at hb
  unfold PI tel
  refine ⟨?_, ?_, ?_, ?_, ?_, ?_, ?_, ?_, ?_, ?_⟩ <;> grind [pp]
theorem PI_t3 (hb : SBn S) (h : PI S) (p0 : 0 ≤ P 0 ∧ P 0 < S.1 0 1) (p1 : 0 ≤ P 1 ∧ P 1 < 7) : PI (tel 3 P S) := by
  obtain ⟨h1, h2, h3, h4, h5, h6, h7, h8, h9, h10⟩ := h
  unfold SBn at hb
  have V : ∀ c q, (c ≠ 6) ∨ q ≠ ((P 0).toNat * 7 + (P 1).toNat) → c ≠ 0 → (pp (pp S.1 0 0 (S.1 0 0 + 1)) 6 ((P 0).toNat * 7 + (P 1).toNat) (P 2)) c q = S.1 c q := fun c q h1 h2 => by
    rw [pp_ne _ _ (by omega), pp_ne _ _ (Or.inl h2)]
  have V0 : ∀ q, q ≠ 0 → (pp (pp S.1 0 0 (S.1 0 0 + 1)) 6 ((P 0).toNat * 7 + (P 1).toNat) (P 2)) 0 q = S.1 0 q := fun q h1 => by
    rw [pp_ne _ _ (Or.inl (by decide)), pp_ne _ _ (Or.inr h1)]
  have W : ∀ r d, r ≠ (12 + (P 0).toNat) ∨ d ≠ (P 1).toNat → (pp S.2 (12 + (P 0).toNat) (P 1).toNat true) r d = S.2 r d := fun r d h1 => pp_ne _ _ h1
  show PI (pp (pp S.1 0 0 (S.1 0 0 + 1)) 6 ((P 0).toNat * 7 + (P 1).toNat) (P 2), pp S.2 (12 + (P 0).toNat) (P 1).toNat true)
  unfold PI
  simp only [V0 1 (by decide), V0 2 (by decide), V0 3 (by decide), V0 4 (by decide)]
  refine ⟨fun q hq => ?_, fun s hs => ?_, fun s hs hs4 d hd => ?_, fun q hq => ?_, fun s hs hs3 d hd => ?_, fun s d hs hd => ?_, fun s hs => ?_, fun s d hs hd => ?_, ?_, ?_⟩
  · rw [V 6 q (by omega) (by decide), V 7 q (by omega) (by decide), V 8 q (by omega) (by decide), V 9 q (by omega) (by decide)]; exact h1 q hq
  · rw [V 5 s (by omega) (by decide)]; exact h2 s hs
  · rw [W _ _ (by omega)]; exact h3 s hs hs4 d hd
  · rw [V 12 q (by omega) (by decide), V 13 q (by omega) (by decide)]; exact h4 q hq
  · rw [W _ _ (by omega)]; exact h5 s hs hs3 d hd
  · rw [W _ _ (by omega), V 7 _ (by omega) (by decide)]; exact h6 s d hs hd
  · rw [W _ _ (by omega), V 5 _ (by omega) (by decide)]; exact h7 s hs
  · rw [W _ _ (by omega), V 13 _ (by omega) (by decide)]; exact h8 s d hs hd
  · rw [W _ _ (by omega)]; exact h9
  · rw [W _ _ (by omega)]; exact h10
theorem PI_t4 (hb : SBn S) (h : PI S) (p0 : 0 ≤ P 0 ∧ P 0 < S.1 0 2) (p1 : 0 ≤ P 1 ∧ P 1 < 7) : PI (tel 4 P S) := by
  obtain ⟨h1, h2, h3, h4, h5, h6, h7, h8, h9, h10⟩ := h
  unfold SBn at hb
  have V : ∀ c q, (c ≠ 12) ∨ q ≠ ((P 0).toNat * 7 + (P 1).toNat) → c ≠ 0 → (pp (pp S.1 0 0 (S.1 0 0 + 1)) 12 ((P 0).toNat * 7 + (P 1).toNat) (P 2)) c q = S.1 c q := fun c q h1 h2 => by
    rw [pp_ne _ _ (by omega), pp_ne _ _ (Or.inl h2)]
  have V0 : ∀ q, q ≠ 0 → (pp (pp S.1 0 0 (S.1 0 0 + 1)) 12 ((P 0).toNat * 7 + (P 1).toNat) (P 2)) 0 q = S.1 0 q := fun q h1 => by
    rw [pp_ne _ _ (Or.inl (by decide)), pp_ne _ _ (Or.inr h1)]
  have W : ∀ r d, r ≠ (16 + (P 0).toNat) ∨ d ≠ (P 1).toNat → (pp S.2 (16 + (P 0).toNat) (P 1).toNat true) r d = S.2 r d := fun r d h1 => pp_ne _ _ h1
  show PI (pp (pp S.1 0 0 (S.1 0 0 + 1)) 12 ((P 0).toNat * 7 + (P 1).toNat) (P 2), pp S.2 (16 + (P 0).toNat) (P 1).toNat true)
  unfold PI
  simp only [V0 1 (by decide), V0 2 (by decide), V0 3 (by decide), V0 4 (by decide)]
  refine ⟨fun q hq => ?_, fun s hs => ?_, fun s hs hs4 d hd => ?_, fun q hq => ?_, fun s hs hs3 d hd => ?_, fun s d hs hd => ?_, fun s hs => ?_, fun s d hs hd => ?_, ?_, ?_⟩
  · rw [V 6 q (by omega) (by decide), V 7 q (by omega) (by decide), V 8 q (by omega) (by decide), V 9 q (by omega) (by decide)]; exact h1 q hq
  · rw [V 5 s (by omega) (by decide)]; exact h2 s hs
  · rw [W _ _ (by omega)]; exact h3 s hs hs4 d hd
  · rw [V 12 q (by omega) (by decide), V 13 q (by omega) (by decide)]; exact h4 q hq
  · rw [W _ _ (by omega)]; exact h5 s hs hs3 d hd
  · rw [W _ _ (by omega), V 7 _ (by omega) (by decide)]; exact h6 s d hs hd
  · rw [W _ _ (by omega), V 5 _ (by omega) (by decide)]; exact h7 s hs
  · rw [W _ _ (by omega), V 13 _ (by omega) (by decide)]; exact h8 s d hs hd
  · rw [W _ _ (by omega)]; exact h9
  · rw [W _ _ (by omega)]; exact h10
theorem PI_t5 (hb : SBn S) (h : PI S) (p0 : 0 ≤ P 0 ∧ P 0 < S.1 0 2) (p1 : 0 ≤ P 1 ∧ P 1 < 7) (p2 : 0 ≤ P 2) : PI (tel 5 P S) := by
  obtain ⟨h1, h2, h3, h4, h5, h6, h7, h8, h9, h10⟩ := h
  unfold SBn at hb
  have V : ∀ c q, (c ≠ 13) ∨ q ≠ ((P 0).toNat * 7 + (P 1).toNat) → c ≠ 0 → (pp (pp S.1 0 0 (S.1 0 0 + 1)) 13 ((P 0).toNat * 7 + (P 1).toNat) (P 2)) c q = S.1 c q := fun c q h1 h2 => by
    rw [pp_ne _ _ (by omega), pp_ne _ _ (Or.inl h2)]
  have V0 : ∀ q, q ≠ 0 → (pp (pp S.1 0 0 (S.1 0 0 + 1)) 13 ((P 0).toNat * 7 + (P 1).toNat) (P 2)) 0 q = S.1 0 q := fun q h1 => by
    rw [pp_ne _ _ (Or.inl (by decide)), pp_ne _ _ (Or.inr h1)]
  have W : ∀ r d, r ≠ (20 + (P 0).toNat) ∨ d ≠ (P 1).toNat → (pp S.2 (20 + (P 0).toNat) (P 1).toNat true) r d = S.2 r d := fun r d h1 => pp_ne _ _ h1
  show PI (pp (pp S.1 0 0 (S.1 0 0 + 1)) 13 ((P 0).toNat * 7 + (P 1).toNat) (P 2), pp S.2 (20 + (P 0).toNat) (P 1).toNat true)
  unfold PI
  simp only [V0 1 (by decide), V0 2 (by decide), V0 3 (by decide), V0 4 (by decide)]
  refine ⟨fun q hq => ?_, fun s hs => ?_, fun s hs hs4 d hd => ?_, fun q hq => ?_, fun s hs hs3 d hd => ?_, fun s d hs hd => ?_, fun s hs => ?_, fun s d hs hd => ?_, ?_, ?_⟩
  · rw [V 6 q (by omega) (by decide), V 7 q (by omega) (by decide), V 8 q (by omega) (by decide), V 9 q (by omega) (by decide)]; exact h1 q hq
  · rw [V 5 s (by omega) (by decide)]; exact h2 s hs
  · rw [W _ _ (by omega)]; exact h3 s hs hs4 d hd
  · rw [V 12 q (by omega) (by decide), V 13 q (by omega) (by decide)]; exact h4 q hq
  · rw [W _ _ (by omega)]; exact h5 s hs hs3 d hd
  · rw [W _ _ (by omega), V 7 _ (by omega) (by decide)]; exact h6 s d hs hd
  · rw [W _ _ (by omega), V 5 _ (by omega) (by decide)]; exact h7 s hs
  · by_cases e : s * 7 + d = ((P 0).toNat * 7 + (P 1).toNat)
    · have e1 : s = (P 0).toNat := by omega
      have e2 : d = (P 1).toNat := by omega
      subst e1 e2
      have e3 : (pp S.2 (20 + (P 0).toNat) (P 1).toNat true) (20 + (P 0).toNat) (P 1).toNat = true := pp_self _ _ _ _
      have e4 : (pp (pp S.1 0 0 (S.1 0 0 + 1)) 13 ((P 0).toNat * 7 + (P 1).toNat) (P 2)) 13 ((P 0).toNat * 7 + (P 1).toNat) = P 2 := by
        rw [pp_self]
      rw [e3, e4]
      constructor
      · intro _; omega
      · intro _; rfl
    · rw [W _ _ (by omega), V 13 _ (by omega) (by decide)]; exact h8 s d hs hd
  · rw [W _ _ (by omega)]; exact h9
  · rw [W _ _ (by omega)]; exact h10
theorem PI_t6 (hb : SBn S) (h : PI S) (p0 : 0 ≤ P 0 ∧ P 0 < S.1 0 1) (p1 : 0 ≤ P 1) (p2 : 0 ≤ P 2 ∧ P 2 < 7) : PI (tel 6 P S) := by
  obtain ⟨h1, h2, h3, h4, h5, h6, h7, h8, h9, h10⟩ := h
  unfold SBn at hb
  have V : ∀ c q, (c ≠ 7 ∧ c ≠ 8 ∧ c ≠ 9) ∨ q ≠ ((P 0).toNat * 7 + (P 2).toNat) → c ≠ 0 → (pp (pp (pp (pp S.1 0 0 (S.1 0 0 + 1)) 7 ((P 0).toNat * 7 + (P 2).toNat) (P 1)) 8 ((P 0).toNat * 7 + (P 2).toNat) (P 3)) 9 ((P 0).toNat * 7 + (P 2).toNat) (P 4)) c q = S.1 c q := fun c q h1 h2 => by
    rw [pp_ne _ _ (by omega), pp_ne _ _ (by omega), pp_ne _ _ (by omega), pp_ne _ _ (Or.inl h2)]
  have V0 : ∀ q, q ≠ 0 → (pp (pp (pp (pp S.1 0 0 (S.1 0 0 + 1)) 7 ((P 0).toNat * 7 + (P 2).toNat) (P 1)) 8 ((P 0).toNat * 7 + (P 2).toNat) (P 3)) 9 ((P 0).toNat * 7 + (P 2).toNat) (P 4)) 0 q = S.1 0 q := fun q h1 => by
    rw [pp_ne _ _ (Or.inl (by decide)), pp_ne _ _ (Or.inl (by decide)), pp_ne _ _ (Or.inl (by decide)), pp_ne _ _ (Or.inr h1)]
  have W : ∀ r d, r ≠ (24 + (P 0).toNat) ∨ d ≠ (P 2).toNat → (pp S.2 (24 + (P 0).toNat) (P 2).toNat true) r d = S.2 r d := fun r d h1 => pp_ne _ _ h1
  show PI (pp (pp (pp (pp S.1 0 0 (S.1 0 0 + 1)) 7 ((P 0).toNat * 7 + (P 2).toNat) (P 1)) 8 ((P 0).toNat * 7 + (P 2).toNat) (P 3)) 9 ((P 0).toNat * 7 + (P 2).toNat) (P 4), pp S.2 (24 + (P 0).toNat) (P 2).toNat true)
  unfold PI
  simp only [V0 1 (by decide), V0 2 (by decide), V0 3 (by decide), V0 4 (by decide)]
  refine ⟨fun q hq => ?_, fun s hs => ?_, fun s hs hs4 d hd => ?_, fun q hq => ?_, fun s hs hs3 d hd => ?_, fun s d hs hd => ?_, fun s hs => ?_, fun s d hs hd => ?_, ?_, ?_⟩
  · rw [V 6 q (by omega) (by decide), V 7 q (by omega) (by decide), V 8 q (by omega) (by decide), V 9 q (by omega) (by decide)]; exact h1 q hq
  · rw [V 5 s (by omega) (by decide)]; exact h2 s hs
  · rw [W _ _ (by omega)]; exact h3 s hs hs4 d hd
  · rw [V 12 q (by omega) (by decide), V 13 q (by omega) (by decide)]; exact h4 q hq
  · rw [W _ _ (by omega)]; exact h5 s hs hs3 d hd
  · by_cases e : s * 7 + d = ((P 0).toNat * 7 + (P 2).toNat)
    · have e1 : s = (P 0).toNat := by omega
      have e2 : d = (P 2).toNat := by omega
      subst e1 e2
      have e3 : (pp S.2 (24 + (P 0).toNat) (P 2).toNat true) (24 + (P 0).toNat) (P 2).toNat = true := pp_self _ _ _ _
      have e4 : (pp (pp (pp (pp S.1 0 0 (S.1 0 0 + 1)) 7 ((P 0).toNat * 7 + (P 2).toNat) (P 1)) 8 ((P 0).toNat * 7 + (P 2).toNat) (P 3)) 9 ((P 0).toNat * 7 + (P 2).toNat) (P 4)) 7 ((P 0).toNat * 7 + (P 2).toNat) = P 1 := by
        rw [pp_ne _ _ (Or.inl (by decide)), pp_ne _ _ (Or.inl (by decide)), pp_self]
      rw [e3, e4]
      constructor
      · intro _; omega
      · intro _; rfl
    · rw [W _ _ (by omega), V 7 _ (by omega) (by decide)]; exact h6 s d hs hd
  · rw [W _ _ (by omega), V 5 _ (by omega) (by decide)]; exact h7 s hs
  · rw [W _ _ (by omega), V 13 _ (by omega) (by decide)]; exact h8 s d hs hd
  · rw [W _ _ (by omega)]; exact h9
  · rw [W _ _ (by omega)]; exact h10
theorem PI_t7 (hb : SBn S) (h : PI S) (p0 : 0 ≤ P 0 ∧ P 0 < S.1 0 1) (p1 : 1 ≤ P 1) : PI (tel 7 P S) := by
  obtain ⟨h1, h2, h3, h4, h5, h6, h7, h8, h9, h10⟩ := h
  unfold SBn at hb
  have V : ∀ c q, (c ≠ 5) ∨ q ≠ (P 0).toNat → c ≠ 0 → (pp (pp S.1 0 0 (S.1 0 0 + 1)) 5 (P 0).toNat (P 1)) c q = S.1 c q := fun c q h1 h2 => by
    rw [pp_ne _ _ (by omega), pp_ne _ _ (Or.inl h2)]
  have V0 : ∀ q, q ≠ 0 → (pp (pp S.1 0 0 (S.1 0 0 + 1)) 5 (P 0).toNat (P 1)) 0 q = S.1 0 q := fun q h1 => by
    rw [pp_ne _ _ (Or.inl (by decide)), pp_ne _ _ (Or.inr h1)]
  have W : ∀ r d, r ≠ (28 + (P 0).toNat) ∨ d ≠ 0 → (pp S.2 (28 + (P 0).toNat) 0 true) r d = S.2 r d := fun r d h1 => pp_ne _ _ h1
  show PI (pp (pp S.1 0 0 (S.1 0 0 + 1)) 5 (P 0).toNat (P 1), pp S.2 (28 + (P 0).toNat) 0 true)
  unfold PI
  simp only [V0 1 (by decide), V0 2 (by decide), V0 3 (by decide), V0 4 (by decide)]
  refine ⟨fun q hq => ?_, fun s hs => ?_, fun s hs hs4 d hd => ?_, fun q hq => ?_, fun s hs hs3 d hd => ?_, fun s d hs hd => ?_, fun s hs => ?_, fun s d hs hd => ?_, ?_, ?_⟩
  · rw [V 6 q (by omega) (by decide), V 7 q (by omega) (by decide), V 8 q (by omega) (by decide), V 9 q (by omega) (by decide)]; exact h1 q hq
  · rw [V 5 s (by omega) (by decide)]; exact h2 s hs
  · rw [W _ _ (by omega)]; exact h3 s hs hs4 d hd
  · rw [V 12 q (by omega) (by decide), V 13 q (by omega) (by decide)]; exact h4 q hq
  · rw [W _ _ (by omega)]; exact h5 s hs hs3 d hd
  · rw [W _ _ (by omega), V 7 _ (by omega) (by decide)]; exact h6 s d hs hd
  · by_cases e : s = (P 0).toNat
    · have e1 : s = (P 0).toNat := by omega
      subst e1
      have e3 : (pp S.2 (28 + (P 0).toNat) 0 true) (28 + (P 0).toNat) 0 = true := pp_self _ _ _ _
      have e4 : (pp (pp S.1 0 0 (S.1 0 0 + 1)) 5 (P 0).toNat (P 1)) 5 (P 0).toNat = P 1 := by
        rw [pp_self]
      rw [e3, e4]
      constructor
      · intro _; omega
      · intro _; rfl
    · rw [W _ _ (by omega), V 5 _ (by omega) (by decide)]; exact h7 s hs
  · rw [W _ _ (by omega), V 13 _ (by omega) (by decide)]; exact h8 s d hs hd
  · rw [W _ _ (by omega)]; exact h9
  · rw [W _ _ (by omega)]; exact h10
theorem PI_t8 (hb : SBn S) (h : PI S) (p0 : 0 ≤ P 0) : PI (tel 8 P S) := by
  obtain ⟨h1, h2, h3, h4, h5, h6, h7, h8, h9, h10⟩ := h
  unfold SBn at hb
  unfold PI tel
  refine ⟨?_, ?_, ?_, ?_, ?_, ?_, ?_, ?_, ?_, ?_⟩ <;> grind [pp]
theorem PI_t9 (hb : SBn S) (h : PI S) : PI (tel 9 P S) := by
  obtain ⟨h1, h2, h3, h4, h5, h6, h7, h8, h9, h10⟩ := h
  unfold SBn at hb
  unfold PI tel
  refine ⟨?_, ?_, ?_, ?_, ?_, ?_, ?_, ?_, ?_, ?_⟩ <;> grind [pp]
end Tel
