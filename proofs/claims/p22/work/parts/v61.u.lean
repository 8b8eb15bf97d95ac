/-! THE TOWN AT HAND of both sides, as far as it is told -/
def xsT : List (Nat × Nat) := [(2, 1), (3, 1), (4, 1), (5, 1), (6, 7), (7, 7), (8, 7), (9, 7)]
def xtT : List (Nat × Nat) := [(10, 1), (11, 1), (12, 7), (13, 7)]
def RTW (g : GG) (t : Nat) (S : TwS) (I : pI) (J : pJ) : Prop :=
  ((I (ad g t) 0).toInt = S.1 0 0 ∧ (I (ad g t) 1).toInt = S.1 0 1 ∧ (I (ad g t) 2).toInt = S.1 0 2 ∧ (I (ad g t) 3).toInt = S.1 0 3 ∧ (I (ad g t) 4).toInt = S.1 0 4) ∧
  (∀ q, q < 7 → (I (ad g (t + 1)) q).toInt = S.1 1 q) ∧
  (∀ e ∈ xsT, ∀ q : Nat, (q : Int) < (e.2 : Int) * S.1 0 1 → (I (ad g (t + e.1)) q).toInt = S.1 e.1 q) ∧
  (∀ e ∈ xtT, ∀ q : Nat, (q : Int) < (e.2 : Int) * S.1 0 2 → (I (ad g (t + e.1)) q).toInt = S.1 e.1 q) ∧
  (∀ q : Nat, (q : Int) < S.1 0 1 → (J (ad g (t + 14)) q).toInt = S.1 14 q) ∧ (∀ q : Nat, (q : Int) < S.1 0 2 → (J (ad g (t + 14)) (4 + q)).toInt = S.1 14 (4 + q))
theorem xsT_b : ∀ e ∈ xsT, (2 ≤ e.1 ∧ e.1 ≤ 9) ∧ (e.2 * 4 ≤ lnT e.1) ∧ (e.2 = 1 ∨ e.2 = 7) := by decide
theorem xtT_b : ∀ e ∈ xtT, (10 ≤ e.1 ∧ e.1 ≤ 13) ∧ (e.2 * 3 ≤ lnT e.1) ∧ (e.2 = 1 ∨ e.2 = 7) := by decide
theorem RTX_b {g : GG} {t : Nat} {S : TwS} {I : pI} {J : pJ} (h : RTX g t S I J) : (I (ad g t) 1).toInt = S.1 0 1 ∧ (I (ad g t) 2).toInt = S.1 0 2 ∧ (I (ad g t) 3).toInt = S.1 0 3 ∧ (I (ad g t) 4).toInt = S.1 0 4 ∧ (I (ad g t) 0).toInt = S.1 0 0 := ⟨h.1 0 1 (by decide) (by decide), h.1 0 2 (by decide) (by decide), h.1 0 3 (by decide) (by decide), h.1 0 4 (by decide) (by decide), h.1 0 0 (by decide) (by decide)⟩
theorem RTW_of {g : GG} {t : Nat} {S : TwS} {I : pI} {J : pJ} (h : RTX g t S I J) (hb : SBn S) : RTW g t S I J := by
  have b := RTX_b h
  unfold SBn at hb
  refine ⟨⟨b.2.2.2.2, b.1, b.2.1, b.2.2.1, b.2.2.2.1⟩, fun q hq => h.1 1 q (by decide) hq, fun e he q hq => ?_, fun e he q hq => ?_, fun q hq => h.2.1 q (by omega), fun q hq => h.2.1 (4 + q) (by omega)⟩
  · have k := xsT_b e he
    exact h.1 e.1 q (by omega) (by rcases k.2.2 with z | z <;> rw [z] at hq <;> rw [z] at k <;> omega)
  · have k := xtT_b e he
    exact h.1 e.1 q (by omega) (by rcases k.2.2 with z | z <;> rw [z] at hq <;> rw [z] at k <;> omega)
theorem RTW_eq {g : GG} {t : Nat} {S : TwS} {I I' : pI} {J J' : pJ} (h : RTW g t S I J) (e : ∀ c, c ≤ 13 → ∀ q, q < lnT c → I' (ad g (t + c)) q = I (ad g (t + c)) q) (eJ : ∀ q, q < 7 → J' (ad g (t + 14)) q = J (ad g (t + 14)) q) (hb : SBn S) : RTW g t S I' J' := by
  obtain ⟨⟨a0, a1, a2, a3, a4⟩, b, c, d, n1, n2⟩ := h
  unfold SBn at hb
  have e0 : ∀ q, q < 5 → I' (ad g t) q = I (ad g t) q := fun q hq => e 0 (by decide) q hq
  refine ⟨⟨by rw [e0 0 (by decide)]; exact a0, by rw [e0 1 (by decide)]; exact a1, by rw [e0 2 (by decide)]; exact a2, by rw [e0 3 (by decide)]; exact a3, by rw [e0 4 (by decide)]; exact a4⟩, fun q hq => by rw [e 1 (by decide) q hq]; exact b q hq, fun x hx q hq => ?_, fun x hx q hq => ?_, fun q hq => by rw [eJ q (by omega)]; exact n1 q hq, fun q hq => by rw [eJ (4 + q) (by omega)]; exact n2 q hq⟩
  · have k := xsT_b x hx
    rw [e x.1 (by omega) q (by rcases k.2.2 with z | z <;> rw [z] at hq <;> rw [z] at k <;> omega)]
    exact c x hx q hq
  · have k := xtT_b x hx
    rw [e x.1 (by omega) q (by rcases k.2.2 with z | z <;> rw [z] at hq <;> rw [z] at k <;> omega)]
    exact d x hx q hq
theorem RTW_fr {g : GG} (hy : LyX g) {t : Nat} (ht : t + 15 < 74) {S : TwS} {I I' : pI} {J J' : pJ} {C D : List Nat} (h : RTW g t S I J) (hb : SBn S) (hf : FC g C I I') (hD : FC g D J J') (hc : ∀ i ∈ C, i < 74 ∧ (i < t ∨ t + 15 < i)) (hd : ∀ i ∈ D, i < 74 ∧ (i < t ∨ t + 15 < i)) : RTW g t S I' J' :=
  RTW_eq h (fun c hc2 q _ => by rw [FCx_at hy hf (t + c) (by omega) (fun i hi => ⟨by have := (hc i hi).2; omega, (hc i hi).1⟩)]) (fun q _ => by rw [FCx_at hy hD (t + 14) (by omega) (fun i hi => ⟨by have := (hd i hi).2; omega, (hd i hi).1⟩)]) hb
theorem RTW_S {g : GG} {t : Nat} {S : TwS} {I : pI} {J : pJ} (h : RTW g t S I J) {c q : Nat} (hm : (c, 1) ∈ xsT) (hq : (q : Int) < S.1 0 1) : (I (ad g (t + c)) q).toInt = S.1 c q := h.2.2.1 (c, 1) hm q (by show (q : Int) < ((1 : Nat) : Int) * S.1 0 1; omega)
theorem RTW_T {g : GG} {t : Nat} {S : TwS} {I : pI} {J : pJ} (h : RTW g t S I J) {c q : Nat} (hm : (c, 1) ∈ xtT) (hq : (q : Int) < S.1 0 2) : (I (ad g (t + c)) q).toInt = S.1 c q := h.2.2.2.1 (c, 1) hm q (by show (q : Int) < ((1 : Nat) : Int) * S.1 0 2; omega)
