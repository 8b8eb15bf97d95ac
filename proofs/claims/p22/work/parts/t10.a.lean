/-! THE TOWN AT HAND AND THE SPARE ONE -/
def TS (g : GG) (R : pR) : Prop := (R (ad g 5) 0 = some (ad g 6) ∧ R (ad g 0) 10 = some (ad g 27)) ∨ (R (ad g 5) 0 = some (ad g 27) ∧ R (ad g 0) 10 = some (ad g 6))
theorem rfx_pt {g : GG} {R : pR} (hy : LyX g) (h : RfX g R) {c q : Nat} {v : Option Nat} (hq : c = 5 ∧ q = 0 ∨ c = 0 ∧ q = 10) : RfX g (pp R (ad g c) q v) := by
  intro e he
  have key : ∀ e ∈ rTX, e.1 < 74 ∧ (e.1 = 5 → e.2.1 ≠ 0) ∧ (e.1 = 0 → e.2.1 ≠ 10) := by decide
  have k := key e he
  by_cases cc : e.1 = c
  · rw [pp_ne _ _ (Or.inr (by have := k.2; omega))]
    exact h e he
  · rw [pp_ne _ _ (Or.inl (lyx_ne hy cc k.1 (by omega)))]
    exact h e he
theorem nl_pt {g : GG} {R : pR} (hy : LyX g) (h : NL g R) {c q : Nat} {v : Option Nat} (hc : c < 74) (h43 : c ≠ 43) : NL g (pp R (ad g c) q v) := by
  unfold NL
  rw [pp_off _ _ (lyx_ne hy (Ne.symm h43) (by decide) hc)]
  exact h
