theorem xorI (a b : Nat) : nI a ^^^ nI b = nI (a ^^^ b) := by
  apply Int32.toBitVec_inj.1
  show BitVec.ofNat 32 a ^^^ BitVec.ofNat 32 b = BitVec.ofNat 32 (a ^^^ b)
  apply BitVec.eq_of_getLsbD_eq
  intro i hi
  simp [hi]
theorem xor7 {a : Int32} (h : 0 ≤ a.toInt) : 0 ≤ a ^^^ 7 := by
  have hr := rng a
  have e : a = nI a.toInt.toNat := (eq32 _ _).mpr (by rw [nI_toInt (by omega)]; omega)
  have h7 : (7 : Int32) = nI 7 := rfl
  rw [e, h7, xorI]
  exact nI_pos' (Nat.xor_lt_two_pow (by omega) (by decide))
/-- a run as from the beginning -/
def R0 (g : GG) (p : Nat) (I : pI) (J : pJ) : Prop := I (ad g p) 0 = 0 ∧ I (ad g p) 1 = 0 ∧ I (ad g p) 2 = 0 ∧ J (ad g p) 3 = 0 ∧ ∀ q, q < 28 → I (ad g (p + 2)) q = 0
theorem c3 {P : Int32 → Prop} {a : Int32} (h : 0 ≤ a.toInt ∧ a.toInt ≤ 2) (h0 : P 0) (h1 : P 1) (h2 : P 2) : P a := by
  have e : a = 0 ∨ a = 1 ∨ a = 2 := by
    simp only [eq32, Int32.reduceToInt]; omega
  rcases e with rfl | rfl | rfl
  · exact h0
  · exact h1
  · exact h2
