/-! THE REFERENCE'S READING -/
def BF (g : GG) (I : pI) (k : Int32) : Int32 := if k.toInt < (I (ad g 0) 2).toInt then I (ad g 1) k.toNatClampNeg &&& 255 else 0
theorem BF_w {g : GG} {I : pI} {q : Nat} {v k : Int32} (hy : Ly g) (hq : q ≠ 2) : BF g (pp I (ad g 0) q v) k = BF g I k := by
  unfold BF
  rw [pp_ne _ _ (Or.inr (Ne.symm hq)), pp_off _ _ (ly_ne hy (by decide) (by decide) (by decide))]
/-- what is wanted is a thing, as far as m -/
def WRt (A B : Nat → Int32) (m : Int) : Prop := ∀ q : Nat, (q : Int) < m → (A q).toInt = -1 → (B q).toInt = 0
theorem WRt_0 {A B : Nat → Int32} {m : Int} (h : m ≤ 0) : WRt A B m := fun q hq => by omega
/-- a row of a new sort: nothing is wanted on a day -/
theorem WRt_a {A B : Nat → Int32} {I I2 : pI} {a K : Nat} {v : Int32} {m : Int} (h : WRt (I a) B m) (e : I2 = pp I a K v) (hK : m ≤ (K : Int)) : WRt (I2 a) B m := by
  intro q hq
  rw [e, pp_at, if_neg (by omega)]
  exact h q hq
theorem WRt_b {A : Nat → Int32} {I I2 : pI} {b K : Nat} {v : Int32} {m m2 : Int} (h : WRt A (I b) m) (e : I2 = pp I b K v) (hK : (K : Int) = m) (hv : v.toInt = 0) (h2 : m2 = m + 1) : WRt A (I2 b) m2 := by
  intro q hq h3
  rw [e, pp_at]
  split
  · exact hv
  · exact h q (by omega) h3
/-- units at K, then the thing -/
def WRx (A B : Nat → Int32) (m : Int) (K : Nat) : Prop := ∀ q : Nat, (q : Int) < m → q ≠ K → (A q).toInt = -1 → (B q).toInt = 0
theorem WRx_b {A : Nat → Int32} {I I2 : pI} {b K : Nat} {v : Int32} {m : Int} (h : WRt A (I b) m) (e : I2 = pp I b K v) : WRx A (I2 b) m K := by
  intro q hq hn h3
  rw [e, pp_at, if_neg hn]
  exact h q hq h3
theorem WRx_a {B : Nat → Int32} {I I2 : pI} {a K : Nat} {v : Int32} {m : Int} (h : WRx (I a) B m K) (e : I2 = pp I a K v) (hv : v.toInt ≠ -1) : WRt (I2 a) B m := by
  intro q hq h3
  rw [e, pp_at] at h3
  split at h3
  · exact absurd h3 hv
  · rename_i hn; exact h q hq hn h3
