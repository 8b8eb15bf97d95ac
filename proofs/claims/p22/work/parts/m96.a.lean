/-! THE REFERENCE'S PLANS -/
section Rules
variable {g : GG} {d : MD} {pc : Nat} {ls : List (Nat × Value)} {st : List Value} {I : pI} {J : pJ} {R : pR} {Q : Post}
theorem WQ_baldx {a n : Nat} {i : Int32} (h : decode (md_c d) pc = .ok (.baload, 1)) (ha : g_is g a 12) (hn : g_n g a = n) (h0 : 0 ≤ i.toInt) (h1 : i.toInt < n) (kk : ∀ v : Int32, v = I a i.toNatClampNeg → WP g d (pc + 1) ls (.int v :: st) I J R Q) : WP g d pc ls (.int i :: .ref a :: st) I J R Q := WP_bald h ha (by rw [hn]; exact vin h0 h1) (kk _ rfl)
end Rules
/-- what a thing costs -/
def CA (P : Nat → Int32) (th da : Int) : Int := if th = -1 then 0 else (P (7 * th + da).toNat).toInt
/-- an act that may be done: U units are wanted, sq is stored -/
def AOKm (U sq e3 e4 c u a : Int) : Prop := 0 ≤ a ∧ a ≤ 47 ∧ a / 4 % 4 ≤ u ∧ u - a / 4 % 4 + a / 16 ≤ 5 ∧ (a % 4) * e3 + (a / 16) * e4 ≤ c ∧ a % 4 ≤ U ∧ (a / 16 = 0 ∨ sq ≠ -1)
def AM (P W U : Nat → Int32) (sq so da c u a : Int) : Prop := AOKm (U (7 * so + da).toNat).toInt sq (CA P (W (7 * so + da).toNat).toInt da) (CA P sq da) c u a
theorem AOKm_set {U sq e3 e4 c u a s f e : Int} (ha : a = 16 * s + 4 * f + e) (h0 : 0 ≤ s ∧ 0 ≤ f ∧ 0 ≤ e) (h1 : s ≤ 2) (h2 : f ≤ 3) (h3 : e ≤ 3) (h4 : f ≤ u) (h5 : u - f + s ≤ 5) (h6 : e * e3 + s * e4 ≤ c) (h7 : e ≤ U) (h8 : s = 0 ∨ sq ≠ -1) : AOKm U sq e3 e4 c u a := by
  have q1 : a % 4 = e := by omega
  have q2 : a / 4 % 4 = f := by omega
  have q3 : a / 16 = s := by omega
  refine ⟨by omega, by omega, by omega, by omega, ?_, by omega, by omega⟩
  rw [q1, q3]
  exact h6
/-- how many each can get -/
def EC (Lm P : Nat → Int32) (th so : Int) : Int := if th = -1 ∨ (Lm th.toNat).toInt = 1000000 then 1000000 else (Lm th.toNat).toInt / (P so.toNat).toInt
