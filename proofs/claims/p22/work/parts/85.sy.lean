/-! small bits, and who is told -/
theorem sm64 {P : Int32 → Prop} (h : ∀ k, k < 64 → P (nI k)) {x : Int32} (h0 : 0 ≤ x.toInt) (h1 : x.toInt < 64) : P x := by
  have e : x = nI x.toInt.toNat := (eq32 _ _).mpr (by rw [nI_toInt (by omega)]; omega)
  rw [e]
  exact h _ (by omega)
theorem and3 {x : Int32} (h0 : 0 ≤ x.toInt) (h1 : x.toInt < 64) : (x &&& 3).toInt = x.toInt % 4 := sm64 (P := fun x => (x &&& 3).toInt = x.toInt % 4) (by decide) h0 h1
theorem shr2 {x : Int32} (h0 : 0 ≤ x.toInt) (h1 : x.toInt < 64) : (x >>> ((2 : Int32) &&& 31)).toInt = x.toInt / 4 := sm64 (P := fun x => (x >>> ((2 : Int32) &&& 31)).toInt = x.toInt / 4) (by decide) h0 h1
theorem shr4 {x : Int32} (h0 : 0 ≤ x.toInt) (h1 : x.toInt < 64) : (x >>> ((4 : Int32) &&& 31)).toInt = x.toInt / 16 := sm64 (P := fun x => (x >>> ((4 : Int32) &&& 31)).toInt = x.toInt / 16) (by decide) h0 h1
section Rules
variable {g : GG} {d : MD} {pc : Nat} {ls : List (Nat × Value)} {st : List Value} {I : pI} {J : pJ} {R : pR} {Q : Post}
theorem WQ_iand3 {x y : Int32} (h : decode (md_c d) pc = .ok (.iand, 1)) (hy : y.toInt = 3) (h0 : 0 ≤ x.toInt) (h1 : x.toInt < 64) (k : ∀ v : Int32, v.toInt = x.toInt % 4 → WP g d (pc + 1) ls (.int v :: st) I J R Q) : WP g d pc ls (.int y :: .int x :: st) I J R Q := by
  obtain rfl : y = 3 := (eq32 y 3).mpr hy
  exact WP_iand h (k _ (and3 h0 h1))
theorem WQ_ishr2 {x y : Int32} (h : decode (md_c d) pc = .ok (.ishr, 1)) (hy : y.toInt = 2) (h0 : 0 ≤ x.toInt) (h1 : x.toInt < 64) (k : ∀ v : Int32, v.toInt = x.toInt / 4 → WP g d (pc + 1) ls (.int v :: st) I J R Q) : WP g d pc ls (.int y :: .int x :: st) I J R Q := by
  obtain rfl : y = 2 := (eq32 y 2).mpr hy
  exact WP_ishr h (k _ (shr2 h0 h1))
theorem WQ_ishr4 {x y : Int32} (h : decode (md_c d) pc = .ok (.ishr, 1)) (hy : y.toInt = 4) (h0 : 0 ≤ x.toInt) (h1 : x.toInt < 64) (k : ∀ v : Int32, v.toInt = x.toInt / 16 → WP g d (pc + 1) ls (.int v :: st) I J R Q) : WP g d pc ls (.int y :: .int x :: st) I J R Q := by
  obtain rfl : y = 4 := (eq32 y 4).mpr hy
  exact WP_ishr h (k _ (shr4 h0 h1))
end Rules
