/-! more days: the bounds grow with them -/
theorem BT_mono {g : GG} {T : List BR} {n n2 : Int} {I : pI} (h : BT g T n I) (hn : n ≤ n2) (ha : ∀ e ∈ T, 0 ≤ e.2.2.2.2.1) : BT g T n2 I := by
  intro e he q h1 h2
  have b := h e he q h1 h2
  have k : e.2.2.2.2.1 * n ≤ e.2.2.2.2.1 * n2 := Int.mul_le_mul_of_nonneg_left hn (ha e he)
  exact ⟨b.1, by omega⟩
theorem xi_mono {g : GG} {n n2 : Int} {L : Int32} {I : pI} (h : XI g n L I) (hn : n ≤ n2) : XI g n2 L I := ⟨BT_mono h.1 hn (by decide), h.2⟩
section Rules
variable {g : GG} {d : MD} {pc : Nat} {ls : List (Nat × Value)} {st : List Value} {I : pI} {J : pJ} {R : pR} {Q : Post}
theorem WQ_ialdq {a n q : Nat} {i : Int32} {lo hi : Int} (h : decode (md_c d) pc = .ok (.iaload, 1)) (ha : g_is g a 13) (hn : g_n g a = n) (h0 : 0 ≤ i.toInt) (h1 : i.toInt < n) (hq : i.toInt = (q : Int)) (hb : lo ≤ (I a q).toInt ∧ (I a q).toInt ≤ hi) (kk : ∀ v : Int32, lo ≤ v.toInt → v.toInt ≤ hi → I a i.toNatClampNeg = v → WP g d (pc + 1) ls (.int v :: st) I J R Q) : WP g d pc ls (.int i :: .ref a :: st) I J R Q := by
  refine WP_iald h ha (by rw [hn]; exact vin h0 h1) ?_
  refine kk _ ?_ ?_ rfl
  · rw [cl hq]; exact hb.1
  · rw [cl hq]; exact hb.2
end Rules
