theorem gk_ly {B : GB} {kt nt : List Nat} (h : KB B kt nt) (n : Nat) : (g_L (gk B n)).length = n ∧ (g_L (gk B n)).Nodup ∧ ∀ i, i < n → g_K (gk B n) (ad (gk B n) i) = kt.getD i 0 ∧ g_n (gk B n) (ad (gk B n) i) = nt.getD i 0 := by
  refine ⟨List.length_range', List.nodup_range' 1, fun i hi => ?_⟩
  rw [gk_ad hi]
  constructor
  · show (b_k B).getD (b_b B + i - b_b B) 0 = _
    rw [Nat.add_sub_cancel_left, h.1]
  · show (b_n B).getD (b_b B + i - b_b B) 0 = _
    rw [Nat.add_sub_cancel_left, h.2]
theorem RI_ad {B : GB} {n : Nat} {E : List (Nat × Nat × Nat)} {R : pR} (h : RI B E R) {c q t : Nat} (hm : (c, q, t) ∈ E) (hc : c < n ∧ t < n) : R (ad (gk B n) c) q = some (ad (gk B n) t) := by
  rw [gk_ad hc.1, gk_ad hc.2]
  exact h (c, q, t) hm
set_option maxRecDepth 100000 in
theorem eX_ok : ∀ e ∈ rTX, e ∈ eX ∧ e.1 < 74 ∧ e.2.2 < 74 := by decide +kernel
theorem rfx_gk {B : GB} {R : pR} (h : RI B eX R) : RfX (gk B 74) R := fun e he => RI_ad h (eX_ok e he).1 (eX_ok e he).2
