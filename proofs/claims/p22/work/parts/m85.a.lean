theorem pp_get {g : GG} {n : Int} {L : Int32} {I : pI} (h : MP g n L I) {q : Nat} (hq : q < 4) (hs : (q : Int) < (I (ad g 0) 10).toInt) : 1 ≤ (I (ad g 8) q).toInt ∧ (I (ad g 8) q).toInt ≤ 99 := by
  have b := BT_get h.1.1 8 0 4 0 0 99 (by decide) q (Nat.zero_le _) hq
  refine ⟨?_, by omega⟩
  rcases h.2.1 with h2 | h2
  · exact h2.1 q hs
  · omega
theorem mp_mono {g : GG} {n n2 : Int} {L : Int32} {I : pI} (h : MP g n L I) (hn : n ≤ n2) : MP g n2 L I := ⟨⟨BT_mono h.1.1 hn (by decide), h.1.2⟩, h.2⟩
theorem pc_lt {g : GG} {n : Int} {L : Int32} {I : pI} (h : MP g n L I) : (I (ad g 0) 13).toInt < (I (ad g 0) 10).toInt ∨ (I (ad g 0) 13).toInt = -1 := by
  rcases h.2.1 with h2 | h2
  · exact Or.inl h2.2.1
  · exact Or.inr h2.2
