theorem SP_and {g : GG} {y : MD} {as : List Value} {I : pI} {J : pJ} {R : pR} {Q1 : Post} {f : Option Value → Prop} (h1 : SP g y as I J R Q1) (h2 : SP g y as I J R (fun r _ _ _ => f r)) : SP g y as I J R (fun r I' J' R' => Q1 r I' J' R' ∧ f r) := by
  intro p e ha hc hk s m args below hf happ hP hK
  obtain ⟨n, o, hw, hr, he, hq⟩ := h1 p e ha hc hk s m args below hf happ hP hK
  obtain ⟨n2, o2, hw2, hr2, he2, hq2⟩ := h2 p e ha hc hk s m args below hf happ hP hK
  obtain ⟨rfl, rfl⟩ := the_end_unique (f := fun k => stepsAlone p.tables e k s) hw he hw2 he2
  obtain ⟨⟨⟨r, I1, J1, R1, hv, hQ, hP1⟩, hF⟩, hL⟩ := hq
  obtain ⟨⟨⟨r2, I2, J2, R2, hv2, hQ2, hP2⟩, hF2⟩, hL2⟩ := hq2
  obtain rfl : r = r2 := by
    have e0 := hv.symm.trans hv2
    exact Outcome.returned.inj e0
  exact ⟨n, o, hw, hr, he, ⟨⟨r, I1, J1, R1, hv, ⟨hQ, hQ2⟩, hP1⟩, hF⟩, hL⟩
