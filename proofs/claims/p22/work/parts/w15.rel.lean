/-! TWO PICTURES OF ONE HEAP agree on all real places; two contracts of one call -/
theorem RTW_fz {g : GG} {t : Nat} {S : TwS} {I I' : pI} {J J' : pJ} {A C : List Nat} (h : RTW g t S I J) (hb : SBn S) (hf : fz 74 g A I I') (hj : fz 74 g C J J') (ht : t + 15 < 74) (hA : ∀ i ∈ List.range' t 15, i ∉ A ∧ i ∉ C) : RTW g t S I' J' :=
  RTW_eq h (fun c hc q _ => by rw [fz_at hf (t + c) (by omega) (hA _ (by rw [List.mem_range'_1]; omega)).1]) (fun q _ => by rw [fz_at hj (t + 14) (by omega) (hA _ (by rw [List.mem_range'_1]; omega)).2]) hb
theorem RTW_agr {g : GG} (hy : LyX g) {t : Nat} (ht : t = 6 ∨ t = 27) {S : TwS} {I I2 : pI} {J J2 : pJ} {R R2 : pR} (hb : SBn S) (ha : AGR g I J R I2 J2 R2) (h : RTW g t S I2 J2) : RTW g t S I J := by
  refine RTW_eq h (fun c hc q hq => ?_) (fun q hq => ?_) hb
  · rcases (show c = 0 ∨ c = 1 ∨ c = 2 ∨ c = 3 ∨ c = 4 ∨ c = 5 ∨ c = 6 ∨ c = 7 ∨ c = 8 ∨ c = 9 ∨ c = 10 ∨ c = 11 ∨ c = 12 ∨ c = 13 by omega) with e | e | e | e | e | e | e | e | e | e | e | e | e | e <;> subst e <;> rcases ht with e | e <;> subst e
    all_goals first
      | exact agr_f ha (lyx_is hy _ _ rfl) (by decide) (show q < 20 by have : q < 5 := hq; omega) (by have : q < 5 := hq; rcases (show q = 0 ∨ q = 1 ∨ q = 2 ∨ q = 3 ∨ q = 4 by omega) with e | e | e | e | e <;> subst e <;> rfl)
      | exact agr_i ha (lyx_is hy _ _ rfl) (Or.inr (Or.inl rfl)) (lyx_n hy _ _ rfl) hq
  · rcases ht with e | e <;> subst e
    · exact agr_j ha (lyx_is hy 20 14 rfl) (lyx_n hy 20 7 rfl) hq
    · exact agr_j ha (lyx_is hy 41 14 rfl) (lyx_n hy 41 7 rfl) hq
def TWX (g : GG) (S : TwS) (I : pI) (J : pJ) (R : pR) : Prop := (R (ad g 5) 0 = some (ad g 6) ∧ RTW g 6 S I J) ∨ (R (ad g 5) 0 = some (ad g 27) ∧ RTW g 27 S I J)
theorem TWX_at {g : GG} (hy : LyX g) {S : TwS} {I : pI} {J : pJ} {R : pR} (h : TWX g S I J R) {p : Nat} (hp : p = 6 ∨ p = 27) (h5 : R (ad g 5) 0 = some (ad g p)) : RTW g p S I J := by
  rcases h with ⟨h1, h2⟩ | ⟨h1, h2⟩ <;> rcases hp with e | e <;> subst e
  · exact h2
  · exact absurd (Option.some.inj (h1.symm.trans h5)) (lyx_ne hy (by decide) (by decide) (by decide))
  · exact absurd (Option.some.inj (h1.symm.trans h5)) (lyx_ne hy (by decide) (by decide) (by decide))
  · exact h2
theorem TWX_of {g : GG} {S : TwS} {I : pI} {J : pJ} {R : pR} {p : Nat} (hp : p = 6 ∨ p = 27) (h5 : R (ad g 5) 0 = some (ad g p)) (h : RTW g p S I J) : TWX g S I J R := by
  rcases hp with e | e <;> subst e
  · exact Or.inl ⟨h5, h⟩
  · exact Or.inr ⟨h5, h⟩
def cTT : List Nat := [6, 8, 9, 10, 11, 12, 13, 20, 21, 23, 24, 25, 26]
theorem tsT_b : ∀ e ∈ tsT, e.1 ∈ cTT ∧ e.1 < 49 ∧ (e.2.2 * 4 ≤ nT.getD e.1 0) ∧ (e.2.2 = 1 ∨ e.2.2 = 7) ∧ kT.getD e.1 0 = 13 := by decide
theorem ttT_b : ∀ e ∈ ttT, e.1 ∈ cTT ∧ e.1 < 49 ∧ (e.2.2 * 3 ≤ nT.getD e.1 0) ∧ (e.2.2 = 1 ∨ e.2.2 = 7) ∧ kT.getD e.1 0 = 13 := by decide
theorem RTT_eq {g : GG} {S : TwS} {I I' : pI} {J J' : pJ} (h : RTT g S I J) (hb : SBn S) (e0 : ∀ q, 10 ≤ q → q ≤ 14 → I' (ad g 0) q = I (ad g 0) q) (e : ∀ c ∈ cTT, ∀ q, q < nT.getD c 0 → I' (ad g c) q = I (ad g c) q) (eJ : (∀ q, q < 4 → J' (ad g 2) q = J (ad g 2) q) ∧ ∀ q, q < 3 → J' (ad g 3) q = J (ad g 3) q) : RTT g S I' J' := by
  obtain ⟨⟨a0, a1, a2, a3, a4⟩, b, c, d, n1, n2⟩ := h
  unfold SBn at hb
  refine ⟨⟨by rw [e0 10 (by decide) (by decide)]; exact a0, by rw [e0 11 (by decide) (by decide)]; exact a1, by rw [e0 12 (by decide) (by decide)]; exact a2, by rw [e0 13 (by decide) (by decide)]; exact a3, by rw [e0 14 (by decide) (by decide)]; exact a4⟩, fun q hq => by rw [e 6 (by decide) q hq]; exact b q hq, fun x hx q hq => ?_, fun x hx q hq => ?_, fun q hq => ?_, fun q hq => ?_⟩
  · have k := tsT_b x hx
    rw [e x.1 k.1 q (by rcases k.2.2.2.1 with z | z <;> rw [z] at hq <;> rw [z] at k <;> omega)]
    exact c x hx q hq
  · have k := ttT_b x hx
    rw [e x.1 k.1 q (by rcases k.2.2.2.1 with z | z <;> rw [z] at hq <;> rw [z] at k <;> omega)]
    exact d x hx q hq
  · rw [eJ.1 q (by omega)]; exact n1 q hq
  · rw [eJ.2 q (by omega)]; exact n2 q hq
theorem cTT_lt : ∀ c ∈ cTT, c < 49 := by decide
theorem RTT_fz {g : GG} {S : TwS} {I I' : pI} {J J' : pJ} {A C Q : List Nat} (h : RTT g S I J) (hb : SBn S) (hf : fz 49 g A I I') (hj : fz 49 g C J J') (hq : fs g Q I I') (hA : ∀ i ∈ cTT, i ∉ A) (hC : 2 ∉ C ∧ 3 ∉ C) (hQ : ∀ q ∈ [10, 11, 12, 13, 14], q ∉ Q) : RTT g S I' J' :=
  RTT_eq h hb (fun q h1 h2 => hq q (hQ q (by simp; omega))) (fun c hc q _ => by rw [fz_at hf c (cTT_lt c hc) (hA c hc)]) ⟨fun q _ => by rw [fz_at hj 2 (by decide) hC.1], fun q _ => by rw [fz_at hj 3 (by decide) hC.2]⟩
theorem RTT_fc {g : GG} (hy : Ly g) {S : TwS} {I I' : pI} {J J' : pJ} {A C Q : List Nat} (h : RTT g S I J) (hb : SBn S) (hf : FC g A I I') (hj : FC g C J J') (hq : FQ g Q I I') (hA : ∀ c ∈ cTT, ∀ i ∈ A, c ≠ i ∧ i < 49) (hC : ∀ i ∈ C, 2 ≠ i ∧ 3 ≠ i ∧ i < 49) (hQ : ∀ q ∈ [10, 11, 12, 13, 14], q ∉ Q) : RTT g S I' J' :=
  RTT_eq h hb (fun q h1 h2 => hq q (hQ q (by simp; omega))) (fun c hc q _ => by rw [FC_at hy hf c (cTT_lt c hc) (hA c hc)]) ⟨fun q _ => by rw [FC_at hy hj 2 (by decide) (fun i hi => ⟨(hC i hi).1, (hC i hi).2.2⟩)], fun q _ => by rw [FC_at hy hj 3 (by decide) (fun i hi => ⟨(hC i hi).2.1, (hC i hi).2.2⟩)]⟩
theorem RTT_agr {g : GG} (hy : Ly g) {S : TwS} {I I2 : pI} {J J2 : pJ} {R R2 : pR} (hb : SBn S) (ha : AGR g I J R I2 J2 R2) (h : RTT g S I2 J2) : RTT g S I J := by
  refine RTT_eq h hb (fun q h1 h2 => ?_) (fun c hc q hq => ?_) ⟨fun q hq => agr_j ha (ly_is hy 2 14 rfl) (ly_n hy 2 4 rfl) hq, fun q hq => agr_j ha (ly_is hy 3 14 rfl) (ly_n hy 3 3 rfl) hq⟩
  · rcases (show q = 10 ∨ q = 11 ∨ q = 12 ∨ q = 13 ∨ q = 14 by omega) with e | e | e | e | e <;> subst e <;> exact agr_f ha (ly_is hy 0 11 rfl) (by decide) (by decide) rfl
  · have hc2 : c = 6 ∨ c = 8 ∨ c = 9 ∨ c = 10 ∨ c = 11 ∨ c = 12 ∨ c = 13 ∨ c = 20 ∨ c = 21 ∨ c = 23 ∨ c = 24 ∨ c = 25 ∨ c = 26 := by simpa [cTT] using hc
    rcases hc2 with e | e | e | e | e | e | e | e | e | e | e | e | e <;> subst e <;> exact agr_i ha (ly_is hy _ _ rfl) (Or.inr (Or.inl rfl)) (ly_n hy _ _ rfl) hq
/-- bytes are bytes -/
def BYT (B : Nat → Int32) : Prop := ∀ q, -128 ≤ (B q).toInt ∧ (B q).toInt ≤ 127
theorem nar_b (x : Int32) : -128 ≤ (vp_nar .byte x).toInt ∧ (vp_nar .byte x).toInt ≤ 127 := by
  have e : vp_nar .byte x = x.toInt8.toInt32 := rfl
  rw [e, Int8.toInt_toInt32]
  have h1 := Int8.le_toInt x.toInt8
  have h2 := Int8.toInt_lt x.toInt8
  omega
theorem by4_b (v : Int32) (k : Nat) : -128 ≤ (by4 v k).toInt ∧ (by4 v k).toInt ≤ 127 := by
  unfold by4
  split <;> exact nar_b _
theorem PUT_b {f : Nat → Int32} {n k : Nat} {v : Int32} (h : BYT f) : BYT (PUT f n v k) := by
  intro q
  unfold PUT
  split
  · exact by4_b _ _
  · exact h q
theorem PUT5_b {f : Nat → Int32} {n : Nat} {a b c d e : Int32} (h : BYT f) : BYT (PUT5 f n a b c d e) := PUT_b (PUT_b (PUT_b (PUT_b (PUT_b h))))
theorem TGD_0 : TGD (S0 (fun _ _ => 0)) := ⟨(S0_b _).1, ⟨PI_0 _, fun _ _ _ => rfl⟩, fun z => absurd z (by simp [S0]), TBD_0 _⟩
