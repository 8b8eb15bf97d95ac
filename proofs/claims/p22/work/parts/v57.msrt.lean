/-! A SORT, A THING IS TOLD -/
def PJ (S : TwS) : Prop := S.2 36 0 = true → 0 ≤ S.1 0 4
theorem PJ_tel {c : Nat} {P : Nat → Int} {S : TwS} (hc : c < 10) (h9 : c = 9 → 0 ≤ P 0) (h0 : c ≠ 9 → 4 * c + (P 0).toNat < 36) (h : PJ S) : PJ (tel c P S) := by
  unfold PJ at h ⊢
  rcases (show c = 0 ∨ c = 1 ∨ c = 2 ∨ c = 3 ∨ c = 4 ∨ c = 5 ∨ c = 6 ∨ c = 7 ∨ c = 8 ∨ c = 9 by omega) with rfl | rfl | rfl | rfl | rfl | rfl | rfl | rfl | rfl | rfl
  · simp [tel, pp]; exact h
  · simp [tel, pp]; exact h
  · simp [tel, pp]
    intro z
    have := h z
    rw [if_neg (by omega)]
    simp [pp]; exact this
  · have z := h0 (by decide)
    have e : ¬ 36 = 12 + (P 0).toNat := by omega
    simp [tel, pp, e]; exact h
  · have z := h0 (by decide)
    have e : ¬ 36 = 16 + (P 0).toNat := by omega
    simp [tel, pp, e]; exact h
  · have z := h0 (by decide)
    have e : ¬ 36 = 20 + (P 0).toNat := by omega
    simp [tel, pp, e]; exact h
  · have z := h0 (by decide)
    have e : ¬ 36 = 24 + (P 0).toNat := by omega
    simp [tel, pp, e]; exact h
  · have z := h0 (by decide)
    have e : ¬ 36 = 28 + (P 0).toNat := by omega
    simp [tel, pp, e]; exact h
  · simp [tel, pp]; exact h
  · simp [tel, pp]; exact h9 rfl
theorem RTM_srt {g : GG} {S : TwS} {I I' : pI} {J J' : pJ} {P : Nat → Int} {w : Int} {s : Nat} (hs : S.1 0 1 = (s : Int)) (hs4 : s < 4) (h : RTM g S I J) (hPI : PI S)
    (a15 : (I' (ad g 0) 15).toInt = (s : Int) + 1) (aq : ∀ q ∈ [16, 17, 18, 51], I' (ad g 0) q = I (ad g 0) q) (c0 : ∀ c ∈ [7, 18, 19, 28, 29, 34], I' (ad g c) = I (ad g c))
    (v14 : ∀ q, q ≠ s → I' (ad g 14) q = I (ad g 14) q) (w14 : (I' (ad g 14) s).toInt = P 1) (v15 : ∀ q, q ≠ s → I' (ad g 15) q = I (ad g 15) q) (w15 : (I' (ad g 15) s).toInt = P 2) (v16 : ∀ q, q ≠ s → I' (ad g 16) q = I (ad g 16) q) (w16 : (I' (ad g 16) s).toInt = P 3)
    (v17 : ∀ q, q ≠ s → I' (ad g 17) q = I (ad g 17) q) (w17 : (I' (ad g 17) s).toInt = 0) (v33 : ∀ q, q ≠ s → I' (ad g 33) q = I (ad g 33) q) (w33 : (I' (ad g 33) s).toInt = 0)
    (r27 : ∀ q, q < 7 * s → I' (ad g 27) q = I (ad g 27) q) (t27 : ∀ d, d < 7 → (I' (ad g 27) (7 * s + d)).toInt = 0) (r30 : ∀ q, q < 7 * s → I' (ad g 30) q = I (ad g 30) q) (t30 : ∀ d, d < 7 → (I' (ad g 30) (7 * s + d)).toInt = -1)
    (r31 : ∀ q, q < 7 * s → I' (ad g 31) q = I (ad g 31) q) (t31 : ∀ d, d < 7 → (I' (ad g 31) (7 * s + d)).toInt = 0) (r32 : ∀ q, q < 7 * s → I' (ad g 32) q = I (ad g 32) q) (t32 : ∀ d, d < 7 → (I' (ad g 32) (7 * s + d)).toInt = 0)
    (n4 : ∀ q, q ≠ s → J' (ad g 4) q = J (ad g 4) q) (m4 : (J' (ad g 4) s).toInt = c5 8 w) (ok : okW 8 w) (n5 : J' (ad g 5) = J (ad g 5)) : RTM g (tel 1 P (pp S.1 14 (S.1 0 1).toNat w, S.2)) I' J' := by
  obtain ⟨⟨a1, a2, a3, a4⟩, b, c, d2, e, f, k, nm1, nm2⟩ := h
  obtain ⟨p1, p2, p3, -⟩ := hPI
  have hst : (S.1 0 1).toNat = s := by omega
  have A01 : (tel 1 P (pp S.1 14 (S.1 0 1).toNat w, S.2)).1 0 1 = (s : Int) + 1 := by simp [tel, pp, hs]
  have A02 : (tel 1 P (pp S.1 14 (S.1 0 1).toNat w, S.2)).1 0 2 = S.1 0 2 := by simp [tel, pp]
  have A03 : (tel 1 P (pp S.1 14 (S.1 0 1).toNat w, S.2)).1 0 3 = S.1 0 3 := by simp [tel, pp]
  have A04 : (tel 1 P (pp S.1 14 (S.1 0 1).toNat w, S.2)).1 0 4 = S.1 0 4 := by simp [tel, pp]
  have Ac : ∀ c q, 5 ≤ c ∧ c ≤ 13 ∨ c = 1 → (tel 1 P (pp S.1 14 (S.1 0 1).toNat w, S.2)).1 c q = S.1 c q := by
    intro c q hc
    simp only [tel, pp]
    rw [if_neg (by omega), if_neg (by omega), if_neg (by omega), if_neg (by omega), if_neg (by omega), if_neg (by omega)]
  have A2 : ∀ q, (tel 1 P (pp S.1 14 (S.1 0 1).toNat w, S.2)).1 2 q = if q = s then P 1 else S.1 2 q := by intro q; simp [tel, pp, hst]
  have A3 : ∀ q, (tel 1 P (pp S.1 14 (S.1 0 1).toNat w, S.2)).1 3 q = if q = s then P 2 else S.1 3 q := by intro q; simp [tel, pp, hst]
  have A4 : ∀ q, (tel 1 P (pp S.1 14 (S.1 0 1).toNat w, S.2)).1 4 q = if q = s then P 3 else S.1 4 q := by intro q; simp [tel, pp, hst]
  have A14 : ∀ q, (tel 1 P (pp S.1 14 (S.1 0 1).toNat w, S.2)).1 14 q = if q = s then w else S.1 14 q := by intro q; simp [tel, pp, hst]
  have T2 : (tel 1 P (pp S.1 14 (S.1 0 1).toNat w, S.2)).2 = S.2 := rfl
  generalize tel 1 P (pp S.1 14 (S.1 0 1).toNat w, S.2) = Z at *
  have row1 : ∀ (cell ab : Nat) (vv : Int), (∀ q, q ≠ s → I' (ad g cell) q = I (ad g cell) q) → (I' (ad g cell) s).toInt = vv → (∀ q, Z.1 ab q = if q = s then vv else S.1 ab q) → (∀ q : Nat, (q : Int) < ((1 : Nat) : Int) * S.1 0 1 → (I (ad g cell) q).toInt = S.1 ab q) → ∀ q : Nat, (q : Int) < ((1 : Nat) : Int) * ((s : Int) + 1) → (I' (ad g cell) q).toInt = Z.1 ab q := by
    intro cell ab vv h1 h2 h3 h4 q hq
    rw [h3]
    by_cases e9 : q = s
    · rw [if_pos e9, e9]; exact h2
    · rw [if_neg e9, h1 q e9]; exact h4 q (by omega)
  have row7 : ∀ (cell ab : Nat) (vv : Int), (∀ q, q < 7 * s → I' (ad g cell) q = I (ad g cell) q) → (∀ d, d < 7 → (I' (ad g cell) (7 * s + d)).toInt = vv) → (∀ q : Nat, 7 * S.1 0 1 ≤ (q : Int) → S.1 ab q = vv) → (∀ q, Z.1 ab q = S.1 ab q) → (∀ q : Nat, (q : Int) < ((7 : Nat) : Int) * S.1 0 1 → (I (ad g cell) q).toInt = S.1 ab q) → ∀ q : Nat, (q : Int) < ((7 : Nat) : Int) * ((s : Int) + 1) → (I' (ad g cell) q).toInt = Z.1 ab q := by
    intro cell ab vv h1 h2 h3 h4 h5 q hq
    rw [h4]
    by_cases e9 : q < 7 * s
    · rw [h1 q e9]; exact h5 q (by omega)
    · rw [h3 q (by omega), show q = 7 * s + (q - 7 * s) by omega]; exact h2 _ (by omega)
  refine ⟨⟨by rw [A01]; exact a15, by rw [A02, aq 16 (by decide)]; exact a2, by rw [A03, aq 17 (by decide)]; exact a3, by rw [T2, A04, aq 18 (by decide)]; exact a4⟩, fun q h1 => ?_, fun x h1 => ?_, fun z hz q h1 => ?_, fun z hz q h1 => ?_, fun s2 h1 x h2 => ?_, fun s2 h1 x h2 => ?_, fun q h1 => ?_, fun q h1 => ?_⟩
  · rw [c0 7 (by decide), Ac 1 q (Or.inr rfl)]; exact b q h1
  · rw [aq 51 (by decide), T2]; exact c x h1
  · rw [A01] at h1
    simp only [rsT, List.mem_cons, List.not_mem_nil, or_false] at hz
    rcases hz with rfl | rfl | rfl | rfl | rfl | rfl | rfl | rfl
    · exact row1 14 2 (P 1) v14 w14 A2 (d2 (14, 2, 1) (by decide)) q h1
    · exact row1 15 3 (P 2) v15 w15 A3 (d2 (15, 3, 1) (by decide)) q h1
    · exact row1 16 4 (P 3) v16 w16 A4 (d2 (16, 4, 1) (by decide)) q h1
    · refine row1 17 5 0 v17 w17 (fun q9 => ?_) (d2 (17, 5, 1) (by decide)) q h1
      rw [Ac 5 q9 (by omega)]
      split
      · rename_i e9; exact p2 q9 (by omega)
      · rfl
    · exact row7 27 6 0 r27 t27 (fun q9 h9 => (p1 q9 h9).1) (fun q9 => Ac 6 q9 (by omega)) (d2 (27, 6, 7) (by decide)) q h1
    · exact row7 30 7 (-1) r30 t30 (fun q9 h9 => (p1 q9 h9).2.1) (fun q9 => Ac 7 q9 (by omega)) (d2 (30, 7, 7) (by decide)) q h1
    · exact row7 31 8 0 r31 t31 (fun q9 h9 => (p1 q9 h9).2.2.1) (fun q9 => Ac 8 q9 (by omega)) (d2 (31, 8, 7) (by decide)) q h1
    · exact row7 32 9 0 r32 t32 (fun q9 h9 => (p1 q9 h9).2.2.2) (fun q9 => Ac 9 q9 (by omega)) (d2 (32, 9, 7) (by decide)) q h1
  · rw [A02] at h1
    have hzz := rtT_b z hz
    rw [Ac z.2.1 q (by omega)]
    simp only [rtT, List.mem_cons, List.not_mem_nil, or_false] at hz
    rcases hz with rfl | rfl | rfl | rfl
    · rw [c0 18 (by decide)]; exact e (18, 10, 1) (by decide) q h1
    · rw [c0 19 (by decide)]; exact e (19, 11, 1) (by decide) q h1
    · rw [c0 28 (by decide)]; exact e (28, 12, 7) (by decide) q h1
    · rw [c0 29 (by decide)]; exact e (29, 13, 7) (by decide) q h1
  · rw [A01] at h1
    rw [T2]
    by_cases e9 : s2 = s
    · subst e9
      rw [p3 s2 (by omega) hs4 x h2]; exact tb0 _ _ w33
    · rw [v33 s2 e9]; exact f s2 (by omega) x h2
  · rw [A02] at h1
    rw [c0 34 (by decide), T2]; exact k s2 h1 x h2
  · rw [A01] at h1
    rw [Nat.zero_add, A14]
    by_cases e9 : q = s
    · rw [if_pos e9, e9]; exact ⟨m4, ok⟩
    · have z := nm1 q (by omega)
      rw [Nat.zero_add] at z
      rw [if_neg e9, n4 q e9]; exact z
  · rw [A02] at h1
    have z := nm2 q h1
    rw [n5, A14, if_neg (by omega)]; exact z
theorem RTM_thg {g : GG} {S : TwS} {I I' : pI} {J J' : pJ} {P : Nat → Int} {w : Int} {s : Nat} (hs : S.1 0 2 = (s : Int)) (hs4 : s < 3) (hb1 : S.1 0 1 ≤ 4) (h : RTM g S I J) (hPI : PI S) (hPJ : PJ S)
    (a15 : (I' (ad g 0) 16).toInt = (s : Int) + 1) (aq : ∀ q ∈ [15, 17, 18, 51], I' (ad g 0) q = I (ad g 0) q) (c0 : ∀ c ∈ [7, 14, 15, 16, 17, 27, 30, 31, 32, 33], I' (ad g c) = I (ad g c))
    (v14 : ∀ q, q ≠ s → I' (ad g 18) q = I (ad g 18) q) (w14 : (I' (ad g 18) s).toInt = P 1) (v15 : ∀ q, q ≠ s → I' (ad g 19) q = I (ad g 19) q) (w15 : (I' (ad g 19) s).toInt = P 2) (v33 : ∀ q, q ≠ s → I' (ad g 34) q = I (ad g 34) q) (w33 : (I' (ad g 34) s).toInt = 0)
    (r27 : ∀ q, q < 7 * s → I' (ad g 28) q = I (ad g 28) q) (t27 : ∀ d, d < 7 → (I' (ad g 28) (7 * s + d)).toInt = 5) (r30 : ∀ q, q < 7 * s → I' (ad g 29) q = I (ad g 29) q) (t30 : ∀ d, d < 7 → (I' (ad g 29) (7 * s + d)).toInt = -1)
    (n4 : ∀ q, q ≠ s → J' (ad g 5) q = J (ad g 5) q) (m4 : (J' (ad g 5) s).toInt = c5 8 w) (ok : okW 8 w) (n5 : J' (ad g 4) = J (ad g 4)) : RTM g (tel 2 P (pp S.1 14 (4 + (S.1 0 2).toNat) w, S.2)) I' J' := by
  obtain ⟨⟨a1, a2, a3, a4⟩, b, c, d2, e, f, k, nm1, nm2⟩ := h
  obtain ⟨-, -, -, p1, p3, -⟩ := hPI
  have hst : (S.1 0 2).toNat = s := by omega
  have A01 : (tel 2 P (pp S.1 14 (4 + (S.1 0 2).toNat) w, S.2)).1 0 2 = (s : Int) + 1 := by
    simp only [tel]
    split <;> simp [pp, hs]
  have A02 : (tel 2 P (pp S.1 14 (4 + (S.1 0 2).toNat) w, S.2)).1 0 1 = S.1 0 1 := by
    simp only [tel]
    split <;> simp [pp]
  have A03 : (tel 2 P (pp S.1 14 (4 + (S.1 0 2).toNat) w, S.2)).1 0 3 = S.1 0 3 := by
    simp only [tel]
    split <;> simp [pp]
  have A04 : 0 ≤ S.1 0 4 → (tel 2 P (pp S.1 14 (4 + (S.1 0 2).toNat) w, S.2)).1 0 4 = S.1 0 4 := by
    intro hz
    have e0 : pp (pp S.1 14 (4 + (S.1 0 2).toNat) w) 0 0 (pp S.1 14 (4 + (S.1 0 2).toNat) w 0 0 + 1) 0 4 = S.1 0 4 := by simp [pp]
    simp only [tel]
    rw [if_neg (by rw [e0]; omega)]
    simp [pp]
  have Ac : ∀ c q, (1 ≤ c ∧ c ≤ 9) ∨ c = 12 ∨ c = 13 → (tel 2 P (pp S.1 14 (4 + (S.1 0 2).toNat) w, S.2)).1 c q = S.1 c q := by
    intro c q hc
    simp only [tel]
    split
    · simp only [pp]
      rw [if_neg (by omega), if_neg (by omega), if_neg (by omega), if_neg (by omega), if_neg (by omega), if_neg (by omega)]
    · simp only [pp]
      rw [if_neg (by omega), if_neg (by omega), if_neg (by omega), if_neg (by omega), if_neg (by omega)]
  have A2 : ∀ q, (tel 2 P (pp S.1 14 (4 + (S.1 0 2).toNat) w, S.2)).1 10 q = if q = s then P 1 else S.1 10 q := by
    intro q
    simp only [tel]
    split <;> simp [pp, hst]
  have A3 : ∀ q, (tel 2 P (pp S.1 14 (4 + (S.1 0 2).toNat) w, S.2)).1 11 q = if q = s then P 2 else S.1 11 q := by
    intro q
    simp only [tel]
    split <;> simp [pp, hst]
  have A14 : ∀ q, (tel 2 P (pp S.1 14 (4 + (S.1 0 2).toNat) w, S.2)).1 14 q = if q = 4 + s then w else S.1 14 q := by
    intro q
    simp only [tel]
    split <;> simp [pp, hst]
  have T2 : (tel 2 P (pp S.1 14 (4 + (S.1 0 2).toNat) w, S.2)).2 = S.2 := rfl
  generalize tel 2 P (pp S.1 14 (4 + (S.1 0 2).toNat) w, S.2) = Z at *
  have row1 : ∀ (cell ab : Nat) (vv : Int), (∀ q, q ≠ s → I' (ad g cell) q = I (ad g cell) q) → (I' (ad g cell) s).toInt = vv → (∀ q, Z.1 ab q = if q = s then vv else S.1 ab q) → (∀ q : Nat, (q : Int) < ((1 : Nat) : Int) * S.1 0 2 → (I (ad g cell) q).toInt = S.1 ab q) → ∀ q : Nat, (q : Int) < ((1 : Nat) : Int) * ((s : Int) + 1) → (I' (ad g cell) q).toInt = Z.1 ab q := by
    intro cell ab vv h1 h2 h3 h4 q hq
    rw [h3]
    by_cases e9 : q = s
    · rw [if_pos e9, e9]; exact h2
    · rw [if_neg e9, h1 q e9]; exact h4 q (by omega)
  have row7 : ∀ (cell ab : Nat) (vv : Int), (∀ q, q < 7 * s → I' (ad g cell) q = I (ad g cell) q) → (∀ d, d < 7 → (I' (ad g cell) (7 * s + d)).toInt = vv) → (∀ q : Nat, 7 * S.1 0 2 ≤ (q : Int) → S.1 ab q = vv) → (∀ q, Z.1 ab q = S.1 ab q) → (∀ q : Nat, (q : Int) < ((7 : Nat) : Int) * S.1 0 2 → (I (ad g cell) q).toInt = S.1 ab q) → ∀ q : Nat, (q : Int) < ((7 : Nat) : Int) * ((s : Int) + 1) → (I' (ad g cell) q).toInt = Z.1 ab q := by
    intro cell ab vv h1 h2 h3 h4 h5 q hq
    rw [h4]
    by_cases e9 : q < 7 * s
    · rw [h1 q e9]; exact h5 q (by omega)
    · rw [h3 q (by omega), show q = 7 * s + (q - 7 * s) by omega]; exact h2 _ (by omega)
  refine ⟨⟨by rw [A02, aq 15 (by decide)]; exact a1, by rw [A01]; exact a15, by rw [A03, aq 17 (by decide)]; exact a3, ?_⟩, fun q h1 => ?_, fun x h1 => ?_, fun z hz q h1 => ?_, fun z hz q h1 => ?_, fun s2 h1 x h2 => ?_, fun s2 h1 x h2 => ?_, fun q h1 => ?_, fun q h1 => ?_⟩
  · rw [T2, aq 18 (by decide), a4]
    split
    · rename_i e9; rw [A04 (hPJ e9)]
    · rfl
  · rw [c0 7 (by decide), Ac 1 q (by omega)]; exact b q h1
  · rw [aq 51 (by decide), T2]; exact c x h1
  · rw [A02] at h1
    have hzz := rsT_b z hz
    rw [Ac z.2.1 q (by omega)]
    have hz2 := rsT_c z hz
    have key : ∀ c ∈ [14, 15, 16, 17, 27, 30, 31, 32], c ∈ [7, 14, 15, 16, 17, 27, 30, 31, 32, 33] := by decide
    rw [c0 z.1 (key _ hz2)]; exact d2 z hz q h1
  · rw [A01] at h1
    simp only [rtT, List.mem_cons, List.not_mem_nil, or_false] at hz
    rcases hz with rfl | rfl | rfl | rfl
    · exact row1 18 10 (P 1) v14 w14 A2 (e (18, 10, 1) (by decide)) q h1
    · exact row1 19 11 (P 2) v15 w15 A3 (e (19, 11, 1) (by decide)) q h1
    · exact row7 28 12 5 r27 t27 (fun q9 h9 => (p1 q9 h9).1) (fun q9 => Ac 12 q9 (by omega)) (e (28, 12, 7) (by decide)) q h1
    · exact row7 29 13 (-1) r30 t30 (fun q9 h9 => (p1 q9 h9).2) (fun q9 => Ac 13 q9 (by omega)) (e (29, 13, 7) (by decide)) q h1
  · rw [A02] at h1
    rw [c0 33 (by decide), T2]; exact f s2 h1 x h2
  · rw [A01] at h1
    rw [T2]
    by_cases e9 : s2 = s
    · subst e9
      rw [p3 s2 (by omega) hs4 x h2]; exact tb0 _ _ w33
    · rw [v33 s2 e9]; exact k s2 (by omega) x h2
  · rw [A02] at h1
    have z := nm1 q h1
    rw [n5, A14, if_neg (by omega)]; exact z
  · rw [A01] at h1
    rw [A14]
    by_cases e9 : q = s
    · rw [if_pos (by omega), e9]; exact ⟨m4, ok⟩
    · have z := nm2 q (by omega)
      rw [if_neg (by omega), n4 q e9]; exact z
