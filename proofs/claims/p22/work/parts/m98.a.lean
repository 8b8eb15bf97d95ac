/-! THE REFERENCE'S DAYS -/
def CUT (w sq E1 E2 ac v : Int) : Prop := 0 ≤ v ∧ v ≤ 47 ∧ v % 4 ≤ ac % 4 ∧ v / 4 % 4 = ac / 4 % 4 ∧ v / 16 ≤ ac / 16 ∧ v % 4 ≤ E1 ∧ (w = sq ∧ v / 16 + v % 4 ≤ E2 ∨ w ≠ sq ∧ v / 16 ≤ E2)
theorem EC_mul {Lm P : Nat → Int32} {th so e pv : Int} (he : e ≤ EC Lm P th so) (hp : (P so.toNat).toInt = pv) (hp1 : 1 ≤ pv) : th = -1 ∨ (Lm th.toNat).toInt = 1000000 ∨ e * pv ≤ (Lm th.toNat).toInt := by
  unfold EC at he
  split at he
  · omega
  · right; right
    rw [hp] at he
    have k1 := Int.mul_le_mul_of_nonneg_right he (show 0 ≤ pv by omega)
    have k2 := Int.ediv_mul_le (Lm th.toNat).toInt (show pv ≠ 0 by omega)
    omega
theorem tk1 {Lm P : Nat → Int32} {w so e un pv : Int} (he : e ≤ EC Lm P w so) (hp : (P so.toNat).toInt = pv) (hp1 : 1 ≤ pv) (hu : un = e * pv) (hw : e = 0 ∨ w ≠ -1) (hw2 : -1 ≤ w) : un = 0 ∨ (0 ≤ w ∧ ((Lm w.toNat).toInt = 1000000 ∨ un ≤ (Lm w.toNat).toInt)) := by
  rcases hw with h | h
  · left; rw [hu, h, Int.zero_mul]
  · have k := EC_mul he hp hp1
    right
    omega
def TK (Lm Lm2 : Nat → Int32) (th un : Int) : Prop := ∀ q : Nat, (Lm2 q).toInt = (Lm q).toInt ∨ ((q : Int) = th ∧ (Lm2 q).toInt = (Lm q).toInt - un ∧ (Lm q).toInt ≠ 1000000)
theorem tk2 {Lm Lm2 P : Nat → Int32} {w sq so e s un1 un2 pv : Int} (ht : TK Lm Lm2 w un1) (hs : w = sq ∧ s + e ≤ EC Lm P sq so ∨ w ≠ sq ∧ s ≤ EC Lm P sq so) (h0 : 0 ≤ e) (hp : (P so.toNat).toInt = pv) (hp1 : 1 ≤ pv) (hu1 : un1 = e * pv) (hu2 : un2 = s * pv) (hw : s = 0 ∨ sq ≠ -1) (hw2 : -1 ≤ sq) : un2 = 0 ∨ (0 ≤ sq ∧ ((Lm2 sq.toNat).toInt = 1000000 ∨ un2 ≤ (Lm2 sq.toNat).toInt)) := by
  rcases hw with h | h
  · left; rw [hu2, h, Int.zero_mul]
  · right
    refine ⟨by omega, ?_⟩
    have t := ht sq.toNat
    rcases hs with ⟨e1, hs⟩ | ⟨e1, hs⟩
    · have k := EC_mul hs hp hp1
      rw [Int.add_mul, ← hu1, ← hu2] at k
      have k3 : 0 ≤ un1 := by rw [hu1]; exact Int.mul_nonneg h0 (by omega)
      omega
    · have k := EC_mul hs hp hp1
      rw [← hu2] at k
      omega
theorem wi_get {g : GG} {n : Int} {L : Int32} {I : pI} (h : MP g n L I) {q : Nat} (hq : (q : Int) < 7 * (I (ad g 0) 10).toInt) (hu : 1 ≤ (I (ad g 25) q).toInt) : (I (ad g 24) q).toInt ≠ -1 := by
  intro e
  rcases h.2.1 with h2 | h2
  · have := h2.2.2 q hq e
    omega
  · omega
theorem ca_nn {g : GG} {n : Int} {L : Int32} {I : pI} (h : MP g n L I) {th da : Int} (h1 : -1 ≤ th) (h2 : th ≤ 2) (h3 : 0 ≤ da) (h4 : da ≤ 6) : 0 ≤ CA (I (ad g 22)) th da := by
  unfold CA
  split
  · exact Int.le_refl 0
  · have b := BT_get h.1.1 22 0 21 0 0 20 (by decide) (7 * th + da).toNat (Nat.zero_le _) (by omega)
    omega
