/-! NEW OBJECTS keep the bounds: all rows begin at 0 -/
def BX (B : GB) (I : pI) : Prop := BT (gk B 74) TX 0 I
theorem bx_0 {B : GB} : BX B (fun _ _ => 0) := by
  intro e he q _ _
  have key : ∀ e ∈ TX, e.2.2.2.1 ≤ 0 ∧ 0 ≤ e.2.2.2.2.2 := by decide
  have k := key e he
  show e.2.2.2.1 ≤ (0 : Int32).toInt ∧ (0 : Int32).toInt ≤ e.2.2.2.2.1 * 0 + e.2.2.2.2.2
  have z : (0 : Int32).toInt = 0 := rfl
  rw [z, Int.mul_zero]
  omega
theorem TX74 : ∀ e ∈ TX, e.1 < 74 := by decide
theorem bx_pp {B : GB} {I : pI} {c q : Nat} {v : Int32} (h : BX B I) (hc : c < 74) (hk : (TX.all fun e => e.1 != c || decide (q < e.2.1) || decide (e.2.2.1 ≤ q) || (decide (e.2.2.2.1 ≤ v.toInt) && decide (v.toInt ≤ e.2.2.2.2.2))) = true) : BX B (pp I (b_b B + c) q v) := by
  intro e he q2 h1 h2
  have e1 : ad (gk B 74) e.1 = b_b B + e.1 := gk_ad (TX74 e he)
  have b := h e he q2 h1 h2
  rw [e1] at b ⊢
  by_cases z : e.1 = c ∧ q2 = q
  · obtain ⟨z1, z2⟩ := z
    rw [z1, z2, pp_self]
    have k := List.all_eq_true.mp hk e he
    simp only [z1, bne_self_eq_false, Bool.false_or, Bool.or_eq_true, decide_eq_true_eq, Bool.and_eq_true] at k
    omega
  · rw [pp_ne _ _ (show b_b B + e.1 ≠ b_b B + c ∨ q2 ≠ q by omega)]
    exact b
theorem bx_fi {B : GB} {I : pI} {c N : Nat} {v : Int32} (h : BX B I) (hc : c < 74) (hk : (TX.all fun e => e.1 != c || (decide (e.2.2.2.1 ≤ v.toInt) && decide (v.toInt ≤ e.2.2.2.2.2))) = true) : BX B (fi I (b_b B + c) N v) := by
  intro e he q2 h1 h2
  have e1 : ad (gk B 74) e.1 = b_b B + e.1 := gk_ad (TX74 e he)
  have b := h e he q2 h1 h2
  rw [e1] at b ⊢
  by_cases z : e.1 = c
  · have k := List.all_eq_true.mp hk e he
    simp only [z, bne_self_eq_false, Bool.false_or, decide_eq_true_eq, Bool.and_eq_true] at k
    unfold fi
    split
    · omega
    · exact b
  · rw [fi_off (show b_b B + e.1 ≠ b_b B + c by omega)]
    exact b
def BM (B : GB) (I : pI) : Prop := BT (gk B 49) TM 0 I
theorem bm_0 {B : GB} : BM B (fun _ _ => 0) := by
  intro e he q _ _
  have key : ∀ e ∈ TM, e.2.2.2.1 ≤ 0 ∧ 0 ≤ e.2.2.2.2.2 := by decide
  have k := key e he
  show e.2.2.2.1 ≤ (0 : Int32).toInt ∧ (0 : Int32).toInt ≤ e.2.2.2.2.1 * 0 + e.2.2.2.2.2
  have z : (0 : Int32).toInt = 0 := rfl
  rw [z, Int.mul_zero]
  omega
theorem TM49 : ∀ e ∈ TM, e.1 < 49 := by decide
theorem bm_pp {B : GB} {I : pI} {c q : Nat} {v : Int32} (h : BM B I) (hc : c < 49) (hk : (TM.all fun e => e.1 != c || decide (q < e.2.1) || decide (e.2.2.1 ≤ q) || (decide (e.2.2.2.1 ≤ v.toInt) && decide (v.toInt ≤ e.2.2.2.2.2))) = true) : BM B (pp I (b_b B + c) q v) := by
  intro e he q2 h1 h2
  have e1 : ad (gk B 49) e.1 = b_b B + e.1 := gk_ad (TM49 e he)
  have b := h e he q2 h1 h2
  rw [e1] at b ⊢
  by_cases z : e.1 = c ∧ q2 = q
  · obtain ⟨z1, z2⟩ := z
    rw [z1, z2, pp_self]
    have k := List.all_eq_true.mp hk e he
    simp only [z1, bne_self_eq_false, Bool.false_or, Bool.or_eq_true, decide_eq_true_eq, Bool.and_eq_true] at k
    omega
  · rw [pp_ne _ _ (show b_b B + e.1 ≠ b_b B + c ∨ q2 ≠ q by omega)]
    exact b
/-- what a new object holds (the class's, the reference's) -/
def XS00 (g : GG) (I : pI) (R : pR) : Prop := (∀ q, I (ad g 2) q = 0) ∧ I (ad g 6) 0 = 0 ∧ I (ad g 6) 1 = 0 ∧ I (ad g 6) 2 = 0 ∧ I (ad g 6) 3 = (-1) ∧ I (ad g 6) 4 = (-1) ∧ (∀ q, I (ad g 7) q = 0) ∧ I (ad g 3) 0 = 0 ∧ I (ad g 3) 1 = (-1) ∧ R (ad g 5) 0 = some (ad g 6)
def MS00 (g : GG) (I : pI) : Prop := (∀ q, I (ad g 1) q = 0) ∧ I (ad g 0) 10 = 0 ∧ I (ad g 0) 11 = 0 ∧ I (ad g 0) 12 = 0 ∧ I (ad g 0) 13 = (-1) ∧ I (ad g 0) 14 = (-1) ∧ (∀ q, I (ad g 6) q = 0) ∧ I (ad g 0) 8 = 0 ∧ I (ad g 0) 9 = (-1)
def XS0 (g : GG) (I : pI) (R : pR) : Prop := XS00 g I R ∧ XDS g dNew I ∧ XK g (S0 (fun _ _ => 0)) I
def MS0 (g : GG) (I : pI) : Prop := MS00 g I ∧ MDS g dNew I
