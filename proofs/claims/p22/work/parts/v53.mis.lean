/-! A CLAUSE AS THE REFERENCE READS IT -/
def clu (B : Nat → Int) (n c p : Nat) (S : TwS) : Except ER (TwS × (Nat → Int) × Nat) := if ahd c S ≠ 0 then .error (ahd c S, tF B n p) else prts B n c (SHP c) 0 (tT B n p) S (fun _ => 0)
theorem clu_er {B : Nat → Int} {n c p i q ch : Nat} {S S1 : TwS} {P1 : Nat → Int} {er : ER} (ha : ahd c S = 0) (E : prts B n c (SHP c) 0 (tT B n p) S (fun _ => 0) = prts B n c ((SHP c).drop i) i q S1 P1) (hi : i < (SHP c).length) (hc : (SHP c).getD i 0 = ch) (h : prt B n c i ch q S1 P1 = .error er) : clu B n c p S = .error er := by
  unfold clu
  rw [if_neg (by omega), E]
  exact prts_er hi (by rw [hc]; exact h)
theorem clu_ok {B : Nat → Int} {n c p q : Nat} {S S1 : TwS} {P1 : Nat → Int} (ha : ahd c S = 0) (E : prts B n c (SHP c) 0 (tT B n p) S (fun _ => 0) = prts B n c ((SHP c).drop (SHP c).length) (SHP c).length q S1 P1) : clu B n c p S = .ok (S1, P1, q) := by
  unfold clu
  rw [if_neg (by omega), E]
  exact prts_nil (Nat.le_refl _)
theorem clu_go {B : Nat → Int} {n c p i q ch : Nat} {S S1 S2 : TwS} {P1 P2 : Nat → Int} (E : prts B n c (SHP c) 0 (tT B n p) S (fun _ => 0) = prts B n c ((SHP c).drop i) i q S1 P1) (hi : i < (SHP c).length) (hc : (SHP c).getD i 0 = ch) (h : prt B n c i ch q S1 P1 = .ok (S2, P2)) : prts B n c (SHP c) 0 (tT B n p) S (fun _ => 0) = prts B n c ((SHP c).drop (i + 1)) (i + 1) (tT B n q) S2 P2 := by
  rw [E]
  exact prts_go hi (by rw [hc]; exact h)
theorem prt_D {B : Nat → Int} {n c i q r : Nat} {S : TwS} {P : Nat → Int} (hk : tK B n q = 2) (h0 : 0 ≤ tV B n q) (h6 : tV B n q ≤ 6) (hr : c * 4 + (if c = 0 then 0 else (P 0).toNat) = r) (hb : S.2 r (tV B n q).toNat = false) : prt B n c i 68 q S P = .ok (S, fun j => if j = i then tV B n q else P j) := by
  rw [prt_u (by decide) hk, if_neg (by show ¬ (tV B n q < 0 ∨ 6 < tV B n q); omega), if_neg (by rw [hr, hb]; simp)]
theorem prt_Dx {B : Nat → Int} {n c i q r : Nat} {S : TwS} {P : Nat → Int} (hk : tK B n q = 2) (h0 : 0 ≤ tV B n q) (h6 : tV B n q ≤ 6) (hr : c * 4 + (if c = 0 then 0 else (P 0).toNat) = r) (hb : S.2 r (tV B n q).toNat = true) : prt B n c i 68 q S P = .error (3, tF B n q) := by
  rw [prt_u (by decide) hk, if_neg (by show ¬ (tV B n q < 0 ∨ 6 < tV B n q); omega), if_pos ⟨rfl, by rw [hr]; exact hb⟩]
theorem NOF_rf {g : GG} {I : pI} : NOF g I I := ⟨rfl, rfl⟩
theorem NOF_tr {g : GG} {I I1 I2 : pI} (h : NOF g I I1) (h2 : NOF g I1 I2) : NOF g I I2 := ⟨h2.1.trans h.1, h2.2.trans h.2⟩
theorem NOF_fq {g : GG} {I I1 : pI} {Q : List Nat} (h : FQ g Q I I1) (hq : 8 ∉ Q ∧ 9 ∉ Q) : NOF g I I1 := ⟨h 8 hq.1, h 9 hq.2⟩
theorem NOF_pp {g : GG} (hy : Ly g) {I : pI} {c q : Nat} {v : Int32} (hc : c ≠ 0 ∧ c < 49) : NOF g I (pp I (ad g c) q v) := ⟨by rw [pp_off _ _ (ly_ne hy (Ne.symm hc.1) (by decide) hc.2)], by rw [pp_off _ _ (ly_ne hy (Ne.symm hc.1) (by decide) hc.2)]⟩
theorem NOF_p0 {g : GG} {I : pI} {q : Nat} {v : Int32} (hc : q ≠ 8 ∧ q ≠ 9) : NOF g I (pp I (ad g 0) q v) := ⟨pp_ne _ _ (Or.inr (Ne.symm hc.1)), pp_ne _ _ (Or.inr (Ne.symm hc.2))⟩
theorem tpm_pp {g : GG} (hy : Ly g) {B : Nat → Int} {n : Nat} {I : pI} {c q : Nat} {v : Int32} (h : TPM g B n I) (hc : c ≠ 0 ∧ c ≠ 1 ∧ c < 49) : TPM g B n (pp I (ad g c) q v) := by
  unfold TPM
  rw [pp_off _ _ (ly_ne hy (Ne.symm hc.1) (by decide) hc.2.2), pp_off _ _ (ly_ne hy (Ne.symm hc.2.1) (by decide) hc.2.2)]
  exact h
theorem tpm_p0 {g : GG} (hy : Ly g) {B : Nat → Int} {n : Nat} {I : pI} {q : Nat} {v : Int32} (h : TPM g B n I) (hq : q ≠ 2) : TPM g B n (pp I (ad g 0) q v) := by
  unfold TPM
  rw [pp_ne _ _ (Or.inr (Ne.symm hq)), pp_off _ _ (ly_ne hy (by decide) (by decide) (by decide))]
  exact h
theorem cum_pp {g : GG} (hy : Ly g) {B : Nat → Int} {n p : Nat} {I : pI} {c q : Nat} {v : Int32} (h : CUM g B n p I) (hc : c ≠ 0 ∧ c < 49) : CUM g B n p (pp I (ad g c) q v) := by
  unfold CUM
  rw [pp_off _ _ (ly_ne hy (Ne.symm hc.1) (by decide) hc.2)]
  exact h
theorem cum_p0 {g : GG} {B : Nat → Int} {n p : Nat} {I : pI} {q : Nat} {v : Int32} (h : CUM g B n p I) (hq : q ≠ 3 ∧ q ≠ 4 ∧ q ≠ 5 ∧ q ≠ 6) : CUM g B n p (pp I (ad g 0) q v) := by
  unfold CUM
  rw [pp_ne _ _ (Or.inr (Ne.symm hq.1)), pp_ne _ _ (Or.inr (Ne.symm hq.2.1)), pp_ne _ _ (Or.inr (Ne.symm hq.2.2.1)), pp_ne _ _ (Or.inr (Ne.symm hq.2.2.2))]
  exact h
/-- words that are letters are alike only if they are as long and have the same letters -/
theorem wI_inj {B B' : Nat → Int} {a a' : Nat} : ∀ {k k' : Nat}, (∀ q, q < k → 97 ≤ B (a + q) ∧ B (a + q) ≤ 122) → (∀ q, q < k' → 97 ≤ B' (a' + q) ∧ B' (a' + q) ≤ 122) → wI B a k = wI B' a' k' → k = k' ∧ ∀ q, q < k → B (a + q) = B' (a' + q)
  | 0, 0, _, _, _ => ⟨rfl, fun q hq => absurd hq (Nat.not_lt_zero _)⟩
  | 0, k' + 1, _, h2, h => by
    have l2 := h2 k' (by omega)
    have b2 := wI_b (B := B') (a := a') (k := k') (fun q h1 h3 => by have := h2 (q - a') (by omega); rw [show a' + (q - a') = q by omega] at this; exact this)
    rw [wI, wI] at h
    omega
  | k + 1, 0, h1, _, h => by
    have l1 := h1 k (by omega)
    have b1 := wI_b (B := B) (a := a) (k := k) (fun q h2 h3 => by have := h1 (q - a) (by omega); rw [show a + (q - a) = q by omega] at this; exact this)
    rw [wI, wI] at h
    omega
  | k + 1, k' + 1, h1, h2, h => by
    have l1 := h1 k (by omega)
    have l2 := h2 k' (by omega)
    rw [wI, wI] at h
    have r := wI_inj (k := k) (k' := k') (fun q hq => h1 q (by omega)) (fun q hq => h2 q (by omega)) (by omega)
    refine ⟨by omega, fun q hq => ?_⟩
    by_cases e : q = k
    · subst e
      have e2 := r.1
      subst e2
      omega
    · exact r.2 q (by omega)
theorem LB_m1 : ∀ k, k < 10 → wI (LBx (22 + k)) 0 (liN.getD (22 + k) 0) = KW k := by decide
theorem LB_m2 : ∀ k, k < 10 → ∀ q, q < liN.getD (22 + k) 0 → 97 ≤ LBx (22 + k) q ∧ LBx (22 + k) q ≤ 122 := by decide
theorem wI_ext {B B' : Nat → Int} {a a' : Nat} : ∀ {k : Nat}, (∀ q, q < k → B (a + q) = B' (a' + q)) → wI B a k = wI B' a' k
  | 0, _ => rfl
  | k + 1, h => by rw [wI, wI, wI_ext (k := k) (fun q hq => h q (by omega)), h k (by omega)]
