/-! THE READING, pure: what a clause that is read has -/
def gdP (ch : Nat) (v : Int) (S : TwS) : Prop := (ch = 115 → 0 ≤ v ∧ v < S.1 0 1) ∧ (ch = 116 → 0 ≤ v ∧ v < S.1 0 2) ∧ (ch < 97 → loB ch ≤ v ∧ v ≤ hiB ch)
theorem fnS_b {S : TwS} {w : Int} (h : fnS S w ≠ -1) (hb : 0 ≤ S.1 0 1) : 0 ≤ fnS S w ∧ fnS S w < S.1 0 1 := by
  unfold fnS at h ⊢
  rcases fnd_b (nm := S.1 14) (b := 0) (w := w) (S.1 0 1).toNat 0 with e | e
  · exact absurd e h
  · omega
theorem fnT_b {S : TwS} {w : Int} (h : fnT S w ≠ -1) (hb : 0 ≤ S.1 0 2) : 0 ≤ fnT S w ∧ fnT S w < S.1 0 2 := by
  unfold fnT at h ⊢
  rcases fnd_b (nm := S.1 14) (b := 4) (w := w) (S.1 0 2).toNat 0 with e | e
  · exact absurd e h
  · omega
theorem prt_ok {B : Nat → Int} {n cl i ch p : Nat} {S S2 : TwS} {P P2 : Nat → Int} (hb : SBn S) (hch : ch < 97 ∨ ch = 110 ∨ ch = 109 ∨ ch = 115 ∨ ch = 116) (h : prt B n cl i ch p S P = .ok (S2, P2)) :
    (∀ q, S2.1 0 q = S.1 0 q) ∧ (∀ c q, c ≠ 14 → S2.1 c q = S.1 c q) ∧ S2.2 = S.2 ∧ (∀ j, j ≠ i → P2 j = P j) ∧ gdP ch (P2 i) S := by
  obtain ⟨b1, b2, b3, b4⟩ := hb
  unfold prt at h
  by_cases h97 : 97 ≤ ch
  · rw [if_pos h97] at h
    split at h
    · exact absurd h (by simp)
    split at h
    · rename_i e
      split at h
      · exact absurd h (by simp)
      · obtain ⟨rfl, rfl⟩ := Prod.mk.inj (Except.ok.inj h)
        refine ⟨fun q => ?_, fun c q hc => ?_, rfl, fun _ _ => rfl, ?_⟩
        · simp [pp]
        · show pp S.1 14 _ _ c q = _
          rw [pp_off _ _ hc]
        · unfold gdP; exact ⟨fun e2 => by omega, fun e2 => by omega, fun e2 => by omega⟩
    split at h
    · rename_i e
      split at h
      · exact absurd h (by simp)
      · obtain ⟨rfl, rfl⟩ := Prod.mk.inj (Except.ok.inj h)
        refine ⟨fun q => ?_, fun c q hc => ?_, rfl, fun _ _ => rfl, ?_⟩
        · simp [pp]
        · show pp S.1 14 _ _ c q = _
          rw [pp_off _ _ hc]
        · unfold gdP; exact ⟨fun e2 => by omega, fun e2 => by omega, fun e2 => by omega⟩
    split at h
    · rename_i e
      split at h
      · exact absurd h (by simp)
      split at h
      · exact absurd h (by simp)
      · rename_i e2 e3
        obtain ⟨rfl, rfl⟩ := Prod.mk.inj (Except.ok.inj h)
        have := fnS_b e2 b1
        refine ⟨fun _ => rfl, fun _ _ _ => rfl, rfl, fun j hj => if_neg hj, ?_⟩
        unfold gdP
        simp only [if_true]
        exact ⟨fun _ => this, fun e4 => by omega, fun e4 => by omega⟩
    · rename_i e
      split at h
      · exact absurd h (by simp)
      · rename_i e2
        obtain ⟨rfl, rfl⟩ := Prod.mk.inj (Except.ok.inj h)
        have := fnT_b e2 b3
        refine ⟨fun _ => rfl, fun _ _ _ => rfl, rfl, fun j hj => if_neg hj, ?_⟩
        unfold gdP
        simp only [if_true]
        exact ⟨fun e4 => by omega, fun _ => this, fun e4 => by omega⟩
  · rw [if_neg h97] at h
    generalize (cl * 4 + if cl = 0 then 0 else (P 0).toNat) = zz at h
    split at h
    · exact absurd h (by simp)
    split at h
    · exact absurd h (by simp)
    split at h
    · exact absurd h (by simp)
    · rename_i e2 e3
      obtain ⟨rfl, rfl⟩ := Prod.mk.inj (Except.ok.inj h)
      refine ⟨fun _ => rfl, fun _ _ _ => rfl, rfl, fun j hj => if_neg hj, ?_⟩
      unfold gdP
      simp only [if_true]
      exact ⟨fun e4 => by omega, fun e4 => by omega, fun _ => by omega⟩
theorem gdP_S {ch : Nat} {v : Int} {S S2 : TwS} (h : gdP ch v S2) (e : ∀ q, S2.1 0 q = S.1 0 q) : gdP ch v S := by
  unfold gdP at h ⊢
  rw [e 1, e 2] at h
  exact h
theorem prts_ok {B : Nat → Int} {n cl : Nat} : ∀ (l : List Nat) (i p : Nat) (S : TwS) (P : Nat → Int) (S2 : TwS) (P2 : Nat → Int) (p2 : Nat), SBn S → p ≤ n → (∀ ch ∈ l, ch < 97 ∨ ch = 110 ∨ ch = 109 ∨ ch = 115 ∨ ch = 116) → prts B n cl l i p S P = .ok (S2, P2, p2) →
    (∀ q, S2.1 0 q = S.1 0 q) ∧ (∀ c q, c ≠ 14 → S2.1 c q = S.1 c q) ∧ S2.2 = S.2 ∧ (∀ j, j < i → P2 j = P j) ∧ (∀ j, j < l.length → gdP (l.getD j 0) (P2 (i + j)) S) ∧ p ≤ p2 ∧ p2 ≤ n
  | [], i, p, S, P, S2, P2, p2, hb, hp, hl, h => by
    unfold prts at h
    obtain ⟨rfl, hz⟩ := Prod.mk.inj (Except.ok.inj h)
    obtain ⟨rfl, rfl⟩ := Prod.mk.inj hz
    exact ⟨fun _ => rfl, fun _ _ _ => rfl, rfl, fun _ _ => rfl, fun j hj => absurd hj (Nat.not_lt_zero _), Nat.le_refl _, hp⟩
  | ch :: l, i, p, S, P, S2, P2, p2, hb, hp, hl, h => by
    unfold prts at h
    cases e : prt B n cl i ch p S P with
    | error x => rw [e] at h; exact absurd h (by simp)
    | ok x =>
      obtain ⟨S1, P1⟩ := x
      rw [e] at h
      have k := prt_ok hb (hl ch List.mem_cons_self) e
      have hb1 : SBn S1 := by unfold SBn; rw [k.1 1, k.1 2]; exact hb
      have tl := tF_le B hp
      have tt := tT_le B hp
      have r := prts_ok l (i + 1) (tT B n p) S1 P1 S2 P2 p2 hb1 tt.2 (fun c hc => hl c (List.mem_cons_of_mem _ hc)) h
      refine ⟨fun q => (r.1 q).trans (k.1 q), fun c q hc => (r.2.1 c q hc).trans (k.2.1 c q hc), r.2.2.1.trans k.2.2.1, fun j hj => (r.2.2.2.1 j (by omega)).trans (k.2.2.2.1 j (by omega)), fun j hj => ?_, by have := r.2.2.2.2.2.1; omega, r.2.2.2.2.2.2⟩
      cases j with
      | zero =>
        show gdP ch (P2 (i + 0)) S
        rw [Nat.add_zero, r.2.2.2.1 i (by omega)]
        exact k.2.2.2.2
      | succ j =>
        have r5 := r.2.2.2.2.1 j (by simpa using hj)
        rw [show i + (j + 1) = i + 1 + j by omega]
        exact gdP_S r5 k.1
theorem SHP_ch : ∀ c, c < 12 → ∀ ch ∈ SHP c, ch < 97 ∨ ch = 110 ∨ ch = 109 ∨ ch = 115 ∨ ch = 116 := by decide
theorem clz_ok {B : Nat → Int} {n cl p : Nat} {S S2 : TwS} {P2 : Nat → Int} {p2 : Nat} (hb : SBn S) (hp : p ≤ n) (hc : cl < 12) (h : clz B n cl p S = .ok (S2, P2, p2)) :
    (∀ q, S2.1 0 q = S.1 0 q) ∧ (∀ c q, c ≠ 14 → S2.1 c q = S.1 c q) ∧ S2.2 = S.2 ∧ (∀ j, j < (SHP cl).length → gdP ((SHP cl).getD j 0) (P2 j) S) ∧ p ≤ p2 ∧ p2 ≤ n ∧ tK B n p2 = 3 := by
  unfold clz at h
  cases e : prts B n cl (SHP cl) 0 p S (fun _ => 0) with
  | error x => rw [e] at h; exact absurd h (by simp)
  | ok x =>
    obtain ⟨S1, P1, p1⟩ := x
    rw [e] at h
    simp only at h
    split at h
    · exact absurd h (by simp)
    · rename_i e3
      obtain ⟨rfl, hz⟩ := Prod.mk.inj (Except.ok.inj h)
      obtain ⟨rfl, rfl⟩ := Prod.mk.inj hz
      have r := prts_ok (SHP cl) 0 p S _ S1 P1 p1 hb hp (SHP_ch cl hc) e
      refine ⟨r.1, r.2.1, r.2.2.1, fun j hj => ?_, r.2.2.2.2.2.1, r.2.2.2.2.2.2, by omega⟩
      have := r.2.2.2.2.1 j hj
      rw [Nat.zero_add] at this
      exact this
theorem prts_at {B : Nat → Int} {n cl i p : Nat} {l : List Nat} {S : TwS} {P : Nat → Int} (hi : i < l.length) : prts B n cl (l.drop i) i p S P = match prt B n cl i (l.getD i 0) p S P with
    | .error e => .error e
    | .ok (S2, P2) => prts B n cl (l.drop (i + 1)) (i + 1) (tT B n p) S2 P2 := by
  rw [List.drop_eq_getElem_cons hi, prts, List.getD_eq_getElem?_getD, List.getElem?_eq_getElem hi]
  rfl
/-- where the numbers of parts begin -/
def loP (c : Nat) : Nat := if c = 1 ∨ c = 2 then 1 else 0
theorem FC_fi {g : GG} {C : List Nat} {f f1 : pI} {c n : Nat} {v : Int32} (h : FC g C f f1) (hm : c ∈ C) : FC g C f (fi f1 (ad g c) n v) := fun b hb => by
  rw [fi_off (hb c hm)]
  exact h b hb
