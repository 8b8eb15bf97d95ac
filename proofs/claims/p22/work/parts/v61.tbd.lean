/-! BOUNDS of a town that is read; it holds of each town -/
def RBm (f : Nat → Nat → Int) (c : Nat) (m lo hi : Int) : Prop := ∀ q : Nat, (q : Int) < m → lo ≤ f c q ∧ f c q ≤ hi
theorem RBm_pp {f : Nat → Nat → Int} {c d k : Nat} {m lo hi v : Int} (h : RBm f c m lo hi) (hv : d = c → lo ≤ v ∧ v ≤ hi) : RBm (pp f d k v) c m lo hi := by
  intro q hq
  unfold pp
  split
  · rename_i e; exact hv e.1.symm
  · exact h q hq
theorem RBm_push {f : Nat → Nat → Int} {c : Nat} {m lo hi v : Int} (h : RBm f c m lo hi) (hm : 0 ≤ m) (hv : lo ≤ v ∧ v ≤ hi) : RBm (pp f c m.toNat v) c (m + 1) lo hi := by
  intro q hq
  rw [pp_at]
  split
  · exact hv
  · exact h q (by omega)
theorem RBm_off {f f' : Nat → Nat → Int} {c : Nat} {m lo hi : Int} (h : RBm f c m lo hi) (e : f' c = f c) : RBm f' c m lo hi := by
  intro q hq
  rw [e]
  exact h q hq
theorem RBm_up {f : Nat → Nat → Int} {c : Nat} {m lo hi hi2 : Int} (h : RBm f c m lo hi) (e : hi ≤ hi2) : RBm f c m lo hi2 := fun q hq => ⟨(h q hq).1, Int.le_trans (h q hq).2 e⟩
def TBr (f : Nat → Nat → Int) (s t : Int) : Prop :=
  (RBm f 1 7 0 900 ∧ RBm f 5 4 0 127 ∧ RBm f 6 28 0 20 ∧ RBm f 7 28 (-1) (t - 1) ∧ RBm f 8 28 0 3 ∧ RBm f 9 28 0 99 ∧ RBm f 12 21 1 20 ∧ RBm f 13 21 (-1) 999) ∧
  (RBm f 2 s 1 99 ∧ RBm f 3 s 0 1000 ∧ RBm f 4 s 0 60) ∧ (RBm f 10 t 0 1000 ∧ RBm f 11 t 0 9)
def WUI (f : Nat → Nat → Int) : Prop := ∀ q : Nat, q < 28 → (f 7 q = -1 → f 8 q = 0 ∧ f 9 q = 0) ∧ (f 7 q ≠ -1 → 1 ≤ f 8 q)
def TBD (S : TwS) : Prop := TBr S.1 (S.1 0 1) (S.1 0 2) ∧ WUI S.1 ∧ (0 ≤ S.1 0 0 ∧ -1 ≤ S.1 0 3 ∧ S.1 0 3 < S.1 0 1 ∧ -1 ≤ S.1 0 4 ∧ S.1 0 4 < S.1 0 2) ∧ (S.1 0 2 ≠ 0 → S.1 0 4 ≠ -1)
theorem TBr_pp {f : Nat → Nat → Int} {s t v : Int} {d k : Nat} (h : TBr f s t) (h1 : d = 1 → 0 ≤ v ∧ v ≤ 900) (h5 : d = 5 → 0 ≤ v ∧ v ≤ 127) (h6 : d = 6 → 0 ≤ v ∧ v ≤ 20) (h7 : d = 7 → -1 ≤ v ∧ v ≤ t - 1) (h8 : d = 8 → 0 ≤ v ∧ v ≤ 3) (h9 : d = 9 → 0 ≤ v ∧ v ≤ 99) (h12 : d = 12 → 1 ≤ v ∧ v ≤ 20) (h13 : d = 13 → -1 ≤ v ∧ v ≤ 999) (hz : d ≠ 2 ∧ d ≠ 3 ∧ d ≠ 4 ∧ d ≠ 10 ∧ d ≠ 11) : TBr (pp f d k v) s t := by
  obtain ⟨⟨a1, a2, a3, a4, a5, a6, a7, a8⟩, ⟨b1, b2, b3⟩, c1, c2⟩ := h
  exact ⟨⟨RBm_pp a1 h1, RBm_pp a2 h5, RBm_pp a3 h6, RBm_pp a4 h7, RBm_pp a5 h8, RBm_pp a6 h9, RBm_pp a7 h12, RBm_pp a8 h13⟩, ⟨RBm_pp b1 (fun e => absurd e hz.1), RBm_pp b2 (fun e => absurd e hz.2.1), RBm_pp b3 (fun e => absurd e hz.2.2.1)⟩, RBm_pp c1 (fun e => absurd e hz.2.2.2.1), RBm_pp c2 (fun e => absurd e hz.2.2.2.2)⟩
/-- a place of no row of bounds -/
theorem TBr_0 {f : Nat → Nat → Int} {s t v : Int} {d k : Nat} (h : TBr f s t) (hd : d = 0 ∨ d = 14) : TBr (pp f d k v) s t :=
  TBr_pp h (fun e => by omega) (fun e => by omega) (fun e => by omega) (fun e => by omega) (fun e => by omega) (fun e => by omega) (fun e => by omega) (fun e => by omega) (by omega)
theorem TBr_S {f : Nat → Nat → Int} {s t : Int} {v1 v2 v3 : Int} (h : TBr f s t) (hs : 0 ≤ s) (h1 : 1 ≤ v1 ∧ v1 ≤ 99) (h2 : 0 ≤ v2 ∧ v2 ≤ 1000) (h3 : 0 ≤ v3 ∧ v3 ≤ 60) : TBr (pp (pp (pp f 2 s.toNat v1) 3 s.toNat v2) 4 s.toNat v3) (s + 1) t := by
  obtain ⟨⟨a1, a2, a3, a4, a5, a6, a7, a8⟩, ⟨b1, b2, b3⟩, c1, c2⟩ := h
  have o : ∀ c, c ≠ 2 → c ≠ 3 → c ≠ 4 → (pp (pp (pp f 2 s.toNat v1) 3 s.toNat v2) 4 s.toNat v3) c = f c := fun c e2 e3 e4 => by rw [pp_off _ _ e4, pp_off _ _ e3, pp_off _ _ e2]
  refine ⟨⟨RBm_off a1 (o 1 (by decide) (by decide) (by decide)), RBm_off a2 (o 5 (by decide) (by decide) (by decide)), RBm_off a3 (o 6 (by decide) (by decide) (by decide)), RBm_off a4 (o 7 (by decide) (by decide) (by decide)), RBm_off a5 (o 8 (by decide) (by decide) (by decide)), RBm_off a6 (o 9 (by decide) (by decide) (by decide)), RBm_off a7 (o 12 (by decide) (by decide) (by decide)), RBm_off a8 (o 13 (by decide) (by decide) (by decide))⟩, ⟨?_, ?_, ?_⟩, RBm_off c1 (o 10 (by decide) (by decide) (by decide)), RBm_off c2 (o 11 (by decide) (by decide) (by decide))⟩
  · exact RBm_pp (RBm_pp (RBm_push b1 hs h1) (fun e => absurd e (by decide))) (fun e => absurd e (by decide))
  · exact RBm_pp (RBm_push (RBm_pp b2 (fun e => absurd e (by decide))) hs h2) (fun e => absurd e (by decide))
  · exact RBm_push (RBm_pp (RBm_pp b3 (fun e => absurd e (by decide))) (fun e => absurd e (by decide))) hs h3
theorem TBr_T {f : Nat → Nat → Int} {s t : Int} {v1 v2 : Int} (h : TBr f s t) (ht : 0 ≤ t) (h1 : 0 ≤ v1 ∧ v1 ≤ 1000) (h2 : 0 ≤ v2 ∧ v2 ≤ 9) : TBr (pp (pp f 10 t.toNat v1) 11 t.toNat v2) s (t + 1) := by
  obtain ⟨⟨a1, a2, a3, a4, a5, a6, a7, a8⟩, ⟨b1, b2, b3⟩, c1, c2⟩ := h
  have o : ∀ c, c ≠ 10 → c ≠ 11 → (pp (pp f 10 t.toNat v1) 11 t.toNat v2) c = f c := fun c e2 e3 => by rw [pp_off _ _ e3, pp_off _ _ e2]
  refine ⟨⟨RBm_off a1 (o 1 (by decide) (by decide)), RBm_off a2 (o 5 (by decide) (by decide)), RBm_off a3 (o 6 (by decide) (by decide)), RBm_off (RBm_up a4 (by omega)) (o 7 (by decide) (by decide)), RBm_off a5 (o 8 (by decide) (by decide)), RBm_off a6 (o 9 (by decide) (by decide)), RBm_off a7 (o 12 (by decide) (by decide)), RBm_off a8 (o 13 (by decide) (by decide))⟩, ⟨RBm_off b1 (o 2 (by decide) (by decide)), RBm_off b2 (o 3 (by decide) (by decide)), RBm_off b3 (o 4 (by decide) (by decide))⟩, ?_, ?_⟩
  · exact RBm_pp (RBm_push c1 ht h1) (fun e => absurd e (by decide))
  · exact RBm_push (RBm_pp c2 (fun e => absurd e (by decide))) ht h2
theorem WUI_pp {f : Nat → Nat → Int} {d k : Nat} {v : Int} (h : WUI f) (hd : d ≠ 7 ∧ d ≠ 8 ∧ d ≠ 9) : WUI (pp f d k v) := by
  unfold WUI
  rw [pp_off _ _ (Ne.symm hd.1), pp_off _ _ (Ne.symm hd.2.1), pp_off _ _ (Ne.symm hd.2.2)]
  exact h
theorem WUI_w {f : Nat → Nat → Int} {k : Nat} {v1 v2 v3 : Int} (h : WUI f) (h1 : 0 ≤ v1) (h2 : 1 ≤ v2) : WUI (pp (pp (pp f 7 k v1) 8 k v2) 9 k v3) := by
  intro q hq
  have e7 : (pp (pp (pp f 7 k v1) 8 k v2) 9 k v3) 7 q = if q = k then v1 else f 7 q := by rw [pp_off _ _ (by decide), pp_off _ _ (by decide), pp_at]
  have e8 : (pp (pp (pp f 7 k v1) 8 k v2) 9 k v3) 8 q = if q = k then v2 else f 8 q := by rw [pp_off _ _ (by decide), pp_at, pp_off _ _ (by decide)]
  have e9 : (pp (pp (pp f 7 k v1) 8 k v2) 9 k v3) 9 q = if q = k then v3 else f 9 q := by rw [pp_at, pp_off _ _ (by decide), pp_off _ _ (by decide)]
  rw [e7, e8, e9]
  split
  · exact ⟨fun e => by omega, fun _ => h2⟩
  · exact h q hq
theorem TBD_0 (j : Nat → Nat → Int) : TBD (S0 j) := by
  have a : (S0 j).1 0 1 = 0 := rfl
  have b : (S0 j).1 0 2 = 0 := rfl
  refine ⟨⟨⟨fun q hq => ?_, fun q hq => ?_, fun q hq => ?_, fun q hq => ?_, fun q hq => ?_, fun q hq => ?_, fun q hq => ?_, fun q hq => ?_⟩, ⟨fun q hq => ?_, fun q hq => ?_, fun q hq => ?_⟩, fun q hq => ?_, fun q hq => ?_⟩, fun q hq => ?_, ?_, ?_⟩
  · simp [S0]
  · simp [S0]
  · simp [S0]
  · rw [b]; simp [S0]
  · simp [S0]
  · simp [S0]
  · simp [S0]
  · simp [S0]
  · rw [a] at hq; omega
  · rw [a] at hq; omega
  · rw [a] at hq; omega
  · rw [b] at hq; omega
  · rw [b] at hq; omega
  · simp [S0]
  · simp [S0]
  · simp [S0]
theorem TBD_nm {S S2 : TwS} (h : TBD S) (h1 : ∀ c q, c ≠ 14 → S2.1 c q = S.1 c q) : TBD S2 := by
  have e : ∀ c, c ≠ 14 → S2.1 c = S.1 c := fun c hc => funext fun q => h1 c q hc
  unfold TBD TBr WUI RBm at h ⊢
  rw [e 0 (by decide), e 1 (by decide), e 2 (by decide), e 3 (by decide), e 4 (by decide), e 5 (by decide), e 6 (by decide), e 7 (by decide), e 8 (by decide), e 9 (by decide), e 10 (by decide), e 11 (by decide), e 12 (by decide), e 13 (by decide)]
  exact h
set_option maxHeartbeats 4000000 in
theorem TBD_tel {c : Nat} {P : Nat → Int} {S : TwS} (hb : SBn S) (h : TBD S) (hc : c < 10) (hP : ∀ j, j < (SHP c).length → gdP ((SHP c).getD j 0) (P j) S) : TBD (tel c P S) := by
  unfold SBn at hb
  obtain ⟨hr, hw, ⟨h0, h3, h3b, h4, h4b⟩, h5⟩ := h
  have hr0 : TBr (pp S.1 0 0 (S.1 0 0 + 1)) (S.1 0 1) (S.1 0 2) := TBr_0 hr (Or.inl rfl)
  have hw0 : WUI (pp S.1 0 0 (S.1 0 0 + 1)) := WUI_pp hw (by decide)
  rcases (show c = 0 ∨ c = 1 ∨ c = 2 ∨ c = 3 ∨ c = 4 ∨ c = 5 ∨ c = 6 ∨ c = 7 ∨ c = 8 ∨ c = 9 by omega) with rfl | rfl | rfl | rfl | rfl | rfl | rfl | rfl | rfl | rfl
  · have g1 : 0 ≤ P 1 ∧ P 1 ≤ 900 := (hP 1 (by decide)).2.2 (by decide)
    refine ⟨?_, ?_, by simp [tel, pp]; omega, by simp [tel, pp]; exact h5⟩
    · have e1 : (tel 0 P S).1 0 1 = S.1 0 1 := by simp [tel, pp]
      have e2 : (tel 0 P S).1 0 2 = S.1 0 2 := by simp [tel, pp]
      rw [e1, e2]
      exact TBr_pp hr0 (fun _ => g1) (fun e => absurd e (by decide)) (fun e => absurd e (by decide)) (fun e => absurd e (by decide)) (fun e => absurd e (by decide)) (fun e => absurd e (by decide)) (fun e => absurd e (by decide)) (fun e => absurd e (by decide)) (by decide)
    · exact WUI_pp hw0 (by decide)
  · have g1 : 1 ≤ P 1 ∧ P 1 ≤ 99 := (hP 1 (by decide)).2.2 (by decide)
    have g2 : 0 ≤ P 2 ∧ P 2 ≤ 1000 := (hP 2 (by decide)).2.2 (by decide)
    have g3 : 0 ≤ P 3 ∧ P 3 ≤ 60 := (hP 3 (by decide)).2.2 (by decide)
    have e1 : (tel 1 P S).1 0 1 = S.1 0 1 + 1 := by simp [tel, pp]
    have e2 : (tel 1 P S).1 0 2 = S.1 0 2 := by simp [tel, pp]
    have e3 : (tel 1 P S).1 0 3 = S.1 0 3 := by simp [tel, pp]
    have e4 : (tel 1 P S).1 0 4 = S.1 0 4 := by simp [tel, pp]
    have e0 : (tel 1 P S).1 0 0 = S.1 0 0 + 1 := by simp [tel, pp]
    have t1 : pp S.1 0 0 (S.1 0 0 + 1) 0 1 = S.1 0 1 := pp_ne _ _ (by decide)
    unfold TBD
    rw [e0, e1, e2, e3, e4]
    refine ⟨?_, ?_, by omega, h5⟩
    · show TBr (pp (pp (pp (pp (pp S.1 0 0 (S.1 0 0 + 1)) 2 (pp S.1 0 0 (S.1 0 0 + 1) 0 1).toNat (P 1)) 3 (pp S.1 0 0 (S.1 0 0 + 1) 0 1).toNat (P 2)) 4 (pp S.1 0 0 (S.1 0 0 + 1) 0 1).toNat (P 3)) 0 1 (pp S.1 0 0 (S.1 0 0 + 1) 0 1 + 1)) _ _
      rw [t1]
      exact TBr_0 (TBr_S hr0 hb.1 g1 g2 g3) (Or.inl rfl)
    · exact WUI_pp (WUI_pp (WUI_pp (WUI_pp hw0 (by decide)) (by decide)) (by decide)) (by decide)
  · have g1 : 0 ≤ P 1 ∧ P 1 ≤ 1000 := (hP 1 (by decide)).2.2 (by decide)
    have g2 : 0 ≤ P 2 ∧ P 2 ≤ 9 := (hP 2 (by decide)).2.2 (by decide)
    have t2 : pp S.1 0 0 (S.1 0 0 + 1) 0 2 = S.1 0 2 := pp_ne _ _ (by decide)
    have t4 : pp S.1 0 0 (S.1 0 0 + 1) 0 4 = S.1 0 4 := pp_ne _ _ (by decide)
    have e1 : (tel 2 P S).1 0 1 = S.1 0 1 := by simp only [tel]; split <;> simp [pp]
    have e2 : (tel 2 P S).1 0 2 = S.1 0 2 + 1 := by simp only [tel]; split <;> simp [pp]
    have e3 : (tel 2 P S).1 0 3 = S.1 0 3 := by simp only [tel]; split <;> simp [pp]
    have e4 : (tel 2 P S).1 0 4 = if S.1 0 4 = -1 then 0 else S.1 0 4 := by simp only [tel, t4]; split <;> simp [pp]
    have e0 : (tel 2 P S).1 0 0 = S.1 0 0 + 1 := by simp only [tel]; split <;> simp [pp]
    have ht := TBr_0 (d := 0) (k := 2) (v := S.1 0 2 + 1) (TBr_T hr0 hb.2.2.1 g1 g2) (Or.inl rfl)
    have hu : WUI (pp (pp (pp (pp S.1 0 0 (S.1 0 0 + 1)) 10 (S.1 0 2).toNat (P 1)) 11 (S.1 0 2).toNat (P 2)) 0 2 (S.1 0 2 + 1)) := WUI_pp (WUI_pp (WUI_pp hw0 (by decide)) (by decide)) (by decide)
    unfold TBD
    rw [e0, e1, e2, e3, e4]
    refine ⟨?_, ?_, by split <;> omega, fun _ => by split <;> omega⟩
    · simp only [tel, t2]
      split
      · exact TBr_0 ht (Or.inl rfl)
      · exact ht
    · simp only [tel, t2]
      split
      · exact WUI_pp hu (by decide)
      · exact hu
  · have g2 : 1 ≤ P 2 ∧ P 2 ≤ 20 := (hP 2 (by decide)).2.2 (by decide)
    refine ⟨?_, WUI_pp hw0 (by decide), by simp [tel, pp]; omega, by simp [tel, pp]; exact h5⟩
    have e1 : (tel 3 P S).1 0 1 = S.1 0 1 := by simp [tel, pp]
    have e2 : (tel 3 P S).1 0 2 = S.1 0 2 := by simp [tel, pp]
    rw [e1, e2]
    exact TBr_pp hr0 (fun e => absurd e (by decide)) (fun e => absurd e (by decide)) (fun _ => by omega) (fun e => absurd e (by decide)) (fun e => absurd e (by decide)) (fun e => absurd e (by decide)) (fun e => absurd e (by decide)) (fun e => absurd e (by decide)) (by decide)
  · have g2 : 1 ≤ P 2 ∧ P 2 ≤ 20 := (hP 2 (by decide)).2.2 (by decide)
    refine ⟨?_, WUI_pp hw0 (by decide), by simp [tel, pp]; omega, by simp [tel, pp]; exact h5⟩
    have e1 : (tel 4 P S).1 0 1 = S.1 0 1 := by simp [tel, pp]
    have e2 : (tel 4 P S).1 0 2 = S.1 0 2 := by simp [tel, pp]
    rw [e1, e2]
    exact TBr_pp hr0 (fun e => absurd e (by decide)) (fun e => absurd e (by decide)) (fun e => absurd e (by decide)) (fun e => absurd e (by decide)) (fun e => absurd e (by decide)) (fun e => absurd e (by decide)) (fun _ => g2) (fun e => absurd e (by decide)) (by decide)
  · have g2 : 0 ≤ P 2 ∧ P 2 ≤ 999 := (hP 2 (by decide)).2.2 (by decide)
    refine ⟨?_, WUI_pp hw0 (by decide), by simp [tel, pp]; omega, by simp [tel, pp]; exact h5⟩
    have e1 : (tel 5 P S).1 0 1 = S.1 0 1 := by simp [tel, pp]
    have e2 : (tel 5 P S).1 0 2 = S.1 0 2 := by simp [tel, pp]
    rw [e1, e2]
    exact TBr_pp hr0 (fun e => absurd e (by decide)) (fun e => absurd e (by decide)) (fun e => absurd e (by decide)) (fun e => absurd e (by decide)) (fun e => absurd e (by decide)) (fun e => absurd e (by decide)) (fun e => absurd e (by decide)) (fun _ => by omega) (by decide)
  · have g1 := (hP 1 (by decide)).2.1 rfl
    have g3 : 1 ≤ P 3 ∧ P 3 ≤ 3 := (hP 3 (by decide)).2.2 (by decide)
    have g4 : 0 ≤ P 4 ∧ P 4 ≤ 99 := (hP 4 (by decide)).2.2 (by decide)
    refine ⟨?_, WUI_w hw0 g1.1 g3.1, by simp [tel, pp]; omega, by simp [tel, pp]; exact h5⟩
    have e1 : (tel 6 P S).1 0 1 = S.1 0 1 := by simp [tel, pp]
    have e2 : (tel 6 P S).1 0 2 = S.1 0 2 := by simp [tel, pp]
    rw [e1, e2]
    have q1 := TBr_pp (d := 7) (k := (P 0).toNat * 7 + (P 2).toNat) (v := P 1) hr0 (fun e => absurd e (by decide)) (fun e => absurd e (by decide)) (fun e => absurd e (by decide)) (fun _ => by omega) (fun e => absurd e (by decide)) (fun e => absurd e (by decide)) (fun e => absurd e (by decide)) (fun e => absurd e (by decide)) (by decide)
    have q2 := TBr_pp (d := 8) (k := (P 0).toNat * 7 + (P 2).toNat) (v := P 3) q1 (fun e => absurd e (by decide)) (fun e => absurd e (by decide)) (fun e => absurd e (by decide)) (fun e => absurd e (by decide)) (fun _ => by omega) (fun e => absurd e (by decide)) (fun e => absurd e (by decide)) (fun e => absurd e (by decide)) (by decide)
    exact TBr_pp (d := 9) (k := (P 0).toNat * 7 + (P 2).toNat) (v := P 4) q2 (fun e => absurd e (by decide)) (fun e => absurd e (by decide)) (fun e => absurd e (by decide)) (fun e => absurd e (by decide)) (fun e => absurd e (by decide)) (fun _ => by omega) (fun e => absurd e (by decide)) (fun e => absurd e (by decide)) (by decide)
  · have g1 : 1 ≤ P 1 ∧ P 1 ≤ 127 := (hP 1 (by decide)).2.2 (by decide)
    refine ⟨?_, WUI_pp hw0 (by decide), by simp [tel, pp]; omega, by simp [tel, pp]; exact h5⟩
    have e1 : (tel 7 P S).1 0 1 = S.1 0 1 := by simp [tel, pp]
    have e2 : (tel 7 P S).1 0 2 = S.1 0 2 := by simp [tel, pp]
    rw [e1, e2]
    exact TBr_pp hr0 (fun e => absurd e (by decide)) (fun _ => by omega) (fun e => absurd e (by decide)) (fun e => absurd e (by decide)) (fun e => absurd e (by decide)) (fun e => absurd e (by decide)) (fun e => absurd e (by decide)) (fun e => absurd e (by decide)) (by decide)
  · have g0 := (hP 0 (by decide)).1 rfl
    refine ⟨?_, WUI_pp hw0 (by decide), by simp [tel, pp]; omega, by simp [tel, pp]; exact h5⟩
    have e1 : (tel 8 P S).1 0 1 = S.1 0 1 := by simp [tel, pp]
    have e2 : (tel 8 P S).1 0 2 = S.1 0 2 := by simp [tel, pp]
    rw [e1, e2]
    exact TBr_0 hr0 (Or.inl rfl)
  · have g0 := (hP 0 (by decide)).2.1 rfl
    refine ⟨?_, WUI_pp hw0 (by decide), by simp [tel, pp]; omega, by simp [tel, pp]; omega⟩
    have e1 : (tel 9 P S).1 0 1 = S.1 0 1 := by simp [tel, pp]
    have e2 : (tel 9 P S).1 0 2 = S.1 0 2 := by simp [tel, pp]
    rw [e1, e2]
    exact TBr_0 hr0 (Or.inl rfl)
theorem kwd_b {w : Int} : ∀ (f c : Nat), kwd w f c = 99 ∨ kwd w f c < c + f
  | 0, c => Or.inl rfl
  | f + 1, c => by
    rw [kwd]
    split
    · exact Or.inr (by omega)
    · rcases kwd_b (w := w) f (c + 1) with h | h
      · exact Or.inl h
      · exact Or.inr (by omega)
theorem cls_b {B : Nat → Int} {n p : Nat} (h : cls B n p ≠ 99) : cls B n p < 10 := by
  unfold cls at h ⊢
  split at h
  · rename_i e
    rw [if_pos e]
    rcases kwd_b (w := tW B n p) 10 0 with h2 | h2
    · exact absurd h2 h
    · omega
  · exact absurd rfl h
/-- no days are told of what is no clause of a town -/
def PK (S : TwS) : Prop := ∀ r d, 40 ≤ r → S.2 r d = false
theorem PK_tel {c : Nat} {P : Nat → Int} {S : TwS} (h : PK S) (hc : c < 10) (hp : PBND c P) : PK (tel c P S) := by
  obtain ⟨p1, p2, p3, p4, p5⟩ := hp
  intro r d hr
  rcases (show c = 0 ∨ c = 1 ∨ c = 2 ∨ c = 3 ∨ c = 4 ∨ c = 5 ∨ c = 6 ∨ c = 7 ∨ c = 8 ∨ c = 9 by omega) with rfl | rfl | rfl | rfl | rfl | rfl | rfl | rfl | rfl | rfl
  · show pp S.2 0 _ true r d = false
    rw [pp_ne _ _ (Or.inl (by omega))]; exact h r d hr
  · exact h r d hr
  · exact h r d hr
  · have z := p2 (by decide)
    show pp S.2 (12 + (P 0).toNat) _ true r d = false
    rw [pp_ne _ _ (Or.inl (by omega))]; exact h r d hr
  · have z := p3 (by decide)
    show pp S.2 (16 + (P 0).toNat) _ true r d = false
    rw [pp_ne _ _ (Or.inl (by omega))]; exact h r d hr
  · have z := p3 (by decide)
    show pp S.2 (20 + (P 0).toNat) _ true r d = false
    rw [pp_ne _ _ (Or.inl (by omega))]; exact h r d hr
  · have z := p2 (by decide)
    show pp S.2 (24 + (P 0).toNat) _ true r d = false
    rw [pp_ne _ _ (Or.inl (by omega))]; exact h r d hr
  · have z := p2 (by decide)
    show pp S.2 (28 + (P 0).toNat) _ true r d = false
    rw [pp_ne _ _ (Or.inl (by omega))]; exact h r d hr
  · show pp S.2 32 _ true r d = false
    rw [pp_ne _ _ (Or.inl (by omega))]; exact h r d hr
  · show pp S.2 36 _ true r d = false
    rw [pp_ne _ _ (Or.inl (by omega))]; exact h r d hr
def TGD (S : TwS) : Prop := SBn S ∧ (PI S ∧ PK S) ∧ PJ S ∧ TBD S
theorem rdT_all {B : Nat → Int} {n : Nat} : ∀ (f p : Nat) (S S2 : TwS), p ≤ n → TGD S → rdT B n f p S = .ok S2 → TGD S2
  | 0, p, S, S2, _, h, e => by
    rw [rdT] at e
    obtain rfl := Except.ok.inj e
    exact h
  | f + 1, p, S, S2, hp, h, e => by
    obtain ⟨hb, ⟨hi, hk⟩, hj, ht⟩ := h
    rw [rdT] at e
    split at e
    · obtain rfl := Except.ok.inj e
      exact ⟨hb, ⟨hi, hk⟩, hj, ht⟩
    split at e
    · exact absurd e (by simp)
    rename_i hcl
    split at e
    · exact absurd e (by simp)
    rename_i ha
    have hcl2 := cls_b hcl
    have ha0 : ahd (cls B n p) S = 0 := by omega
    have hrm := ahd_0 hb ha0
    split at e
    · exact absurd e (by simp)
    · rename_i S3 P3 p3 hz
      have kz := clz_ok hb (tT_le B hp).2 (by omega) hz
      have hbz : SBn S3 := by unfold SBn; rw [kz.1 1, kz.1 2]; exact hb
      have hi3 : PI S3 := PI_nm hi kz.2.1 kz.2.2.1
      have hj3 : PJ S3 := by unfold PJ; rw [kz.2.2.1, kz.1 4]; exact hj
      have ht3 : TBD S3 := TBD_nm ht kz.2.1
      have hP3 : ∀ j, j < (SHP (cls B n p)).length → gdP ((SHP (cls B n p)).getD j 0) (P3 j) S3 := fun q hq => gdP_nm (kz.2.2.2.1 q hq) kz.1
      have pi2 := PI_tel hbz hi3 hj3 hcl2 hP3
      have hk3 : PK S3 := by unfold PK; rw [kz.2.2.1]; exact hk
      have hk2 := PK_tel hk3 hcl2 (clz_b hbz hcl2 hP3)
      have tb2 := tel_b (c := cls B n p) (P := P3) hbz hcl2 (by intro e; rw [kz.1 1]; exact hrm.1 e) (by intro e; rw [kz.1 2]; exact hrm.2 e)
      exact rdT_all f (tT B n p3) _ S2 (tT_le B kz.2.2.2.2.2.1).2 ⟨tb2.1, ⟨pi2.1, hk2⟩, pi2.2, TBD_tel hbz ht3 hcl2 hP3⟩ e
theorem town_all {B : Nat → Int} {n : Nat} {j : Nat → Nat → Int} {S2 : TwS} (e : town B n j = .ok S2) : TGD S2 :=
  rdT_all 901 0 (S0 j) S2 (Nat.zero_le _) ⟨(S0_b j).1, ⟨PI_0 j, fun _ _ _ => rfl⟩, fun z => absurd z (by simp [S0]), TBD_0 j⟩ e
