/-! THE TOWN AS THE REFERENCE READS IT -/
def rsT : List (Nat × Nat × Nat) := [(14, 2, 1), (15, 3, 1), (16, 4, 1), (17, 5, 1), (27, 6, 7), (30, 7, 7), (31, 8, 7), (32, 9, 7)]
def rtT : List (Nat × Nat × Nat) := [(18, 10, 1), (19, 11, 1), (28, 12, 7), (29, 13, 7)]
def RTM (g : GG) (S : TwS) (I : pI) (J : pJ) : Prop :=
  ((I (ad g 0) 15).toInt = S.1 0 1 ∧ (I (ad g 0) 16).toInt = S.1 0 2 ∧ (I (ad g 0) 17).toInt = S.1 0 3 ∧ (I (ad g 0) 18).toInt = (if S.2 36 0 = true then S.1 0 4 else -1)) ∧
  (∀ q, q < 7 → (I (ad g 7) q).toInt = S.1 1 q) ∧
  (∀ d, d < 7 → tb (I (ad g 0) 51) d = S.2 0 d) ∧
  (∀ e ∈ rsT, ∀ q : Nat, (q : Int) < (e.2.2 : Int) * S.1 0 1 → (I (ad g e.1) q).toInt = S.1 e.2.1 q) ∧
  (∀ e ∈ rtT, ∀ q : Nat, (q : Int) < (e.2.2 : Int) * S.1 0 2 → (I (ad g e.1) q).toInt = S.1 e.2.1 q) ∧
  (∀ s : Nat, (s : Int) < S.1 0 1 → ∀ d, d < 7 → tb (I (ad g 33) s) d = S.2 (12 + s) d) ∧
  (∀ s : Nat, (s : Int) < S.1 0 2 → ∀ d, d < 7 → tb (I (ad g 34) s) d = S.2 (16 + s) d) ∧
  NMS g S J
theorem rsT_b : ∀ e ∈ rsT, (14 ≤ e.1 ∧ e.1 ≤ 32 ∧ e.1 ≠ 18 ∧ e.1 ≠ 19 ∧ e.1 ≠ 28 ∧ e.1 ≠ 29) ∧ 2 ≤ e.2.1 ∧ e.2.1 ≤ 9 := by decide
theorem rtT_b : ∀ e ∈ rtT, (18 ≤ e.1 ∧ e.1 ≤ 29 ∧ e.1 ≠ 27) ∧ 10 ≤ e.2.1 ∧ e.2.1 ≤ 13 := by decide
theorem rsT_u : ∀ e ∈ rsT, ∀ f ∈ rsT, (e.1 = f.1 ↔ e.2.1 = f.2.1) := by decide
theorem rtT_u : ∀ e ∈ rtT, ∀ f ∈ rtT, (e.1 = f.1 ↔ e.2.1 = f.2.1) := by decide
theorem rst_ne : ∀ e ∈ rsT, ∀ f ∈ rtT, e.1 ≠ f.1 := by decide
theorem rsT_c : ∀ e ∈ rsT, e.1 ∈ [14, 15, 16, 17, 27, 30, 31, 32] := by decide
theorem rtT_c : ∀ e ∈ rtT, e.1 ∈ [18, 19, 28, 29] := by decide
def clM : List Nat := [7, 14, 15, 16, 17, 18, 19, 27, 28, 29, 30, 31, 32, 33, 34]
theorem clM_s : ∀ c ∈ [14, 15, 16, 17, 27, 30, 31, 32], c ∈ clM ∧ c < 49 := by decide
theorem clM_t : ∀ c ∈ [18, 19, 28, 29], c ∈ clM ∧ c < 49 := by decide
theorem RTM_fr {g : GG} (hy : Ly g) {S : TwS} {I I' : pI} {J J' : pJ} {C D Q : List Nat} (h : RTM g S I J) (hf : FC g C I I') (hD : FC g D J J') (hq : FQ g Q I I') (hc : ∀ i ∈ C, i < 49 ∧ i ∉ clM) (hd : ∀ i ∈ D, i < 49 ∧ i ≠ 4 ∧ i ≠ 5) (hQ : 15 ∉ Q ∧ 16 ∉ Q ∧ 17 ∉ Q ∧ 18 ∉ Q ∧ 51 ∉ Q) : RTM g S I' J' := by
  have e1 : ∀ c, c ∈ clM → c < 49 → I' (ad g c) = I (ad g c) := fun c hc1 hc2 => FC_at hy hf c hc2 (fun i hi => ⟨fun e => (hc i hi).2 (e ▸ hc1), (hc i hi).1⟩)
  have e4 : J' (ad g 4) = J (ad g 4) := FC_at hy hD 4 (by decide) (fun i hi => ⟨Ne.symm (hd i hi).2.1, (hd i hi).1⟩)
  have e5 : J' (ad g 5) = J (ad g 5) := FC_at hy hD 5 (by decide) (fun i hi => ⟨Ne.symm (hd i hi).2.2, (hd i hi).1⟩)
  obtain ⟨⟨a1, a2, a3, a4⟩, b, c, d, e, f, k, n1, n2⟩ := h
  refine ⟨⟨by rw [hq 15 hQ.1]; exact a1, by rw [hq 16 hQ.2.1]; exact a2, by rw [hq 17 hQ.2.2.1]; exact a3, by rw [hq 18 hQ.2.2.2.1]; exact a4⟩, fun q h1 => ?_, fun x h1 => ?_, fun x hx q h1 => ?_, fun x hx q h1 => ?_, fun s h1 x h2 => ?_, fun s h1 x h2 => ?_, fun q h1 => ?_, fun q h1 => ?_⟩
  · rw [e1 7 (by decide) (by decide)]; exact b q h1
  · rw [hq 51 hQ.2.2.2.2]; exact c x h1
  · rw [e1 x.1 (clM_s _ (rsT_c x hx)).1 (clM_s _ (rsT_c x hx)).2]; exact d x hx q h1
  · rw [e1 x.1 (clM_t _ (rtT_c x hx)).1 (clM_t _ (rtT_c x hx)).2]; exact e x hx q h1
  · rw [e1 33 (by decide) (by decide)]; exact f s h1 x h2
  · rw [e1 34 (by decide) (by decide)]; exact k s h1 x h2
  · rw [e4]; exact n1 q h1
  · rw [e5]; exact n2 q h1
/-- how many clauses are told is of no matter -/
theorem RTM_cnt {g : GG} {S : TwS} {I : pI} {J : pJ} (x : Int) (h : RTM g S I J) : RTM g (pp S.1 0 0 x, S.2) I J := by
  have e1 : pp S.1 0 0 x 0 1 = S.1 0 1 := pp_ne _ _ (Or.inr (by decide))
  have e2 : pp S.1 0 0 x 0 2 = S.1 0 2 := pp_ne _ _ (Or.inr (by decide))
  have e3 : pp S.1 0 0 x 0 3 = S.1 0 3 := pp_ne _ _ (Or.inr (by decide))
  have e4 : pp S.1 0 0 x 0 4 = S.1 0 4 := pp_ne _ _ (Or.inr (by decide))
  have e5 : ∀ c, c ≠ 0 → pp S.1 0 0 x c = S.1 c := fun c hc => pp_off _ _ hc
  obtain ⟨⟨a1, a2, a3, a4⟩, b, c, d, e, f, k, n1, n2⟩ := h
  unfold RTM NMS NMM
  simp only [e1, e2, e3, e4, e5 1 (by decide), e5 14 (by decide)]
  refine ⟨⟨a1, a2, a3, a4⟩, b, c, fun y hy q h1 => ?_, fun y hy q h1 => ?_, f, k, n1, n2⟩
  · rw [e5 y.2.1 (by have := rsT_b y hy; omega)]; exact d y hy q h1
  · rw [e5 y.2.1 (by have := rtT_b y hy; omega)]; exact e y hy q h1
/-- a row of sorts is written -/
theorem RTM_rs {g : GG} (hy : Ly g) {S : TwS} {I : pI} {J : pJ} (h : RTM g S I J) (y : Nat × Nat × Nat) (hm : y ∈ rsT) (q : Nat) (v : Int32) (x : Int) (hx : v.toInt = x) : RTM g (pp S.1 y.2.1 q x, S.2) (pp I (ad g y.1) q v) J := by
  subst hx
  have yb := rsT_b y hm
  have ne : ∀ c, c < 49 → c ≠ y.1 → pp I (ad g y.1) q v (ad g c) = I (ad g c) := fun c h1 h2 => pp_off _ _ (ly_ne hy h2 h1 (by omega))
  have e5 : ∀ c, c ≠ y.2.1 → pp S.1 y.2.1 q v.toInt c = S.1 c := fun c hc => pp_off _ _ hc
  obtain ⟨⟨a1, a2, a3, a4⟩, b, c, d, e, f, k, n1, n2⟩ := h
  unfold RTM NMS NMM
  simp only [e5 0 (by omega), e5 1 (by omega), e5 14 (by omega), ne 0 (by decide) (by omega), ne 7 (by decide) (by omega), ne 33 (by decide) (by omega), ne 34 (by decide) (by omega)]
  refine ⟨⟨a1, a2, a3, a4⟩, b, c, fun z hz j h1 => ?_, fun z hz j h1 => ?_, f, k, n1, n2⟩
  · by_cases ez : z.1 = y.1
    · have ez2 := (rsT_u z hz y hm).mp ez
      rw [ez, ez2, pp_at, pp_at]
      split
      · rfl
      · rw [← ez, ← ez2]; exact d z hz j h1
    · have ez2 : z.2.1 ≠ y.2.1 := fun e9 => ez ((rsT_u z hz y hm).mpr e9)
      have zb := rsT_b z hz
      rw [ne z.1 (by omega) ez, e5 _ ez2]; exact d z hz j h1
  · have zb := rtT_b z hz
    rw [ne z.1 (by omega) (Ne.symm (rst_ne y hm z hz)), e5 _ (by omega)]; exact e z hz j h1
theorem RTM_rt {g : GG} (hy : Ly g) {S : TwS} {I : pI} {J : pJ} (h : RTM g S I J) (y : Nat × Nat × Nat) (hm : y ∈ rtT) (q : Nat) (v : Int32) (x : Int) (hx : v.toInt = x) : RTM g (pp S.1 y.2.1 q x, S.2) (pp I (ad g y.1) q v) J := by
  subst hx
  have yb := rtT_b y hm
  have ne : ∀ c, c < 49 → c ≠ y.1 → pp I (ad g y.1) q v (ad g c) = I (ad g c) := fun c h1 h2 => pp_off _ _ (ly_ne hy h2 h1 (by omega))
  have e5 : ∀ c, c ≠ y.2.1 → pp S.1 y.2.1 q v.toInt c = S.1 c := fun c hc => pp_off _ _ hc
  obtain ⟨⟨a1, a2, a3, a4⟩, b, c, d, e, f, k, n1, n2⟩ := h
  unfold RTM NMS NMM
  simp only [e5 0 (by omega), e5 1 (by omega), e5 14 (by omega), ne 0 (by decide) (by omega), ne 7 (by decide) (by omega), ne 33 (by decide) (by omega), ne 34 (by decide) (by omega)]
  refine ⟨⟨a1, a2, a3, a4⟩, b, c, fun z hz j h1 => ?_, fun z hz j h1 => ?_, f, k, n1, n2⟩
  · have zb := rsT_b z hz
    rw [ne z.1 (by omega) (rst_ne z hz y hm), e5 _ (by omega)]; exact d z hz j h1
  · by_cases ez : z.1 = y.1
    · have ez2 := (rtT_u z hz y hm).mp ez
      rw [ez, ez2, pp_at, pp_at]
      split
      · rfl
      · rw [← ez, ← ez2]; exact e z hz j h1
    · have ez2 : z.2.1 ≠ y.2.1 := fun e9 => ez ((rtT_u z hz y hm).mpr e9)
      have zb := rtT_b z hz
      rw [ne z.1 (by omega) ez, e5 _ ez2]; exact e z hz j h1
theorem RTM_rot {g : GG} (hy : Ly g) {S : TwS} {I : pI} {J : pJ} (h : RTM g S I J) (q : Nat) (v : Int32) (x : Int) (hx : v.toInt = x) : RTM g (pp S.1 1 q x, S.2) (pp I (ad g 7) q v) J := by
  subst hx
  have ne : ∀ c, c < 49 → c ≠ 7 → pp I (ad g 7) q v (ad g c) = I (ad g c) := fun c h1 h2 => pp_off _ _ (ly_ne hy h2 h1 (by decide))
  have e5 : ∀ c, c ≠ 1 → pp S.1 1 q v.toInt c = S.1 c := fun c hc => pp_off _ _ hc
  obtain ⟨⟨a1, a2, a3, a4⟩, b, c, d, e, f, k, n1, n2⟩ := h
  unfold RTM NMS NMM
  simp only [e5 0 (by decide), e5 14 (by decide), ne 0 (by decide) (by decide), ne 33 (by decide) (by decide), ne 34 (by decide) (by decide)]
  refine ⟨⟨a1, a2, a3, a4⟩, fun j h1 => ?_, c, fun z hz j h1 => ?_, fun z hz j h1 => ?_, f, k, n1, n2⟩
  · rw [pp_at, pp_at]
    split
    · rfl
    · exact b j h1
  · have zb := rsT_b z hz
    rw [ne z.1 (by omega) (by omega), e5 _ (by omega)]; exact d z hz j h1
  · have zb := rtT_b z hz
    rw [ne z.1 (by omega) (by omega), e5 _ (by omega)]; exact e z hz j h1
/-- bits that are told -/
theorem RTM_b {g : GG} {S : TwS} {I : pI} {J : pJ} (hb : SBn S) (h : RTM g S I J) (r d : Nat) (hr : 19 ≤ r ∧ r ≤ 31) : RTM g (S.1, pp S.2 r d true) I J := by
  unfold SBn at hb
  have e5 : ∀ c, c ≠ r → pp S.2 r d true c = S.2 c := fun c hc => pp_off _ _ hc
  obtain ⟨⟨a1, a2, a3, a4⟩, b, c, d2, e, f, k, n1, n2⟩ := h
  unfold RTM
  simp only [e5 36 (by omega), e5 0 (by omega)]
  refine ⟨⟨a1, a2, a3, a4⟩, b, c, d2, e, fun s h1 x h2 => ?_, fun s h1 x h2 => ?_, n1, n2⟩
  · rw [e5 _ (by omega)]; exact f s h1 x h2
  · rw [e5 _ (by omega)]; exact k s h1 x h2
theorem bit_or {T : Nat → Nat → Bool} {r d e : Nat} {z : Bool} (h : z = (T r e || decide (e = d))) : z = pp T r d true r e := by
  rw [h, pp_at]
  by_cases q : e = d
  · rw [if_pos q]; simp [q]
  · rw [if_neg q]; simp [q]
theorem RTM_e33 {g : GG} (hy : Ly g) {S : TwS} {I : pI} {J : pJ} (hb : SBn S) (h : RTM g S I J) (s d : Nat) (hs : (s : Int) < S.1 0 1) (v : Int32) (hv : ∀ e, e < 7 → tb v e = (tb (I (ad g 33) s) e || decide (e = d))) : RTM g (S.1, pp S.2 (12 + s) d true) (pp I (ad g 33) s v) J := by
  unfold SBn at hb
  have ne : ∀ c, c < 49 → c ≠ 33 → pp I (ad g 33) s v (ad g c) = I (ad g c) := fun c h1 h2 => pp_off _ _ (ly_ne hy h2 h1 (by decide))
  have e5 : ∀ c, c ≠ 12 + s → pp S.2 (12 + s) d true c = S.2 c := fun c hc => pp_off _ _ hc
  obtain ⟨⟨a1, a2, a3, a4⟩, b, c, d2, e, f, k, n1, n2⟩ := h
  unfold RTM
  simp only [e5 36 (by omega), e5 0 (by omega), ne 0 (by decide) (by decide), ne 7 (by decide) (by decide), ne 34 (by decide) (by decide)]
  refine ⟨⟨a1, a2, a3, a4⟩, b, c, fun z hz j h1 => ?_, fun z hz j h1 => ?_, fun s2 h1 x h2 => ?_, fun s2 h1 x h2 => ?_, n1, n2⟩
  · have zb := rsT_b z hz
    rw [ne z.1 (by omega) (by omega)]; exact d2 z hz j h1
  · have zb := rtT_b z hz
    rw [ne z.1 (by omega) (by omega)]; exact e z hz j h1
  · rw [pp_at]
    by_cases q : s2 = s
    · subst q
      rw [if_pos rfl]
      exact bit_or (by rw [hv x h2, f s2 h1 x h2])
    · rw [if_neg q, e5 _ (by omega)]; exact f s2 h1 x h2
  · rw [e5 _ (by omega)]; exact k s2 h1 x h2
theorem RTM_e34 {g : GG} (hy : Ly g) {S : TwS} {I : pI} {J : pJ} (hb : SBn S) (h : RTM g S I J) (s d : Nat) (hs : (s : Int) < S.1 0 2) (v : Int32) (hv : ∀ e, e < 7 → tb v e = (tb (I (ad g 34) s) e || decide (e = d))) : RTM g (S.1, pp S.2 (16 + s) d true) (pp I (ad g 34) s v) J := by
  unfold SBn at hb
  have ne : ∀ c, c < 49 → c ≠ 34 → pp I (ad g 34) s v (ad g c) = I (ad g c) := fun c h1 h2 => pp_off _ _ (ly_ne hy h2 h1 (by decide))
  have e5 : ∀ c, c ≠ 16 + s → pp S.2 (16 + s) d true c = S.2 c := fun c hc => pp_off _ _ hc
  obtain ⟨⟨a1, a2, a3, a4⟩, b, c, d2, e, f, k, n1, n2⟩ := h
  unfold RTM
  simp only [e5 36 (by omega), e5 0 (by omega), ne 0 (by decide) (by decide), ne 7 (by decide) (by decide), ne 33 (by decide) (by decide)]
  refine ⟨⟨a1, a2, a3, a4⟩, b, c, fun z hz j h1 => ?_, fun z hz j h1 => ?_, fun s2 h1 x h2 => ?_, fun s2 h1 x h2 => ?_, n1, n2⟩
  · have zb := rsT_b z hz
    rw [ne z.1 (by omega) (by omega)]; exact d2 z hz j h1
  · have zb := rtT_b z hz
    rw [ne z.1 (by omega) (by omega)]; exact e z hz j h1
  · rw [e5 _ (by omega)]; exact f s2 h1 x h2
  · rw [pp_at]
    by_cases q : s2 = s
    · subst q
      rw [if_pos rfl]
      exact bit_or (by rw [hv x h2, k s2 h1 x h2])
    · rw [if_neg q, e5 _ (by omega)]; exact k s2 h1 x h2
/-- a slot of the reference is written: which days rot is told of; chest, store -/
theorem RTM_sl {g : GG} (hy : Ly g) {S S2 : TwS} {I : pI} {J : pJ} (h : RTM g S I J) (q : Nat) (v : Int32) (hq : q = 51 ∨ q = 17 ∨ q = 18)
    (k1 : ∀ c, c ≠ 0 → S2.1 c = S.1 c) (k2 : S2.1 0 1 = S.1 0 1 ∧ S2.1 0 2 = S.1 0 2) (k3 : ∀ r, 12 ≤ r → r ≤ 31 → S2.2 r = S.2 r) (hb : SBn S)
    (a3 : (pp I (ad g 0) q v (ad g 0) 17).toInt = S2.1 0 3) (a4 : (pp I (ad g 0) q v (ad g 0) 18).toInt = (if S2.2 36 0 = true then S2.1 0 4 else -1)) (a5 : ∀ d, d < 7 → tb (pp I (ad g 0) q v (ad g 0) 51) d = S2.2 0 d) : RTM g S2 (pp I (ad g 0) q v) J := by
  unfold SBn at hb
  have ne : ∀ c, c < 49 → c ≠ 0 → pp I (ad g 0) q v (ad g c) = I (ad g c) := fun c h1 h2 => pp_off _ _ (ly_ne hy h2 h1 (by decide))
  obtain ⟨⟨b1, b2, -, -⟩, b, -, d2, e, f, k, n1, n2⟩ := h
  unfold RTM NMS NMM
  rw [k1 1 (by decide), k1 14 (by decide), k2.1, k2.2]
  refine ⟨⟨?_, ?_, a3, a4⟩, fun j h1 => ?_, a5, fun z hz j h1 => ?_, fun z hz j h1 => ?_, fun s2 h1 x h2 => ?_, fun s2 h1 x h2 => ?_, n1, n2⟩
  · rw [pp_ne _ _ (Or.inr (by omega))]; exact b1
  · rw [pp_ne _ _ (Or.inr (by omega))]; exact b2
  · rw [ne 7 (by decide) (by decide)]; exact b j h1
  · have zb := rsT_b z hz
    rw [ne z.1 (by omega) (by omega), k1 _ (by omega)]; exact d2 z hz j h1
  · have zb := rtT_b z hz
    rw [ne z.1 (by omega) (by omega), k1 _ (by omega)]; exact e z hz j h1
  · rw [ne 33 (by decide) (by decide), k3 _ (by omega) (by omega)]; exact f s2 h1 x h2
  · rw [ne 34 (by decide) (by decide), k3 _ (by omega) (by omega)]; exact k s2 h1 x h2
