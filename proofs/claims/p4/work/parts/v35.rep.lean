/-! BITS of ints; a town in the class's cells -/
def tb (x : Int32) (d : Nat) : Bool := x.toBitVec.getLsbD d
theorem and_1 (a : BitVec 32) : a &&& 1#32 = if a.getLsbD 0 = true then 1#32 else 0#32 := by
  apply BitVec.eq_of_getLsbD_eq
  intro i hi
  rw [BitVec.getLsbD_and, BitVec.getLsbD_one]
  by_cases h : i = 0
  · subst h
    split
    · rename_i h2; rw [h2]; decide
    · rename_i h2; rw [Bool.not_eq_true] at h2; rw [h2]; decide
  · have h3 : decide (0 < 32 ∧ i = 0) = false := by simp [h]
    rw [h3, Bool.and_false]
    split
    · rw [BitVec.getLsbD_one]; simp [h]
    · rw [BitVec.getLsbD_zero]
theorem shr_bv (x : Int32) : ∀ d, d < 7 → (x >>> (Int32.ofNat d &&& 31)).toBitVec = x.toBitVec.sshiftRight d := by
  intro d hd
  match d, hd with
  | 0, _ => rfl
  | 1, _ => rfl
  | 2, _ => rfl
  | 3, _ => rfl
  | 4, _ => rfl
  | 5, _ => rfl
  | 6, _ => rfl
theorem ofN {y : Int32} {d : Nat} (hd : d < 7) (hy : y.toInt = (d : Int)) : y = Int32.ofNat d := by
  rw [eq32, hy]
  match d, hd with
  | 0, _ => rfl
  | 1, _ => rfl
  | 2, _ => rfl
  | 3, _ => rfl
  | 4, _ => rfl
  | 5, _ => rfl
  | 6, _ => rfl
theorem tb_get {x y u o v : Int32} {d : Nat} (hd : d < 7) (hy : y.toInt = (d : Int)) (x1 : u = x >>> (y &&& 31)) (ho : o.toInt = 1) (x2 : v = u &&& o) : (tb x d = true ∧ v.toInt = 1) ∨ (tb x d = false ∧ v.toInt = 0) := by
  obtain rfl : o = 1 := (eq32 o 1).mpr ho
  obtain rfl := ofN hd hy
  have e : v.toBitVec = if (x.toBitVec.sshiftRight d).getLsbD 0 = true then 1#32 else 0#32 := by
    rw [x2, x1, Int32.toBitVec_and, shr_bv x d hd]
    exact and_1 _
  have e2 : (x.toBitVec.sshiftRight d).getLsbD 0 = tb x d := by
    rw [BitVec.getLsbD_sshiftRight]
    simp [tb]
    omega
  rw [e2] at e
  cases h : tb x d with
  | true => rw [h, if_pos rfl] at e; exact Or.inl ⟨rfl, by show v.toBitVec.toInt = 1; rw [e]; decide⟩
  | false => rw [h, if_neg (by decide)] at e; exact Or.inr ⟨rfl, by show v.toBitVec.toInt = 0; rw [e]; decide⟩
theorem shl_b (d e : Nat) (hd : d < 7) (he : e < 7) : tb ((1 : Int32) <<< (Int32.ofNat d &&& 31)) e = decide (e = d) := by
  have key : ∀ d : Fin 7, ∀ e : Fin 7, tb ((1 : Int32) <<< (Int32.ofNat d.val &&& 31)) e.val = decide (e.val = d.val) := by decide +kernel
  exact key ⟨d, hd⟩ ⟨e, he⟩
theorem tb_set {x y o u v : Int32} {d e : Nat} (hd : d < 7) (he : e < 7) (hy : y.toInt = (d : Int)) (ho : o.toInt = 1) (x1 : u = o <<< (y &&& 31)) (x2 : v = x ||| u) : tb v e = (tb x e || decide (e = d)) := by
  obtain rfl : o = 1 := (eq32 o 1).mpr ho
  obtain rfl := ofN hd hy
  rw [← shl_b d e hd he, x2, x1]
  show (x ||| (1 : Int32) <<< (Int32.ofNat d &&& 31)).toBitVec.getLsbD e = _
  rw [Int32.toBitVec_or, BitVec.getLsbD_or]
  rfl
def lnT : Nat → Nat
  | 1 => 7 | 2 => 4 | 3 => 4 | 4 => 4 | 5 => 4 | 6 => 28 | 7 => 28 | 8 => 28 | 9 => 28 | 10 => 3 | 11 => 3 | 12 => 21 | 13 => 21 | _ => 0
/-- the town that is read, at cells t .. t + 15 of the class: names are told of a sorts and b things -/
def RTX (g : GG) (t a b : Nat) (S : TS) (I : pI) (J : pJ) : Prop :=
  (∀ q, q < 5 → (I (ad g t) q).toInt = S.1 0 q) ∧
  (∀ c, c ∈ [1, 5, 6, 7, 8, 9, 12, 13] → ∀ q, q < lnT c → (I (ad g (t + c)) q).toInt = S.1 c q) ∧
  (∀ c, c ∈ [2, 3, 4] → ∀ q : Nat, (q : Int) < S.1 0 1 → (I (ad g (t + c)) q).toInt = S.1 c q) ∧
  (∀ c, c ∈ [10, 11] → ∀ q : Nat, (q : Int) < S.1 0 2 → (I (ad g (t + c)) q).toInt = S.1 c q) ∧
  (∀ q, q < a ∨ (4 ≤ q ∧ q < 4 + b) → (J (ad g (t + 14)) q).toInt = S.1 14 q) ∧
  (∀ r, r < 48 → ∀ d, d < 7 → tb (I (ad g (t + 15)) r) d = S.2 r d)
/-- bounds of what is read -/
def SB (S : TS) : Prop := 0 ≤ S.1 0 1 ∧ S.1 0 1 ≤ 4 ∧ 0 ≤ S.1 0 2 ∧ S.1 0 2 ≤ 3
theorem fnd_go {nm : Nat → Int} {b : Nat} {w : Int} {k j : Nat} (hj : j < k) (h : nm (b + j) ≠ w) : fnd nm b w (k - j) j = fnd nm b w (k - (j + 1)) (j + 1) := by
  rw [show k - j = (k - (j + 1)) + 1 by omega, fnd, if_neg h]
theorem fnd_at {nm : Nat → Int} {b : Nat} {w : Int} {k j : Nat} (hj : j < k) (h : nm (b + j) = w) : fnd nm b w (k - j) j = (j : Int) := by
  rw [show k - j = (k - (j + 1)) + 1 by omega, fnd, if_pos h]
theorem fnd_end {nm : Nat → Int} {b : Nat} {w : Int} {k j : Nat} (hj : k ≤ j) : fnd nm b w (k - j) j = -1 := by
  rw [show k - j = 0 by omega, fnd]
theorem fnd_b {nm : Nat → Int} {b : Nat} {w : Int} : ∀ (f i : Nat), fnd nm b w f i = -1 ∨ ((i : Int) ≤ fnd nm b w f i ∧ fnd nm b w f i < (i + f : Nat))
  | 0, i => Or.inl rfl
  | f + 1, i => by
    rw [fnd]
    split
    · exact Or.inr ⟨by omega, by omega⟩
    · rcases fnd_b (nm := nm) (b := b) (w := w) f (i + 1) with h | h
      · exact Or.inl h
      · exact Or.inr ⟨by omega, by omega⟩
theorem fnd_ext {nm nm' : Nat → Int} {b : Nat} {w : Int} : ∀ (f i : Nat), (∀ q, i ≤ q → q < i + f → nm (b + q) = nm' (b + q)) → fnd nm b w f i = fnd nm' b w f i
  | 0, _, _ => rfl
  | f + 1, i, h => by
    rw [fnd, fnd, h i (Nat.le_refl _) (by omega), fnd_ext f (i + 1) (fun q h1 h2 => h q (by omega) (by omega))]
theorem lnT_lt : ∀ c, c ∈ [1, 5, 6, 7, 8, 9, 12, 13] → 1 ≤ c ∧ c < 14 ∧ c ≠ 2 ∧ c ≠ 3 ∧ c ≠ 4 ∧ c ≠ 10 ∧ c ≠ 11 := by decide
theorem m234 : ∀ c, c ∈ [2, 3, 4] → 1 ≤ c ∧ c < 5 := by decide
theorem m1011 : ∀ c, c ∈ [10, 11] → 10 ≤ c ∧ c < 12 := by decide
/-- a row's place is written -/
theorem RTX_row {g : GG} (hy : LyX g) {t a b : Nat} (ht : t + 15 < 74) {S : TS} {I : pI} {J : pJ} (h : RTX g t a b S I J) (c q : Nat) (v : Int32) (x : Int) (hc : c ∈ [1, 5, 6, 7, 8, 9, 12, 13]) (hx : v.toInt = x) : RTX g t a b (pp S.1 c q x, S.2) (pp I (ad g (t + c)) q v) J := by
  have hc2 := lnT_lt c hc
  subst hx
  refine ⟨fun k hk => ?_, fun d hd k hk => ?_, fun d hd k hk => ?_, fun d hd k hk => ?_, fun k hk => ?_, fun r hr d hd => ?_⟩
  · rw [pp_off _ _ (lyx_ne hy (by omega) (by omega) (by omega)), pp_off _ _ (by omega)]; exact h.1 k hk
  · by_cases e : d = c
    · subst e
      rw [pp_at, pp_at]
      split
      · rfl
      · exact h.2.1 d hd k hk
    · rw [pp_off _ _ (lyx_ne hy (by omega) (by have := lnT_lt d hd; omega) (by omega)), pp_off _ _ e]; exact h.2.1 d hd k hk
  · have hd2 := m234 d hd
    have hk2 : (k : Int) < pp S.1 c q v.toInt 0 1 := hk
    rw [pp_off _ _ (by omega)] at hk2
    rw [pp_off _ _ (lyx_ne hy (by omega) (by omega) (by omega)), pp_off _ _ (by omega)]; exact h.2.2.1 d hd k hk2
  · have hd2 := m1011 d hd
    have hk2 : (k : Int) < pp S.1 c q v.toInt 0 2 := hk
    rw [pp_off _ _ (by omega)] at hk2
    rw [pp_off _ _ (lyx_ne hy (by omega) (by omega) (by omega)), pp_off _ _ (by omega)]; exact h.2.2.2.1 d hd k hk2
  · rw [pp_off _ _ (by omega)]; exact h.2.2.2.2.1 k hk
  · rw [pp_off _ _ (lyx_ne hy (by omega) (by omega) (by omega))]; exact h.2.2.2.2.2 r hr d hd
/-- a field of the town is written that is neither sorts nor things -/
theorem RTX_obj {g : GG} (hy : LyX g) {t a b : Nat} (ht : t + 15 < 74) {S : TS} {I : pI} {J : pJ} (h : RTX g t a b S I J) (q : Nat) (v : Int32) (x : Int) (hq : q ≠ 1 ∧ q ≠ 2) (hx : v.toInt = x) : RTX g t a b (pp S.1 0 q x, S.2) (pp I (ad g t) q v) J := by
  subst hx
  have e1 : pp S.1 0 q v.toInt 0 1 = S.1 0 1 := pp_ne _ _ (Or.inr (Ne.symm hq.1))
  have e2 : pp S.1 0 q v.toInt 0 2 = S.1 0 2 := pp_ne _ _ (Or.inr (Ne.symm hq.2))
  refine ⟨fun k hk => ?_, fun d hd k hk => ?_, fun d hd k hk => ?_, fun d hd k hk => ?_, fun k hk => ?_, fun r hr d hd => ?_⟩
  · rw [pp_at, pp_at]
    split
    · rfl
    · exact h.1 k hk
  · have := lnT_lt d hd
    rw [pp_off _ _ (lyx_ne hy (by omega) (by omega) (by omega)), pp_off _ _ (by omega)]; exact h.2.1 d hd k hk
  · have := m234 d hd
    have hk2 : (k : Int) < pp S.1 0 q v.toInt 0 1 := hk
    rw [e1] at hk2
    rw [pp_off _ _ (lyx_ne hy (by omega) (by omega) (by omega)), pp_off _ _ (by omega)]; exact h.2.2.1 d hd k hk2
  · have := m1011 d hd
    have hk2 : (k : Int) < pp S.1 0 q v.toInt 0 2 := hk
    rw [e2] at hk2
    rw [pp_off _ _ (lyx_ne hy (by omega) (by omega) (by omega)), pp_off _ _ (by omega)]; exact h.2.2.2.1 d hd k hk2
  · rw [pp_off _ _ (by decide)]; exact h.2.2.2.2.1 k hk
  · rw [pp_off _ _ (lyx_ne hy (by omega) (by omega) (by omega))]; exact h.2.2.2.2.2 r hr d hd
/-- a day is told -/
theorem RTX_hold {g : GG} (hy : LyX g) {t a b : Nat} (ht : t + 15 < 74) {S : TS} {I : pI} {J : pJ} (h : RTX g t a b S I J) (r d : Nat) (v : Int32) (hr : r < 48) (hd : d < 7) (hv : ∀ e, e < 7 → tb v e = (tb (I (ad g (t + 15)) r) e || decide (e = d))) : RTX g t a b (S.1, pp S.2 r d true) (pp I (ad g (t + 15)) r v) J := by
  refine ⟨fun k hk => ?_, fun c hc k hk => ?_, fun c hc k hk => ?_, fun c hc k hk => ?_, h.2.2.2.2.1, fun r2 hr2 d2 hd2 => ?_⟩
  · rw [pp_off _ _ (lyx_ne hy (by omega) (by omega) (by omega))]; exact h.1 k hk
  · have := lnT_lt c hc
    rw [pp_off _ _ (lyx_ne hy (by omega) (by omega) (by omega))]; exact h.2.1 c hc k hk
  · have := m234 c hc
    rw [pp_off _ _ (lyx_ne hy (by omega) (by omega) (by omega))]; exact h.2.2.1 c hc k hk
  · have := m1011 c hc
    rw [pp_off _ _ (lyx_ne hy (by omega) (by omega) (by omega))]; exact h.2.2.2.1 c hc k hk
  · rw [pp_at]
    by_cases e : r2 = r
    · subst e
      rw [if_pos rfl, hv d2 hd2, h.2.2.2.2.2 r2 hr2 d2 hd2]
      by_cases e2 : d2 = d
      · subst e2; rw [pp_self]; simp
      · rw [pp_ne _ _ (Or.inr e2)]; simp [e2]
    · rw [if_neg e, pp_ne _ _ (Or.inl e)]; exact h.2.2.2.2.2 r2 hr2 d2 hd2
/-- a sort is told -/
theorem RTX_sort {g : GG} (hy : LyX g) {t a b : Nat} (ht : t + 15 < 74) {S : TS} {I : pI} {J : pJ} (h : RTX g t a b S I J) (s : Nat) (v1 v2 v3 v4 : Int32) (x1 x2 x3 : Int) (hs : S.1 0 1 = (s : Int)) (h1 : v1.toInt = x1) (h2 : v2.toInt = x2) (h3 : v3.toInt = x3) (h4 : v4.toInt = (s : Int) + 1) :
    RTX g t a b (pp (pp (pp (pp S.1 2 s x1) 3 s x2) 4 s x3) 0 1 (S.1 0 1 + 1), S.2) (pp (pp (pp (pp I (ad g (t + 2)) s v1) (ad g (t + 3)) s v2) (ad g (t + 4)) s v3) (ad g t) 1 v4) J := by
  subst h1 h2 h3
  have e : ∀ c, c ≠ 0 → c ≠ 2 → c ≠ 3 → c ≠ 4 → c < 16 → ∀ k, (pp (pp (pp (pp I (ad g (t + 2)) s v1) (ad g (t + 3)) s v2) (ad g (t + 4)) s v3) (ad g t) 1 v4) (ad g (t + c)) k = I (ad g (t + c)) k := by
    intro c c0 c2 c3 c4 cl k
    rw [pp_off _ _ (lyx_ne hy (by omega) (by omega) (by omega)), pp_off _ _ (lyx_ne hy (by omega) (by omega) (by omega)), pp_off _ _ (lyx_ne hy (by omega) (by omega) (by omega)), pp_off _ _ (lyx_ne hy (by omega) (by omega) (by omega))]
  have f : ∀ c, c ≠ 0 → c ≠ 2 → c ≠ 3 → c ≠ 4 → (pp (pp (pp (pp S.1 2 s v1.toInt) 3 s v2.toInt) 4 s v3.toInt) 0 1 (S.1 0 1 + 1)) c = S.1 c := by
    intro c c0 c2 c3 c4
    rw [pp_off _ _ c0, pp_off _ _ c4, pp_off _ _ c3, pp_off _ _ c2]
  have hz : (pp (pp (pp (pp S.1 2 s v1.toInt) 3 s v2.toInt) 4 s v3.toInt) 0 1 (S.1 0 1 + 1)) 0 1 = S.1 0 1 + 1 := pp_self _ _ _ _
  have hz2 : (pp (pp (pp (pp S.1 2 s v1.toInt) 3 s v2.toInt) 4 s v3.toInt) 0 1 (S.1 0 1 + 1)) 0 2 = S.1 0 2 := by
    rw [pp_ne _ _ (Or.inr (by decide)), pp_off _ _ (by decide), pp_off _ _ (by decide), pp_off _ _ (by decide)]
  refine ⟨fun k hk => ?_, fun c hc k hk => ?_, fun c hc k hk => ?_, fun c hc k hk => ?_, fun k hk => ?_, fun r hr d hd => ?_⟩
  · show (pp _ (ad g t) 1 v4 (ad g t) k).toInt = pp _ 0 1 _ 0 k
    rw [pp_at, pp_at]
    split
    · omega
    · rw [pp_off _ _ (lyx_ne hy (by omega) (by omega) (by omega)), pp_off _ _ (lyx_ne hy (by omega) (by omega) (by omega)), pp_off _ _ (lyx_ne hy (by omega) (by omega) (by omega)), pp_off _ _ (by decide), pp_off _ _ (by decide), pp_off _ _ (by decide)]
      exact h.1 k hk
  · have := lnT_lt c hc
    show (_ : Int32).toInt = (pp _ 0 1 _) c k
    rw [e c (by omega) (by omega) (by omega) (by omega) (by omega), f c (by omega) (by omega) (by omega) (by omega)]
    exact h.2.1 c hc k hk
  · have hk2 : (k : Int) < S.1 0 1 + 1 := by rw [← hz]; exact hk
    show (_ : Int32).toInt = (pp _ 0 1 _) c k
    simp only [List.mem_cons, List.not_mem_nil, or_false] at hc
    by_cases ek : k = s
    · subst ek
      rcases hc with rfl | rfl | rfl
      · rw [pp_off _ _ (lyx_ne hy (by omega) (by omega) (by omega)), pp_off _ _ (lyx_ne hy (by omega) (by omega) (by omega)), pp_off _ _ (lyx_ne hy (by omega) (by omega) (by omega)), pp_self, pp_off _ _ (by decide), pp_off _ _ (by decide), pp_off _ _ (by decide), pp_self]
      · rw [pp_off _ _ (lyx_ne hy (by omega) (by omega) (by omega)), pp_off _ _ (lyx_ne hy (by omega) (by omega) (by omega)), pp_self, pp_off _ _ (by decide), pp_off _ _ (by decide), pp_self]
      · rw [pp_off _ _ (lyx_ne hy (by omega) (by omega) (by omega)), pp_self, pp_off _ _ (by decide), pp_self]
    · have hk3 : (k : Int) < S.1 0 1 := by omega
      have hh := h.2.2.1 c (by simp only [List.mem_cons, List.not_mem_nil, or_false]; exact hc) k hk3
      rcases hc with rfl | rfl | rfl
      · rw [pp_off _ _ (lyx_ne hy (by omega) (by omega) (by omega)), pp_off _ _ (lyx_ne hy (by omega) (by omega) (by omega)), pp_off _ _ (lyx_ne hy (by omega) (by omega) (by omega)), pp_ne _ _ (Or.inr ek), pp_off _ _ (by decide), pp_off _ _ (by decide), pp_off _ _ (by decide), pp_ne _ _ (Or.inr ek)]
        exact hh
      · rw [pp_off _ _ (lyx_ne hy (by omega) (by omega) (by omega)), pp_off _ _ (lyx_ne hy (by omega) (by omega) (by omega)), pp_ne _ _ (Or.inr ek), pp_off _ _ (lyx_ne hy (by omega) (by omega) (by omega)), pp_off _ _ (by decide), pp_off _ _ (by decide), pp_ne _ _ (Or.inr ek), pp_off _ _ (by decide)]
        exact hh
      · rw [pp_off _ _ (lyx_ne hy (by omega) (by omega) (by omega)), pp_ne _ _ (Or.inr ek), pp_off _ _ (lyx_ne hy (by omega) (by omega) (by omega)), pp_off _ _ (lyx_ne hy (by omega) (by omega) (by omega)), pp_off _ _ (by decide), pp_ne _ _ (Or.inr ek), pp_off _ _ (by decide), pp_off _ _ (by decide)]
        exact hh
  · have := m1011 c hc
    have hk2 : (k : Int) < S.1 0 2 := by rw [← hz2]; exact hk
    show (_ : Int32).toInt = (pp _ 0 1 _) c k
    rw [e c (by omega) (by omega) (by omega) (by omega) (by omega), f c (by omega) (by omega) (by omega) (by omega)]
    exact h.2.2.2.1 c hc k hk2
  · show (J (ad g (t + 14)) k).toInt = (pp _ 0 1 _) 14 k
    rw [f 14 (by decide) (by decide) (by decide) (by decide)]
    exact h.2.2.2.2.1 k hk
  · rw [e 15 (by decide) (by decide) (by decide) (by decide) (by decide)]
    exact h.2.2.2.2.2 r hr d hd
