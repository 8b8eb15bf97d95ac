/-! BITS of ints; a town in the class's cells -/
def tb (x : Int32) (d : Nat) : Bool := x.toBitVec.getLsbD d
theorem and_1 (a : BitVec 32) : a &&& 1#32 = if a.getLsbD 0 = true then 1#32 else 0#32 := by
  apply BitVec.eq_of_getLsbD_eq
  intro i hi
  rw [BitVec.getLsbD_and, BitVec.getLsbD_one]
  by_cases h : i = 0
  · subst h
    split
    · rename_i h2; rw [h2]; decide
    · rename_i h2; rw [Bool.not_eq_true] at h2; rw [h2]; decide
  · split
    · rw [BitVec.getLsbD_one]; simp [h]
    · rw [BitVec.getLsbD_zero]; simp [h]
theorem shr_bv (x : Int32) : ∀ d, d < 7 → (x >>> (Int32.ofNat d &&& 31)).toBitVec = x.toBitVec.sshiftRight d := by
  intro d hd
  match d, hd with
  | 0, _ => rfl
  | 1, _ => rfl
  | 2, _ => rfl
  | 3, _ => rfl
  | 4, _ => rfl
  | 5, _ => rfl
  | 6, _ => rfl
theorem ofN {y : Int32} {d : Nat} (hd : d < 7) (hy : y.toInt = (d : Int)) : y = Int32.ofNat d := by
  rw [eq32, hy]
  match d, hd with
  | 0, _ => rfl
  | 1, _ => rfl
  | 2, _ => rfl
  | 3, _ => rfl
  | 4, _ => rfl
  | 5, _ => rfl
  | 6, _ => rfl
theorem tb_get {x y u o v : Int32} {d : Nat} (hd : d < 7) (hy : y.toInt = (d : Int)) (x1 : u = x >>> (y &&& 31)) (ho : o.toInt = 1) (x2 : v = u &&& o) : (tb x d = true ∧ v.toInt = 1) ∨ (tb x d = false ∧ v.toInt = 0) := by
  obtain rfl : o = 1 := (eq32 o 1).mpr ho
  obtain rfl := ofN hd hy
  have e : v.toBitVec = if (x.toBitVec.sshiftRight d).getLsbD 0 = true then 1#32 else 0#32 := by
    rw [x2, x1, Int32.toBitVec_and, shr_bv x d hd]
    exact and_1 _
  have e2 : (x.toBitVec.sshiftRight d).getLsbD 0 = tb x d := by
    rw [BitVec.getLsbD_sshiftRight]
    simp [tb]
    omega
  rw [e2] at e
  cases h : tb x d with
  | true => rw [h, if_pos rfl] at e; exact Or.inl ⟨rfl, by show v.toBitVec.toInt = 1; rw [e]; decide⟩
  | false => rw [h, if_neg (by decide)] at e; exact Or.inr ⟨rfl, by show v.toBitVec.toInt = 0; rw [e]; decide⟩
theorem shl_b (d e : Nat) (hd : d < 7) (he : e < 7) : tb ((1 : Int32) <<< (Int32.ofNat d &&& 31)) e = decide (e = d) := by
  have key : ∀ d : Fin 7, ∀ e : Fin 7, tb ((1 : Int32) <<< (Int32.ofNat d.val &&& 31)) e.val = decide (e.val = d.val) := by decide +kernel
  exact key ⟨d, hd⟩ ⟨e, he⟩
theorem tb_set {x y o u v : Int32} {d e : Nat} (hd : d < 7) (he : e < 7) (hy : y.toInt = (d : Int)) (ho : o.toInt = 1) (x1 : u = o <<< (y &&& 31)) (x2 : v = x ||| u) : tb v e = (tb x e || decide (e = d)) := by
  obtain rfl : o = 1 := (eq32 o 1).mpr ho
  obtain rfl := ofN hd hy
  rw [← shl_b d e hd he, x2, x1]
  show (x ||| (1 : Int32) <<< (Int32.ofNat d &&& 31)).toBitVec.getLsbD e = _
  rw [Int32.toBitVec_or, BitVec.getLsbD_or]
  rfl
def lnT : Nat → Nat
  | 0 => 5 | 1 => 7 | 2 => 4 | 3 => 4 | 4 => 4 | 5 => 4 | 6 => 28 | 7 => 28 | 8 => 28 | 9 => 28 | 10 => 3 | 11 => 3 | 12 => 21 | 13 => 21 | _ => 0
/-- the town that is read, at cells t .. t + 15 of the class -/
def RTX (g : GG) (t : Nat) (S : TwS) (I : pI) (J : pJ) : Prop :=
  (∀ c q, c ≤ 13 → q < lnT c → (I (ad g (t + c)) q).toInt = S.1 c q) ∧
  (∀ q, q < 7 → (J (ad g (t + 14)) q).toInt = S.1 14 q) ∧
  (∀ r, r < 48 → ∀ d, d < 7 → tb (I (ad g (t + 15)) r) d = S.2 r d)
/-- bounds of what is read -/
def SBn (S : TwS) : Prop := 0 ≤ S.1 0 1 ∧ S.1 0 1 ≤ 4 ∧ 0 ≤ S.1 0 2 ∧ S.1 0 2 ≤ 3
theorem fnd_go {nm : Nat → Int} {b : Nat} {w : Int} {k j : Nat} (hj : j < k) (h : nm (b + j) ≠ w) : fnd nm b w (k - j) j = fnd nm b w (k - (j + 1)) (j + 1) := by
  rw [show k - j = (k - (j + 1)) + 1 by omega, fnd, if_neg h]
theorem fnd_at {nm : Nat → Int} {b : Nat} {w : Int} {k j : Nat} (hj : j < k) (h : nm (b + j) = w) : fnd nm b w (k - j) j = (j : Int) := by
  rw [show k - j = (k - (j + 1)) + 1 by omega, fnd, if_pos h]
theorem fnd_end {nm : Nat → Int} {b : Nat} {w : Int} {k j : Nat} (hj : k ≤ j) : fnd nm b w (k - j) j = -1 := by
  rw [show k - j = 0 by omega, fnd]
theorem fnd_b {nm : Nat → Int} {b : Nat} {w : Int} : ∀ (f i : Nat), fnd nm b w f i = -1 ∨ ((i : Int) ≤ fnd nm b w f i ∧ fnd nm b w f i < (i + f : Nat))
  | 0, i => Or.inl rfl
  | f + 1, i => by
    rw [fnd]
    split
    · exact Or.inr ⟨by omega, by omega⟩
    · rcases fnd_b (nm := nm) (b := b) (w := w) f (i + 1) with h | h
      · exact Or.inl h
      · exact Or.inr ⟨by omega, by omega⟩
/-- a place is written -/
theorem RTX_w {g : GG} (hy : LyX g) {t : Nat} (ht : t + 15 < 74) {S : TwS} {I : pI} {J : pJ} (h : RTX g t S I J) (c q : Nat) (v : Int32) (x : Int) (hc : c ≤ 13) (hx : v.toInt = x) : RTX g t (pp S.1 c q x, S.2) (pp I (ad g (t + c)) q v) J := by
  subst hx
  refine ⟨fun d k hd hk => ?_, fun k hk => ?_, fun r hr d hd => ?_⟩
  · show (pp I (ad g (t + c)) q v (ad g (t + d)) k).toInt = pp S.1 c q v.toInt d k
    by_cases e : d = c
    · subst e
      rw [pp_at, pp_at]
      split
      · rfl
      · exact h.1 d k hd hk
    · rw [pp_off _ _ (lyx_ne hy (show t + d ≠ t + c by omega) (by omega) (by omega)), pp_off _ _ e]
      exact h.1 d k hd hk
  · show _ = pp S.1 c q v.toInt 14 k
    rw [pp_off _ _ (by omega)]
    exact h.2.1 k hk
  · rw [pp_off _ _ (lyx_ne hy (show t + 15 ≠ t + c by omega) (by omega) (by omega))]
    exact h.2.2 r hr d hd
/-- a name is written -/
theorem RTX_nm {g : GG} {t : Nat} {S : TwS} {I : pI} {J : pJ} (h : RTX g t S I J) (q : Nat) (v : Int64) (x : Int) (hx : v.toInt = x) : RTX g t (pp S.1 14 q x, S.2) I (pp J (ad g (t + 14)) q v) := by
  subst hx
  refine ⟨fun d k hd hk => ?_, fun k hk => ?_, h.2.2⟩
  · show _ = pp S.1 14 q v.toInt d k
    rw [pp_off _ _ (by omega)]
    exact h.1 d k hd hk
  · show (pp J (ad g (t + 14)) q v (ad g (t + 14)) k).toInt = pp S.1 14 q v.toInt 14 k
    rw [pp_at, pp_at]
    split
    · rfl
    · exact h.2.1 k hk
/-- a day is told -/
theorem RTX_hold {g : GG} (hy : LyX g) {t : Nat} (ht : t + 15 < 74) {S : TwS} {I : pI} {J : pJ} (h : RTX g t S I J) (r d : Nat) (v : Int32) (hv : ∀ e, e < 7 → tb v e = (tb (I (ad g (t + 15)) r) e || decide (e = d))) (hr : r < 48) : RTX g t (S.1, pp S.2 r d true) (pp I (ad g (t + 15)) r v) J := by
  refine ⟨fun c k hc hk => ?_, h.2.1, fun r2 hr2 d2 hd2 => ?_⟩
  · rw [pp_off _ _ (lyx_ne hy (show t + c ≠ t + 15 by omega) (by omega) (by omega))]
    exact h.1 c k hc hk
  · show tb (pp I (ad g (t + 15)) r v (ad g (t + 15)) r2) d2 = pp S.2 r d true r2 d2
    rw [pp_at]
    by_cases e : r2 = r
    · subst e
      rw [if_pos rfl, hv d2 hd2, h.2.2 r2 hr2 d2 hd2, pp_at]
      by_cases e2 : d2 = d
      · subst e2; simp
      · simp [e2]
    · rw [if_neg e, pp_ne _ _ (Or.inl e)]; exact h.2.2 r2 hr2 d2 hd2
/-- what is written elsewhere -/
theorem RTX_fr {g : GG} (hy : LyX g) {t : Nat} (ht : t + 15 < 74) {S : TwS} {I I' : pI} {J J' : pJ} {C D : List Nat} (h : RTX g t S I J) (hf : FC g C I I') (hD : FC g D J J') (hc : ∀ i ∈ C, i < 74 ∧ (i < t ∨ t + 15 < i)) (hd : ∀ i ∈ D, i < 74 ∧ (i < t ∨ t + 15 < i)) : RTX g t S I' J' := by
  have e1 : ∀ c, c ≤ 15 → I' (ad g (t + c)) = I (ad g (t + c)) := fun c hc2 => FCx_at hy hf (t + c) (by omega) (fun i hi => ⟨by have := (hc i hi).2; omega, (hc i hi).1⟩)
  have e2 : J' (ad g (t + 14)) = J (ad g (t + 14)) := FCx_at hy hD (t + 14) (by omega) (fun i hi => ⟨by have := (hd i hi).2; omega, (hd i hi).1⟩)
  refine ⟨fun c q h1 h2 => ?_, fun q h1 => ?_, fun r h1 d h2 => ?_⟩
  · rw [e1 c (by omega)]; exact h.1 c q h1 h2
  · rw [e2]; exact h.2.1 q h1
  · rw [e1 15 (by omega)]; exact h.2.2 r h1 d h2
