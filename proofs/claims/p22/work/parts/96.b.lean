section Rules
variable {g : GG} {d : MD} {pc : Nat} {ls : List (Nat × Value)} {st : List Value} {I : pI} {J : pJ} {R : pR} {Q : Post}
theorem WQ_ishrx {x y : Int32} (h : decode (md_c d) pc = .ok (.ishr, 1)) (k : ∀ v : Int32, v = x >>> (y &&& 31) → WP g d (pc + 1) ls (.int v :: st) I J R Q) : WP g d pc ls (.int y :: .int x :: st) I J R Q := WP_ishr h (k _ rfl)
theorem WQ_ialdb {a n : Nat} {i : Int32} {lo hi : Int} (h : decode (md_c d) pc = .ok (.iaload, 1)) (ha : g_is g a 13) (hn : g_n g a = n) (h0 : 0 ≤ i.toInt) (h1 : i.toInt < n) (hb : ∀ q, q < n → lo ≤ (I a q).toInt ∧ (I a q).toInt ≤ hi) (kk : ∀ v : Int32, lo ≤ v.toInt → v.toInt ≤ hi → I a i.toInt.toNat = v → WP g d (pc + 1) ls (.int v :: st) I J R Q) : WP g d pc ls (.int i :: .ref a :: st) I J R Q := WQ_iald h ha hn h0 h1 hb (fun v a1 b1 e => kk v a1 b1 (by rw [← e, cl (x := i) (n := i.toInt.toNat) (by omega)]))
end Rules
/-- what is earned, on all purses at once -/
theorem WE_a {ha sh nf m ur : Int64} {ea z : Int} (h0 : 0 ≤ ea) (h1 : ea ≤ 20) (q1 : ∀ b : Int, 0 ≤ b → (bt sh b ↔ b < 64 ∧ ea ≤ b ∧ bt ha (b - ea))) (q2 : ∀ b : Int, bt nf b ↔ bt sh b ∧ bt m b) (hm : m.toInt = 1152921504606846975) (q3 : ∀ b : Int, 0 ≤ b → (bt ur b ↔ bt ha (b + z))) (hz : z = 60 - ea) (h : ur.toInt = 0) : ∀ c c' : Int, 0 ≤ c → c ≤ 60 → bt ha c → CE c c' ea → bt nf c' := by
  intro c c' k1 k2 k3 k4
  by_cases k5 : c + ea < 60
  · have e : c' = c + ea := by unfold CE at k4; omega
    subst e
    refine (q2 _).mpr ⟨(q1 _ (by omega)).mpr ⟨by omega, by omega, ?_⟩, bt_full hm (by omega) (by omega)⟩
    rw [show c + ea - ea = c by omega]
    exact k3
  · exfalso
    refine bt_no h (c + ea - 60) ((q3 _ (by omega)).mpr ?_)
    rw [hz, show c + ea - 60 + (60 - ea) = c by omega]
    exact k3
theorem WE_b {ha sh nf m fu v : Int64} {ea : Int} (h0 : 0 ≤ ea) (h1 : ea ≤ 20) (q1 : ∀ b : Int, 0 ≤ b → (bt sh b ↔ b < 64 ∧ ea ≤ b ∧ bt ha (b - ea))) (q2 : ∀ b : Int, bt nf b ↔ bt sh b ∧ bt m b) (hm : m.toInt = 1152921504606846975) (q4 : ∀ b : Int, bt v b ↔ bt nf b ∨ bt fu b) (hf : fu.toInt = 1152921504606846976) : ∀ c c' : Int, 0 ≤ c → c ≤ 60 → bt ha c → CE c c' ea → bt v c' := by
  intro c c' k1 k2 k3 k4
  by_cases k5 : c + ea < 60
  · have e : c' = c + ea := by unfold CE at k4; omega
    subst e
    refine (q4 _).mpr (Or.inl ((q2 _).mpr ⟨(q1 _ (by omega)).mpr ⟨by omega, by omega, ?_⟩, bt_full hm (by omega) (by omega)⟩))
    rw [show c + ea - ea = c by omega]
    exact k3
  · have e : c' = 60 := by unfold CE at k4; omega
    subst e
    exact (q4 _).mpr (Or.inr (bt_60 hf))
/-- what is left of all that can be had, from the stores ahead of u0 -/
def SRD (T : Nat → Int32) (P M : Nat → Int64) (ah ea u0 : Int) : Prop := ∀ u c c' s f e k l : Int, 0 ≤ u → u < u0 → 0 ≤ c → c ≤ 60 → bt (P (6 * ah + u).toNat) c → CE c c' ea → ACT T u c' s f e k l → bt (M k.toNat) l
theorem SRD_0 {T : Nat → Int32} {P M : Nat → Int64} {ah ea u0 : Int} (h : u0 = 0) : SRD T P M ah ea u0 := by
  intro u c c' s f e k l h1 h2
  omega
theorem SRD_step {T : Nat → Int32} {P M M2 : Nat → Int64} {ah ea u0 : Int} {had co : Int64} (h : SRD T P M ah ea u0) (hg : GRW M M2) (hs : ∀ c s f e k l : Int, bt co c → ACT T u0 c s f e k l → bt (M2 k.toNat) l) (hh : P (6 * ah + u0).toNat = had) (hw : ∀ c c' : Int, 0 ≤ c → c ≤ 60 → bt had c → CE c c' ea → bt co c') : SRD T P M2 ah ea (u0 + 1) := by
  intro u c c' s f e k l h1 h2 h3 h4 h5 h6 h7
  by_cases q : u = u0
  · subst q
    rw [hh] at h5
    exact hs c' s f e k l (hw c c' h3 h4 h5 h6) h7
  · exact hg _ _ (h u c c' s f e k l h1 (by omega) h3 h4 h5 h6 h7)
theorem SRD_skip {T : Nat → Int32} {P M : Nat → Int64} {ah ea u0 u1 : Int} {had : Int64} (h : SRD T P M ah ea u0) (hh : P (6 * ah + u0).toNat = had) (hz : had.toInt = 0) (h1 : u1 = u0 + 1) : SRD T P M ah ea u1 := by
  intro u c c' s f e k l h1 h2 h3 h4 h5 h6 h7
  by_cases q : u = u0
  · subst q
    rw [hh] at h5
    exact absurd h5 (bt_no hz c)
  · exact h u c c' s f e k l h1 (by omega) h3 h4 h5 h6 h7
/-- what can be had behind a night, from what was left ahead of (k0, l0) -/
def SLP (M P : Nat → Int64) (B C S : Nat → Int32) (ah da k0 l0 : Int) : Prop := ∀ k l : Int, 0 ≤ k → k ≤ 5 → 0 ≤ l → l ≤ 60 → (k < k0 ∨ k = k0 ∧ l < l0) → bt (M k.toNat) l → bt (P (6 * ah + SB S k).toNat) (CB B C l k da)
def OUT (P0 P : Nat → Int64) (ah : Int) : Prop := ∀ q : Nat, ((q : Int) < 6 * ah ∨ 6 * ah + 6 ≤ (q : Int)) → P q = P0 q
theorem OUT_rf {P : Nat → Int64} {ah : Int} : OUT P P ah := fun _ _ => rfl
theorem OUT_pp {P0 : Nat → Int64} {J J2 : pJ} {a K : Nat} {x : Int64} {ah sb : Int} (h : OUT P0 (J a) ah) (e : J2 = pp J a K x) (hK : (K : Int) = 6 * ah + sb) (h0 : 0 ≤ sb) (h5 : sb ≤ 5) : OUT P0 (J2 a) ah := by
  intro q hq
  rw [e, pp_at, if_neg (by omega)]
  exact h q hq
theorem SLP_0 {M P : Nat → Int64} {B C S : Nat → Int32} {ah da k0 : Int} (h : k0 = 0) : SLP M P B C S ah da k0 0 := by
  intro k l h1 h2 h3 h4 h5
  omega
theorem SLP_step {M : Nat → Int64} {J J2 : pJ} {a K : Nat} {x w : Int64} {B C S : Nat → Int32} {ah da k0 l0 y : Int} (h : SLP M (J a) B C S ah da k0 l0) (e : J2 = pp J a K x) (hx : ∀ b, bt x b ↔ bt (J a K) b ∨ bt w b) (hw : ∀ b : Int, 0 ≤ b → (bt w b ↔ b = y)) (hK : K = (6 * ah + SB S k0).toNat) (hy : y = CB B C l0 k0 da) (hy0 : 0 ≤ y) : SLP M (J2 a) B C S ah da k0 (l0 + 1) := by
  intro k l h1 h2 h3 h4 h5 h6
  by_cases q : k = k0 ∧ l = l0
  · obtain ⟨rfl, rfl⟩ := q
    rw [e, pp_at, if_pos hK.symm, ← hy]
    exact (hx y).mpr (Or.inr ((hw y hy0).mpr rfl))
  · have := h k l h1 h2 h3 h4 (by omega) h6
    rw [e, pp_at]
    split
    · rename_i q2; rw [q2] at this; exact (hx _).mpr (Or.inl this)
    · exact this
theorem SLP_skip {M P : Nat → Int64} {B C S : Nat → Int32} {ah da k0 l0 l1 : Int} {left : Int64} (h : SLP M P B C S ah da k0 l0) (hl : M k0.toNat = left) (hn : ¬ bt left l0) (h1 : l1 = l0 + 1) : SLP M P B C S ah da k0 l1 := by
  intro k l h1 h2 h3 h4 h5 h6
  by_cases q : k = k0 ∧ l = l0
  · obtain ⟨rfl, rfl⟩ := q
    rw [hl] at h6
    exact absurd h6 hn
  · exact h k l h1 h2 h3 h4 (by omega) h6
theorem SLP_next {M P : Nat → Int64} {B C S : Nat → Int32} {ah da k0 l0 k1 : Int} (h : SLP M P B C S ah da k0 l0) (h1 : k1 = k0 + 1) (hx : 60 < l0) : SLP M P B C S ah da k1 0 := by
  intro k l h1 h2 h3 h4 h5 h6
  exact h k l h1 h2 h3 h4 (by omega) h6
theorem SLP_exit {M P : Nat → Int64} {B C S : Nat → Int32} {ah da k0 l0 k1 : Int} {left z : Int64} (h : SLP M P B C S ah da k0 l0) (h1 : k1 = k0 + 1) (hl : M k0.toNat = left) (hq : ∀ b : Int, 0 ≤ b → (bt z b ↔ bt left (b + l0))) (hz : z.toInt = 0) : SLP M P B C S ah da k1 0 := by
  intro k l h1 h2 h3 h4 h5 h6
  by_cases q : k = k0 ∧ l0 ≤ l
  · obtain ⟨rfl, q⟩ := q
    rw [hl] at h6
    exfalso
    refine bt_no hz (l - l0) ((hq _ (by omega)).mpr ?_)
    rw [show l - l0 + l0 = l by omega]
    exact h6
  · exact h k l h1 h2 h3 h4 (by omega) h6
theorem bt_z {x left z : Int64} {l0 : Int} (h1 : z.toInt = 0 ↔ ¬ bt x 0) (h2 : ∀ b : Int, 0 ≤ b → (bt x b ↔ bt left (b + l0))) : z.toInt = 0 ↔ ¬ bt left l0 := by
  rw [h1, h2 0 (Int.le_refl 0), Int.zero_add]
/-- the terms of a sort's day -/
def LD (g : GG) (t : Nat) (I : pI) (so da : Int) (T : Nat → Int32) : Prop :=
  ((T 0).toInt = (I (ad g (t + 7)) (7 * so + da).toNat).toInt ∧ (T 1).toInt = (I (ad g (t + 8)) (7 * so + da).toNat).toInt ∧ (T 2).toInt = (I (ad g (t + 9)) (7 * so + da).toNat).toInt) ∧
  ((T 0).toInt = -1 ∧ (T 3).toInt = 0 ∨ (T 0).toInt ≠ -1 ∧ (T 3).toInt = (I (ad g 22) (7 * (T 0).toInt + da).toNat).toInt) ∧
  ((I (ad g t) 4).toInt = -1 ∧ (T 4).toInt = 0 ∨ (I (ad g t) 4).toInt ≠ -1 ∧ (T 4).toInt = (I (ad g 22) (7 * (I (ad g t) 4).toInt + da).toNat).toInt) ∧
  ((I (ad g (t + 5)) so.toNat >>> (nI da.toNat &&& 31) &&& 1).toInt ≠ 0 ∧ (T 5).toInt = 0 ∧ (T 6).toInt = 0 ∨ (I (ad g (t + 5)) so.toNat >>> (nI da.toNat &&& 31) &&& 1).toInt = 0 ∧ (T 5).toInt = (T 1).toInt ∧ ((I (ad g t) 4).toInt = -1 ∧ (T 6).toInt = 0 ∨ (I (ad g t) 4).toInt ≠ -1 ∧ (T 6).toInt = 2)) ∧
  ((T 0).toInt ≠ -1 ∧ (T 0).toInt = (I (ad g t) 4).toInt ∧ (T 7).toInt = 1 ∨ ((T 0).toInt = -1 ∨ (T 0).toInt ≠ (I (ad g t) 4).toInt) ∧ (T 7).toInt = 0)
theorem LD_un {g : GG} {t : Nat} {I : pI} {so da : Int} {T T2 : Nat → Int32} (h : LD g t I so da T) (h2 : LD g t I so da T2) : ∀ q, q < 8 → (T q).toInt = (T2 q).toInt := by
  obtain ⟨⟨a0, a1, a2⟩, a3, a4, a5, a7⟩ := h
  obtain ⟨⟨b0, b1, b2⟩, b3, b4, b5, b7⟩ := h2
  have e0 : (T2 0).toInt = (T 0).toInt := by omega
  rw [e0] at b3 b7
  have e1 : (T2 1).toInt = (T 1).toInt := by omega
  rw [e1] at b5
  intro q hq
  match q, hq with
  | 0, _ => omega
  | 1, _ => omega
  | 2, _ => omega
  | 3, _ => omega
  | 4, _ => omega
  | 5, _ => omega
  | 6, _ => omega
  | 7, _ => omega
theorem LD_fr {g : GG} {t : Nat} {I I2 : pI} {so da : Int} {T : Nat → Int32} (h : LD g t I2 so da T) (e0 : I2 (ad g t) = I (ad g t)) (e5 : I2 (ad g (t + 5)) = I (ad g (t + 5))) (e7 : I2 (ad g (t + 7)) = I (ad g (t + 7))) (e8 : I2 (ad g (t + 8)) = I (ad g (t + 8))) (e9 : I2 (ad g (t + 9)) = I (ad g (t + 9))) (e22 : I2 (ad g 22) = I (ad g 22)) : LD g t I so da T := by
  unfold LD at h ⊢
  rw [e0, e5, e7, e8, e9, e22] at h
  exact h
theorem ACT_eq {T T2 : Nat → Int32} (he : ∀ q, q < 8 → (T q).toInt = (T2 q).toInt) {u c s f e k l : Int} (h : ACT T u c s f e k l) : ACT T2 u c s f e k l := by
  unfold ACT at h ⊢
  rw [he 1 (by decide), he 3 (by decide), he 4 (by decide), he 5 (by decide), he 6 (by decide), he 7 (by decide)] at h
  exact h
theorem AOK_eq {T T2 : Nat → Int32} (he : ∀ q, q < 8 → (T q).toInt = (T2 q).toInt) {c u a : Int} (h : AOKd T c u a) : AOKd T2 c u a := by
  unfold AOKd at h ⊢
  rw [he 3 (by decide), he 4 (by decide)] at h
  exact h
