/-! WEIGHING: what is read of the row of later days has been weighed -/
def HW (T Lr B C S : Nat → Int32) (K c u da : Int) : Prop := ∀ s f e k l : Int, ACT T u c s f e k l → 0 ≤ (Lr (61 * SB S k + CB B C l k da).toNat).toInt ∧ (Lr (61 * SB S k + CB B C l k da).toNat).toInt ≤ K
def WD (T Lr B C S : Nat → Int32) (P : Nat → Int64) (K ah ea da : Int) : Prop := ∀ u c c' : Int, 0 ≤ u → u ≤ 5 → 0 ≤ c → c ≤ 60 → bt (P (6 * ah + u).toNat) c → CE c c' ea → HW T Lr B C S K c' u da
/-- of all purses that can be had, ahead of (u0, c0) -/
def VIS (P : Nat → Int64) (ah u0 c0 : Int) (F : Int → Int → Prop) : Prop := ∀ u c : Int, 0 ≤ u → u ≤ 5 → 0 ≤ c → c ≤ 60 → (u < u0 ∨ u = u0 ∧ c < c0) → bt (P (6 * ah + u).toNat) c → F u c
theorem VIS_0 {P : Nat → Int64} {ah u0 c0 : Int} {F : Int → Int → Prop} (h : u0 = 0) (h2 : c0 = 0) : VIS P ah u0 c0 F := by
  intro u c h1 h2 h3 h4 h5
  omega
theorem VIS_c0 {P : Nat → Int64} {ah u0 c0 : Int} {F : Int → Int → Prop} (h : VIS P ah u0 0 F) (h2 : c0 = 0) : VIS P ah u0 c0 F := by rw [h2]; exact h
theorem VIS_step {P : Nat → Int64} {ah u0 c0 : Int} {F F2 : Int → Int → Prop} (h : VIS P ah u0 c0 F) (h2 : F2 u0 c0) (h3 : ∀ u c : Int, 0 ≤ u → u ≤ 5 → 0 ≤ c → c ≤ 60 → ¬ (u = u0 ∧ c = c0) → F u c → F2 u c) : VIS P ah u0 (c0 + 1) F2 := by
  intro u c k1 k2 k3 k4 k5 k6
  by_cases q : u = u0 ∧ c = c0
  · obtain ⟨rfl, rfl⟩ := q
    exact h2
  · exact h3 u c k1 k2 k3 k4 q (h u c k1 k2 k3 k4 (by omega) k6)
theorem VIS_skip {P : Nat → Int64} {ah u0 c0 c1 : Int} {F : Int → Int → Prop} {left : Int64} (h : VIS P ah u0 c0 F) (hl : P (6 * ah + u0).toNat = left) (hn : ¬ bt left c0) (h1 : c1 = c0 + 1) : VIS P ah u0 c1 F := by
  intro u c k1 k2 k3 k4 k5 k6
  by_cases q : u = u0 ∧ c = c0
  · obtain ⟨rfl, rfl⟩ := q
    rw [hl] at k6
    exact absurd k6 hn
  · exact h u c k1 k2 k3 k4 (by omega) k6
theorem VIS_next {P : Nat → Int64} {ah u0 c0 u1 : Int} {F : Int → Int → Prop} (h : VIS P ah u0 c0 F) (h1 : u1 = u0 + 1) (hx : 60 < c0) : VIS P ah u1 0 F := by
  intro u c k1 k2 k3 k4 k5 k6
  exact h u c k1 k2 k3 k4 (by omega) k6
theorem VIS_exit {P : Nat → Int64} {ah u0 c0 u1 : Int} {F : Int → Int → Prop} {left z : Int64} (h : VIS P ah u0 c0 F) (h1 : u1 = u0 + 1) (hl : P (6 * ah + u0).toNat = left) (hq : ∀ b : Int, 0 ≤ b → (bt z b ↔ bt left (b + c0))) (hz : z.toInt = 0) : VIS P ah u1 0 F := by
  intro u c k1 k2 k3 k4 k5 k6
  by_cases q : u = u0 ∧ c0 ≤ c
  · obtain ⟨rfl, q⟩ := q
    rw [hl] at k6
    exfalso
    refine bt_no hz (c - c0) ((hq _ (by omega)).mpr ?_)
    rw [show c - c0 + c0 = c by omega]
    exact k6
  · exact h u c k1 k2 k3 k4 (by omega) k6
def FV (N : Nat → Int32) (K2 : Int) : Int → Int → Prop := fun u c => 0 ≤ (N (61 * u + c).toNat).toInt ∧ (N (61 * u + c).toNat).toInt ≤ K2
def FU (T : Nat → Int32) (P : Nat → Int64) (ah ea la : Int) : Int → Int → Prop := fun u c => ∀ c' : Int, (∀ u2 c2 : Int, 0 ≤ u2 → u2 ≤ 5 → 0 ≤ c2 → c2 ≤ 60 → bt (P (6 * ah + u2).toNat) c2 → u2 = u ∧ c2 = c) → CE c c' ea → AOKd T c' u la
theorem FV_step {P : Nat → Int64} {I I2 : pI} {a K : Nat} {v : Int32} {ah u0 c0 K2 : Int} (h : VIS P ah u0 c0 (FV (I a) K2)) (e : I2 = pp I a K v) (hK : (K : Int) = 61 * u0 + c0) (hu : 0 ≤ u0 ∧ u0 ≤ 5) (hc : 0 ≤ c0 ∧ c0 ≤ 60) (hv : 0 ≤ v.toInt) (hv2 : v.toInt ≤ K2) : VIS P ah u0 (c0 + 1) (FV (I2 a) K2) := by
  refine VIS_step h ?_ (fun u c k1 k2 k3 k4 k5 k6 => ?_)
  · unfold FV
    rw [e, pp_at, if_pos (by omega)]
    exact ⟨hv, hv2⟩
  · unfold FV at k6 ⊢
    rw [e, pp_at, if_neg (by omega)]
    exact k6
theorem FU_step {P : Nat → Int64} {T : Nat → Int32} {ah ea u0 c0 la la2 m : Int} (h : VIS P ah u0 c0 (FU T P ah ea la)) (hu : 0 ≤ u0 ∧ u0 ≤ 5) (hc : 0 ≤ c0 ∧ c0 ≤ 60) (hb : bt (P (6 * ah + u0).toNat) c0) (hm : CE c0 m ea) (ha : AOKd T m u0 la2) : VIS P ah u0 (c0 + 1) (FU T P ah ea la2) := by
  refine VIS_step h ?_ (fun u c k1 k2 k3 k4 k5 _ => ?_)
  · intro c' _ k2
    have e : c' = m := by unfold CE at hm k2; omega
    rw [e]
    exact ha
  · intro c' k6 _
    have := k6 u0 c0 hu.1 hu.2 hc.1 hc.2 hb
    omega
/-- what leads from a day to the next -/
def EA (W : Nat → Int32) (so d a : Int) : Int := if a = 0 then 0 else (W (7 * so + d).toNat).toInt
def FWO (g : GG) (t : Nat) (I : pI) (P : Nat → Int64) (so da a : Int) : Prop := ∃ T : Nat → Int32, LD g t I so ((da + a) % 7) T ∧ ∀ u c c' s f e k l : Int, 0 ≤ u → u ≤ 5 → 0 ≤ c → c ≤ 60 → bt (P (6 * a + u).toNat) c → CE c c' (EA (I (ad g (t + 6))) so ((da + a) % 7) a) → ACT T u c' s f e k l → bt (P (6 * (a + 1) + SB (I (ad g 26)) k).toNat) (CB (I (ad g 24)) (I (ad g 25)) l k ((da + a) % 7))
def FWD (g : GG) (t : Nat) (I : pI) (P : Nat → Int64) (so da a0 : Int) : Prop := ∀ a : Int, 0 ≤ a → a < a0 → FWO g t I P so da a
theorem FWD_0 {g : GG} {t : Nat} {I : pI} {P : Nat → Int64} {so da a0 : Int} (h : a0 = 0) : FWD g t I P so da a0 := by
  intro a h1 h2
  omega
theorem act_k {T : Nat → Int32} {u c s f e k l : Int} (h : ACT T u c s f e k l) (hu : 0 ≤ u) (h3 : 0 ≤ (T 3).toInt) (h4 : 0 ≤ (T 4).toInt) : 0 ≤ k ∧ k ≤ 5 ∧ 0 ≤ l ∧ l ≤ c := by
  obtain ⟨q1, q2, q3, q4, q5, q6, q7, q8, q9, q10, q11⟩ := h
  have m1 : 0 ≤ s * (T 4).toInt := Int.mul_nonneg q1 h4
  have m2 : 0 ≤ e * (T 3).toInt := Int.mul_nonneg q5 h3
  omega
theorem FWD_step {g : GG} {t : Nat} {I : pI} {P M P2 : Nat → Int64} {T : Nat → Int32} {so da a0 a1 ea d : Int} (h : FWD g t I P so da a0) (hT : LD g t I so d T) (hs : SRD T P M a0 ea 6) (hl : SLP M P2 (I (ad g 24)) (I (ad g 25)) (I (ad g 26)) a1 d 6 0) (ho : OUT P P2 a1) (hea : ea = EA (I (ad g (t + 6))) so d a0) (hd : d = (da + a0) % 7) (ha : a1 = a0 + 1) (h0 : 0 ≤ a0) (hS : ∀ k : Int, 0 ≤ k → k ≤ 5 → 0 ≤ SB (I (ad g 26)) k ∧ SB (I (ad g 26)) k ≤ 5) (hp : 0 ≤ (T 3).toInt ∧ 0 ≤ (T 4).toInt) (hP : ∀ T : Nat → Int32, ∀ so d : Int, 0 ≤ d → d ≤ 6 → LD g t I so d T → 0 ≤ so → so ≤ 3 → 0 ≤ (T 3).toInt ∧ 0 ≤ (T 4).toInt) (hso : 0 ≤ so ∧ so ≤ 3) : FWD g t I P2 so da a1 := by
  intro a k1 k2
  by_cases q : a = a0
  · subst q
    refine ⟨T, by rw [← hd]; exact hT, ?_⟩
    intro u c c' s f e k l j1 j2 j3 j4 j5 j6 j7
    rw [← hd] at j6 ⊢
    rw [← hea] at j6
    rw [ho _ (by omega)] at j5
    have j8 := hs u c c' s f e k l j1 (by omega) j3 j4 j5 j6 j7
    obtain ⟨m1, m2, m3, m4⟩ := act_k j7 j1 hp.1 hp.2
    have m5 : c' ≤ 60 := by unfold CE at j6; omega
    have j9 := hl k l m1 m2 m3 (by omega) (Or.inl (by omega)) j8
    rw [ha] at j9
    exact j9
  · obtain ⟨T0, t1, t2⟩ := h a k1 (by omega)
    refine ⟨T0, t1, ?_⟩
    intro u c c' s f e k l j1 j2 j3 j4 j5 j6 j7
    rw [ho _ (by omega)] at j5
    have p0 := hP T0 so _ (Int.emod_nonneg _ (by decide)) (by omega) t1 hso.1 hso.2
    obtain ⟨m1, m2, m3, m4⟩ := act_k j7 j1 p0.1 p0.2
    have m6 := hS k m1 m2
    have j9 := t2 u c c' s f e k l j1 j2 j3 j4 j5 j6 j7
    rw [ho _ (by omega)]
    exact j9
theorem FWD_P {g : GG} {t : Nat} {I : pI} {P P2 : Nat → Int64} {so da a0 : Int} (h : FWD g t I P so da a0) (e : P2 = P) : FWD g t I P2 so da a0 := by rw [e]; exact h
/-- the first day's block: one purse -/
def ZB (P : Nat → Int64) (co st : Int) : Prop := ∀ u c : Int, 0 ≤ u → u ≤ 5 → 0 ≤ c → (bt (P u.toNat) c ↔ u = st ∧ c = co)
theorem ZB_P {P P2 : Nat → Int64} {co st : Int} (h : ZB P co st) (e : P2 = P) : ZB P2 co st := by rw [e]; exact h
theorem ZB_out {P P2 : Nat → Int64} {co st a1 : Int} (h : ZB P co st) (ho : OUT P P2 a1) (ha : 1 ≤ a1) : ZB P2 co st := by
  intro u c h1 h2 h3
  rw [ho _ (by omega)]
  exact h u c h1 h2 h3
theorem ZB_0 {J J2 : pJ} {a : Nat} {x vv : Int64} {co st : Int32} (hf : ∀ q : Nat, q < 168 → J a q = vv) (hv : vv.toInt = 0) (e : J2 = pp J a st.toInt.toNat x) (hx : ∀ b : Int, 0 ≤ b → (bt x b ↔ b = co.toInt)) (h0 : 0 ≤ st.toInt) : ZB (J2 a) co.toInt st.toInt := by
  intro u c h1 h2 h3
  rw [e, pp_at]
  split
  · rw [hx c h3]; omega
  · rw [hf _ (by omega)]
    constructor
    · intro h; exact absurd h (bt_no hv c)
    · intro h; omega
/-- the row of later days -/
def WB (P : Nat → Int64) (N : Nat → Int32) (n1 a : Int) : Prop := ∀ u c : Int, 0 ≤ u → u ≤ 5 → 0 ≤ c → c ≤ 60 → (n1 = a ∨ bt (P (6 * (a + 1) + u).toNat) c) → 0 ≤ (N (61 * u + c).toNat).toInt ∧ (N (61 * u + c).toNat).toInt ≤ 594 * (n1 - a)
theorem WD_of {g : GG} {t : Nat} {I : pI} {P : Nat → Int64} {T Lr : Nat → Int32} {so da n1 a ea d : Int} (hW : WB P Lr n1 a) (hF : FWD g t I P so da n1) (hT : LD g t I so d T) (hea : ea = EA (I (ad g (t + 6))) so d a) (hd : d = (da + a) % 7) (h0 : 0 ≤ a) (h1 : a ≤ n1) (hp : 0 ≤ (T 3).toInt ∧ 0 ≤ (T 4).toInt) (hS : ∀ k : Int, 0 ≤ k → k ≤ 5 → 0 ≤ SB (I (ad g 26)) k ∧ SB (I (ad g 26)) k ≤ 5) (hC : ∀ l k : Int, 0 ≤ l → l ≤ 60 → 0 ≤ k → k ≤ 5 → 0 ≤ CB (I (ad g 24)) (I (ad g 25)) l k d ∧ CB (I (ad g 24)) (I (ad g 25)) l k d ≤ 60) : WD T Lr (I (ad g 24)) (I (ad g 25)) (I (ad g 26)) P (594 * (n1 - a)) a ea d := by
  intro u c c' k1 k2 k3 k4 k5 k6 s f e k l j
  obtain ⟨m1, m2, m3, m4⟩ := act_k j k1 hp.1 hp.2
  have m5 : c' ≤ 60 := by unfold CE at k6; omega
  have m6 := hS k m1 m2
  have m7 := hC l k m3 (by omega) m1 m2
  refine hW _ _ m6.1 m6.2 m7.1 m7.2 ?_
  by_cases q : n1 = a
  · exact Or.inl q
  · right
    obtain ⟨T0, t1, t2⟩ := hF a h0 (by omega)
    rw [← hd] at t1 t2
    rw [← hea] at t2
    exact t2 u c c' s f e k l k1 k2 k3 k4 k5 k6 (ACT_eq (LD_un hT t1) j)
theorem WB_V {P : Nat → Int64} {N : Nat → Int32} {n1 a a1 : Int} (h : VIS P a 6 0 (FV N (594 + 594 * (n1 - a)))) (ha : a1 = a - 1) (hn : a ≤ n1) : WB P N n1 a1 := by
  intro u c k1 k2 k3 k4 k5
  have k6 : bt (P (6 * a + u).toNat) c := by
    rcases k5 with k5 | k5
    · omega
    · rw [show 6 * (a1 + 1) + u = 6 * a + u by omega] at k5; exact k5
  have := h u c k1 k2 k3 k4 (Or.inl (by omega)) k6
  unfold FV at this
  omega
theorem FU_end {P : Nat → Int64} {T : Nat → Int32} {ea la co st : Int} (h : VIS P 0 6 0 (FU T P 0 ea la)) (hz : ZB P co st) (he : ea = 0) (hs : 0 ≤ st ∧ st ≤ 5) (hc : 0 ≤ co ∧ co ≤ 60) : AOKd T co st la := by
  refine h st co hs.1 hs.2 hc.1 hc.2 (Or.inl (by omega)) ?_ co ?_ ?_
  · rw [show 6 * 0 + st = st by omega]; exact (hz st co hs.1 hs.2 hc.1).mpr ⟨rfl, rfl⟩
  · intro u2 c2 k1 k2 k3 k4 k5
    rw [show 6 * 0 + u2 = u2 by omega] at k5
    exact (hz u2 c2 k1 k2 k3).mp k5
  · unfold CE; omega
theorem rfx_pp {g : GG} {R : pR} (hy : LyX g) (h : RfX g R) {q : Nat} {v : Option Nat} (hq : q = 6 ∨ q = 7) : RfX g (pp R (ad g 43) q v) := by
  intro e he
  have key : ∀ e ∈ rTX, e.1 < 74 ∧ (e.1 = 43 → e.2.1 ≠ 6 ∧ e.2.1 ≠ 7) := by decide
  have k := key e he
  by_cases c : e.1 = 43
  · rw [pp_ne _ _ (Or.inr (by have := k.2 c; omega))]
    exact h e he
  · rw [pp_ne _ _ (Or.inl (lyx_ne hy c k.1 (by decide)))]
    exact h e he
theorem adx_inj {g : GG} (hy : LyX g) {i j : Nat} (hi : i < 74) (hj : j < 74) (h : ad g i = ad g j) : i = j := by
  by_cases c : i = j
  · exact c
  · exact absurd h (lyx_ne hy c hi hj)
theorem sbx_b {g : GG} {n : Int} {L : Int32} {I : pI} (h : XI g n L I) : ∀ k : Int, 0 ≤ k → k ≤ 5 → 0 ≤ SB (I (ad g 26)) k ∧ SB (I (ad g 26)) k ≤ 5 := by
  intro k h0 h1
  have b := BT_get h.1 26 0 6 0 0 5 (by decide) k.toNat (Nat.zero_le _) (by omega)
  unfold SB
  omega
theorem cbx_b {g : GG} {n : Int} {L : Int32} {I : pI} (h : XI g n L I) {d : Int} (hd0 : 0 ≤ d) (hd : d ≤ 6) : ∀ l k : Int, 0 ≤ l → l ≤ 60 → 0 ≤ k → k ≤ 5 → 0 ≤ CB (I (ad g 24)) (I (ad g 25)) l k d ∧ CB (I (ad g 24)) (I (ad g 25)) l k d ≤ 60 := by
  intro l k h0 h1 h2 h3
  have b := BT_get h.1 24 0 427 0 0 60 (by decide) (61 * d + l).toNat (Nat.zero_le _) (by omega)
  have b2 := BT_get h.1 25 0 6 0 0 45 (by decide) k.toNat (Nat.zero_le _) (by omega)
  unfold CB
  omega
theorem ldx_p {g : GG} {n : Int} {L : Int32} {I : pI} {t : Nat} (h : XI g n L I) (ht : t = 6 ∨ t = 27) (T : Nat → Int32) (so d : Int) (hd0 : 0 ≤ d) (hd : d ≤ 6) (hT : LD g t I so d T) (h0 : 0 ≤ so) (h3 : so ≤ 3) : 0 ≤ (T 3).toInt ∧ 0 ≤ (T 4).toInt := by
  obtain ⟨⟨a0, a1, a2⟩, a3, a4, a5, a7⟩ := hT
  have key : ∀ t, t = 6 ∨ t = 27 → ((t + 7, 0, 28, (-1 : Int), (0 : Int), (2 : Int)) : BR) ∈ TX ∧ ((t, 4, 5, (-1 : Int), (0 : Int), (2 : Int)) : BR) ∈ TX := by intro t ht; rcases ht with rfl | rfl <;> decide
  have b0 := h.1 _ (key t ht).1 (7 * so + d).toNat (Nat.zero_le _) (show (7 * so + d).toNat < 28 by omega)
  have b0a : -1 ≤ (I (ad g (t + 7)) (7 * so + d).toNat).toInt := b0.1
  have b0b : (I (ad g (t + 7)) (7 * so + d).toNat).toInt ≤ 0 * n + 2 := b0.2
  have b4 := h.1 _ (key t ht).2 4 (Nat.le_refl _) (show 4 < 5 by decide)
  have b4a : -1 ≤ (I (ad g t) 4).toInt := b4.1
  have b4b : (I (ad g t) 4).toInt ≤ 0 * n + 2 := b4.2
  constructor
  · rcases a3 with ⟨c1, c2⟩ | ⟨c1, c2⟩
    · omega
    · have b := BT_get h.1 22 0 21 0 0 20 (by decide) (7 * (T 0).toInt + d).toNat (Nat.zero_le _) (by omega)
      omega
  · rcases a4 with ⟨c1, c2⟩ | ⟨c1, c2⟩
    · omega
    · have b := BT_get h.1 22 0 21 0 0 20 (by decide) (7 * (I (ad g t) 4).toInt + d).toNat (Nat.zero_le _) (by omega)
      omega
theorem WB_0 {P : Nat → Int64} {I I2 : pI} {a : Nat} {v : Int32} {n1 : Int} (e : I2 = fi I a 366 v) (hv : v.toInt = 0) : WB P (I2 a) n1 n1 := by
  intro u c k1 k2 k3 k4 _
  rw [e, fi_in (by omega), hv]
  omega
