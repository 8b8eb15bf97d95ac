/-! BITS OF A LONG: which purses can be had -/
def bt (x : Int64) (c : Int) : Prop := x.toBitVec.getLsbD c.toNat = true
theorem y64 (y : Int32) (h0 : 0 ≤ y.toInt) (h1 : y.toInt < 64) : ∃ k : Fin 64, y = Int32.ofNat k.val ∧ y.toInt = (k.val : Int) := by
  have key : ∀ k : Fin 64, (Int32.ofNat k.val).toInt = (k.val : Int) := by decide
  have e := key ⟨y.toInt.toNat, by omega⟩
  refine ⟨⟨y.toInt.toNat, by omega⟩, (eq32 _ _).mpr ?_, ?_⟩
  · rw [e]; show y.toInt = ((y.toInt.toNat : Nat) : Int); omega
  · show y.toInt = ((y.toInt.toNat : Nat) : Int); omega
theorem ushr_bv (x : Int64) (a : UInt64) : (x.toUInt64 >>> a).toInt64.toBitVec = x.toBitVec >>> (a % 64).toBitVec.toNat := rfl
theorem shl_bv (x a : Int64) : (x <<< a).toBitVec = x.toBitVec <<< (a.toBitVec.smod 64).toNat := rfl
theorem ushr_k : ∀ k : Fin 64, (((Int32.ofNat k.val).toInt64.toUInt64 &&& Int64.toUInt64 63) % 64).toBitVec.toNat = k.val := by decide
theorem shl_k : ∀ k : Fin 64, (((Int32.ofNat k.val).toInt64 &&& 63).toBitVec.smod 64).toNat = k.val := by decide
theorem bt_ushr {x : Int64} {y : Int32} (h0 : 0 ≤ y.toInt) (h1 : y.toInt < 64) {b : Int} (hb : 0 ≤ b) : bt (x.toUInt64 >>> (y.toInt64.toUInt64 &&& Int64.toUInt64 63)).toInt64 b ↔ bt x (b + y.toInt) := by
  obtain ⟨k, rfl, hk⟩ := y64 y h0 h1
  unfold bt
  rw [ushr_bv, ushr_k k, BitVec.getLsbD_ushiftRight, hk, show k.val + b.toNat = (b + (k.val : Int)).toNat by omega]
theorem bt_shl {x : Int64} {y : Int32} (h0 : 0 ≤ y.toInt) (h1 : y.toInt < 64) {b : Int} (hb : 0 ≤ b) : bt (x <<< (y.toInt64 &&& 63)) b ↔ b < 64 ∧ y.toInt ≤ b ∧ bt x (b - y.toInt) := by
  obtain ⟨k, rfl, hk⟩ := y64 y h0 h1
  unfold bt
  rw [shl_bv, shl_k k, BitVec.getLsbD_shiftLeft, hk]
  simp only [Bool.and_eq_true, decide_eq_true_eq, Bool.not_eq_true', decide_eq_false_iff_not]
  constructor
  · rintro ⟨⟨h2, h3⟩, h4⟩
    refine ⟨by omega, by omega, ?_⟩
    rw [show (b - (k.val : Int)).toNat = b.toNat - k.val by omega]
    exact h4
  · rintro ⟨h2, h3, h4⟩
    refine ⟨⟨by omega, by omega⟩, ?_⟩
    rw [show (b - (k.val : Int)).toNat = b.toNat - k.val by omega] at h4
    exact h4
theorem bt_or {x y : Int64} {b : Int} : bt (x ||| y) b ↔ bt x b ∨ bt y b := by
  unfold bt
  rw [show (x ||| y).toBitVec = x.toBitVec ||| y.toBitVec from rfl, BitVec.getLsbD_or, Bool.or_eq_true]
theorem bt_and {x y : Int64} {b : Int} : bt (x &&& y) b ↔ bt x b ∧ bt y b := by
  unfold bt
  rw [show (x &&& y).toBitVec = x.toBitVec &&& y.toBitVec from rfl, BitVec.getLsbD_and, Bool.and_eq_true]
theorem e64 {x y : Int64} (h : x.toInt = y.toInt) : x = y := Int64.toInt_inj.mp h
theorem bt_no {x : Int64} (h : x.toInt = 0) (b : Int) : ¬ bt x b := by
  have e : x = 0 := e64 h
  subst e
  unfold bt
  rw [show (0 : Int64).toBitVec = 0#64 from rfl, BitVec.getLsbD_zero]
  exact Bool.false_ne_true
theorem bt_one {x : Int64} (h : x.toInt = 1) {b : Int} (hb : 0 ≤ b) : bt x b ↔ b = 0 := by
  have e : x = 1 := e64 h
  subst e
  unfold bt
  rw [show (1 : Int64).toBitVec = 1#64 from rfl, BitVec.getLsbD_one]
  simp only [Bool.and_eq_true, decide_eq_true_eq]
  omega
theorem bt_and1 {x y : Int64} (h : y.toInt = 1) : (x &&& y).toInt = 0 ↔ ¬ bt x 0 := by
  constructor
  · intro h2 h3
    exact bt_no h2 0 (bt_and.mpr ⟨h3, (bt_one h (Int.le_refl 0)).mpr rfl⟩)
  · intro h2
    have e : x &&& y = 0 := by
      apply Int64.toBitVec_inj.mp
      apply BitVec.eq_of_getLsbD_eq
      intro i hi
      rw [show (0 : Int64).toBitVec = 0#64 from rfl, BitVec.getLsbD_zero]
      by_cases h3 : (x &&& y).toBitVec.getLsbD i = true
      · have h4 : bt (x &&& y) (i : Int) := h3
        rw [bt_and, bt_one h (Int.natCast_nonneg i)] at h4
        rw [h4.2] at h4
        exact absurd h4.1 h2
      · simpa using h3
    rw [e]
    rfl
theorem bt_full {x : Int64} (h : x.toInt = 1152921504606846975) {b : Int} (h0 : 0 ≤ b) (h1 : b < 60) : bt x b := by
  have e : x = 1152921504606846975 := e64 h
  subst e
  have key : ∀ k : Fin 60, (1152921504606846975 : Int64).toBitVec.getLsbD k.val = true := by decide
  exact key ⟨b.toNat, by omega⟩
theorem bt_60 {x : Int64} (h : x.toInt = 1152921504606846976) : bt x 60 := by
  have e : x = 1152921504606846976 := e64 h
  subst e
  show (1152921504606846976 : Int64).toBitVec.getLsbD 60 = true
  decide
section Rules
variable {g : GG} {d : MD} {pc : Nat} {ls : List (Nat × Value)} {st : List Value} {I : pI} {J : pJ} {R : pR} {Q : Post}
theorem WQ_lushrx {x : Int64} {y : Int32} (h : decode (md_c d) pc = .ok (.lushr, 1)) (h0 : 0 ≤ y.toInt) (h1 : y.toInt < 64) (k : ∀ v : Int64, (∀ b : Int, 0 ≤ b → (bt v b ↔ bt x (b + y.toInt))) → WP g d (pc + 1) ls (.long v :: st) I J R Q) : WP g d pc ls (.int y :: .long x :: st) I J R Q := WP_lushr h (k _ (fun _ hb => bt_ushr h0 h1 hb))
theorem WQ_lshlx {x : Int64} {y : Int32} (h : decode (md_c d) pc = .ok (.lshl, 1)) (h0 : 0 ≤ y.toInt) (h1 : y.toInt < 64) (k : ∀ v : Int64, (∀ b : Int, 0 ≤ b → (bt v b ↔ b < 64 ∧ y.toInt ≤ b ∧ bt x (b - y.toInt))) → WP g d (pc + 1) ls (.long v :: st) I J R Q) : WP g d pc ls (.int y :: .long x :: st) I J R Q := WP_lshl h (k _ (fun _ hb => bt_shl h0 h1 hb))
theorem WQ_lshl1 {x : Int64} {y : Int32} (h : decode (md_c d) pc = .ok (.lshl, 1)) (hx : x.toInt = 1) (h0 : 0 ≤ y.toInt) (h1 : y.toInt < 64) (k : ∀ v : Int64, (∀ b : Int, 0 ≤ b → (bt v b ↔ b = y.toInt)) → WP g d (pc + 1) ls (.long v :: st) I J R Q) : WP g d pc ls (.int y :: .long x :: st) I J R Q := WP_lshl h (k _ (fun b hb => by
  rw [bt_shl h0 h1 hb]
  constructor
  · rintro ⟨h2, h3, h4⟩
    have := (bt_one hx (by omega)).mp h4
    omega
  · intro e
    exact ⟨by omega, by omega, (bt_one hx (by omega)).mpr (by omega)⟩))
theorem WQ_lorx {x y : Int64} (h : decode (md_c d) pc = .ok (.lor, 1)) (k : ∀ v : Int64, (∀ b : Int, bt v b ↔ bt x b ∨ bt y b) → WP g d (pc + 1) ls (.long v :: st) I J R Q) : WP g d pc ls (.long y :: .long x :: st) I J R Q := WP_lor h (k _ (fun _ => bt_or))
theorem WQ_landx {x y : Int64} (h : decode (md_c d) pc = .ok (.land, 1)) (k : ∀ v : Int64, (∀ b : Int, bt v b ↔ bt x b ∧ bt y b) → WP g d (pc + 1) ls (.long v :: st) I J R Q) : WP g d pc ls (.long y :: .long x :: st) I J R Q := WP_land h (k _ (fun _ => bt_and))
theorem WQ_land1 {x y : Int64} (h : decode (md_c d) pc = .ok (.land, 1)) (hy : y.toInt = 1) (k : ∀ v : Int64, (v.toInt = 0 ↔ ¬ bt x 0) → WP g d (pc + 1) ls (.long v :: st) I J R Q) : WP g d pc ls (.long y :: .long x :: st) I J R Q := WP_land h (k _ (bt_and1 hy))
theorem WQ_laldx {a n : Nat} {i : Int32} (h : decode (md_c d) pc = .ok (.laload, 1)) (ha : g_is g a 14) (hn : g_n g a = n) (h0 : 0 ≤ i.toInt) (h1 : i.toInt < n) (kk : ∀ v : Int64, J a i.toInt.toNat = v → WP g d (pc + 1) ls (.long v :: st) I J R Q) : WP g d pc ls (.int i :: .ref a :: st) I J R Q := WP_lald h ha (by rw [hn]; exact vin h0 h1) (kk _ (by rw [cl (x := i) (n := i.toInt.toNat) (by omega)]))
theorem WQ_ialdx {a n : Nat} {i : Int32} (h : decode (md_c d) pc = .ok (.iaload, 1)) (ha : g_is g a 13) (hn : g_n g a = n) (h0 : 0 ≤ i.toInt) (h1 : i.toInt < n) (kk : ∀ v : Int32, I a i.toInt.toNat = v → WP g d (pc + 1) ls (.int v :: st) I J R Q) : WP g d pc ls (.int i :: .ref a :: st) I J R Q := WP_iald h ha (by rw [hn]; exact vin h0 h1) (kk _ (by rw [cl (x := i) (n := i.toInt.toNat) (by omega)]))
theorem WQ_iandx {x y : Int32} (h : decode (md_c d) pc = .ok (.iand, 1)) (k : ∀ v : Int32, v = x &&& y → WP g d (pc + 1) ls (.int v :: st) I J R Q) : WP g d pc ls (.int y :: .int x :: st) I J R Q := WP_iand h (k _ rfl)
end Rules
/-! THE TERMS OF A DAY as a row T; an act (s stored, f from the store, e eaten) that leads from u, c to k stored, l left -/
def ACT (T : Nat → Int32) (u c s f e k l : Int) : Prop := 0 ≤ s ∧ s ≤ (T 6).toInt ∧ 0 ≤ f ∧ (f = 0 ∨ (T 7).toInt ≠ 0 ∧ f ≤ u ∧ f ≤ (T 1).toInt) ∧ 0 ≤ e ∧ e ≤ (T 5).toInt ∧ e + f ≤ (T 1).toInt ∧ k = u - f + s ∧ k ≤ 5 ∧ 0 ≤ l ∧ l + s * (T 4).toInt + e * (T 3).toInt = c
/-- what a night leaves -/
def CB (B C : Nat → Int32) (l k da : Int) : Int := (((B (61 * da + l).toNat).toInt - (C k.toNat).toInt).toNat : Int)
def SB (S : Nat → Int32) (k : Int) : Int := (S k.toNat).toInt
/-- coins with what is earned -/
def CE (c c' ea : Int) : Prop := c' = c + ea ∧ c' ≤ 60 ∨ c' = 60 ∧ 60 ≤ c + ea
def AOKd (T : Nat → Int32) (c u a : Int) : Prop := 0 ≤ a ∧ a ≤ 47 ∧ a / 4 % 4 ≤ u ∧ u - a / 4 % 4 + a / 16 ≤ 5 ∧ (a % 4) * (T 3).toInt + (a / 16) * (T 4).toInt ≤ c
theorem AOK_set {T : Nat → Int32} {u c s f e k l a : Int} (h : ACT T u c s f e k l) (ha : a = 16 * s + 4 * f + e) (h1 : s ≤ 2) (h2 : f ≤ 3) (h3 : e ≤ 3) (h4 : f ≤ u) : AOKd T c u a := by
  obtain ⟨q1, q2, q3, q4, q5, q6, q7, q8, q9, q10, q11⟩ := h
  have e1 : a % 4 = e := by omega
  have e2 : a / 4 % 4 = f := by omega
  have e3 : a / 16 = s := by omega
  refine ⟨by omega, by omega, by omega, by omega, ?_⟩
  rw [e1, e3]
  omega
/-- what has been reached of a spending: all acts ahead of (s0, f0, e0) -/
def SPD (T : Nat → Int32) (M : Nat → Int64) (co : Int64) (u s0 f0 e0 : Int) : Prop := ∀ c s f e k l : Int, bt co c → ACT T u c s f e k l → (s < s0 ∨ s = s0 ∧ (f < f0 ∨ f = f0 ∧ e < e0)) → bt (M k.toNat) l
def GRW (M M2 : Nat → Int64) : Prop := ∀ (k : Nat) (l : Int), bt (M k) l → bt (M2 k) l
def SLF (T : Nat → Int32) (co left : Int64) (s0 e0 : Int) : Prop := ∀ b : Int, 0 ≤ b → (bt left b ↔ bt co (b + s0 * (T 4).toInt + e0 * (T 3).toInt))
theorem SPD_0 {T : Nat → Int32} {M : Nat → Int64} {co : Int64} {u s0 : Int} (h : s0 = 0) : SPD T M co u s0 0 0 := by
  intro c s f e k l _ h2 h3
  have q1 := h2.1; have q2 := h2.2.2.1; have q3 := h2.2.2.2.2.1
  omega
theorem GRW_pp {J J2 : pJ} {M : Nat → Int64} {a K : Nat} {x left : Int64} (h : GRW M (J a)) (e : J2 = pp J a K x) (hx : ∀ b, bt x b ↔ bt (J a K) b ∨ bt left b) : GRW M (J2 a) := by
  intro k l hk
  have := h k l hk
  rw [e, pp_at]
  split
  · rename_i q; subst q; exact (hx l).mpr (Or.inl this)
  · exact this
theorem SPD_step {T : Nat → Int32} {J J2 : pJ} {a K : Nat} {co x left : Int64} {u s0 f0 e0 : Int} (h : SPD T (J a) co u s0 f0 e0) (hl : SLF T co left s0 e0) (hK : (K : Int) = u - f0 + s0) (e : J2 = pp J a K x) (hx : ∀ b, bt x b ↔ bt (J a K) b ∨ bt left b) : SPD T (J2 a) co u s0 f0 (e0 + 1) := by
  intro c s f ee k l h1 h2 h3
  by_cases h4 : s = s0 ∧ f = f0 ∧ ee = e0
  · obtain ⟨rfl, rfl, rfl⟩ := h4
    obtain ⟨q1, q2, q3, q4, q5, q6, q7, q8, q9, q10, q11⟩ := h2
    rw [e, pp_at, if_pos (by omega)]
    refine (hx l).mpr (Or.inr ((hl l q10).mpr ?_))
    rw [q11]
    exact h1
  · have := h c s f ee k l h1 h2 (by omega)
    rw [e, pp_at]
    split
    · rename_i q; subst q; exact (hx l).mpr (Or.inl this)
    · exact this
theorem SLF_0 {T : Nat → Int32} {co left : Int64} {s0 e0 : Int} {y : Int} (h : ∀ b : Int, 0 ≤ b → (bt left b ↔ bt co (b + y))) (hy : y = s0 * (T 4).toInt) (he : e0 = 0) : SLF T co left s0 e0 := by
  intro b hb
  rw [h b hb, hy, he, Int.zero_mul, Int.add_zero]
theorem SLF_step {T : Nat → Int32} {co left l2 : Int64} {s0 e0 e1 : Int} {y : Int} (h : SLF T co left s0 e0) (hp : 0 ≤ (T 3).toInt) (h2 : ∀ b : Int, 0 ≤ b → (bt l2 b ↔ bt left (b + y))) (hy : y = (T 3).toInt) (he : e1 = e0 + 1) : SLF T co l2 s0 e1 := by
  intro b hb
  subst hy
  rw [h2 b hb, h _ (by omega), he, Int.add_mul, Int.one_mul, show b + (T 3).toInt + s0 * (T 4).toInt + e0 * (T 3).toInt = b + s0 * (T 4).toInt + (e0 * (T 3).toInt + (T 3).toInt) by omega]
theorem SPD_mid {T : Nat → Int32} {M : Nat → Int64} {co : Int64} {u s0 f0 e0 f1 : Int} (h : SPD T M co u s0 f0 e0) (hf : f1 = f0 + 1) (hx : 5 < u - f0 + s0 ∨ (T 5).toInt < e0 ∨ (T 1).toInt - f0 < e0) : SPD T M co u s0 f1 0 := by
  intro c s f e k l h1 h2 h3
  refine h c s f e k l h1 h2 ?_
  obtain ⟨q1, q2, q3, q4, q5, q6, q7, q8, q9, q10, q11⟩ := h2
  omega
theorem SPD_out {T : Nat → Int32} {M : Nat → Int64} {co : Int64} {u s0 f0 s1 mf : Int} (h : SPD T M co u s0 f0 0) (hs : s1 = s0 + 1) (hx : 0 ≤ mf ∧ mf < f0) (hm : (T 7).toInt = 0 ∧ mf = 0 ∨ (T 7).toInt ≠ 0 ∧ (u < (T 1).toInt ∧ mf = u ∨ (T 1).toInt ≤ u ∧ mf = (T 1).toInt)) : SPD T M co u s1 0 0 := by
  intro c s f e k l h1 h2 h3
  refine h c s f e k l h1 h2 ?_
  obtain ⟨q1, q2, q3, q4, q5, q6, q7, q8, q9, q10, q11⟩ := h2
  omega
theorem SPD_end {T : Nat → Int32} {M : Nat → Int64} {co : Int64} {u s0 : Int} (h : SPD T M co u s0 0 0) (hx : (T 6).toInt < s0) : ∀ c s f e k l : Int, bt co c → ACT T u c s f e k l → bt (M k.toNat) l := by
  intro c s f e k l h1 h2
  refine h c s f e k l h1 h2 ?_
  obtain ⟨q1, q2, q3, q4, q5, q6, q7, q8, q9, q10, q11⟩ := h2
  omega
