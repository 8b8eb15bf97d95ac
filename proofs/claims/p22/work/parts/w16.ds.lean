/-! DAYS, WAYS, SLOTS: what both sides hold of them -/
abbrev DS : Type := Int32 × (Nat → Int32) × (Nat → Option (Int32 × (Nat → Int32)))
def XSL (g : GG) (o : Option (Int32 × (Nat → Int32))) (k : Nat) (I : pI) : Prop := match o with
  | none => (I (ad g (60 + 3 * k)) 0).toInt = -1
  | some p => I (ad g (60 + 3 * k)) 0 = p.1 ∧ 0 ≤ p.1.toInt ∧ ∀ q, q < 4 → I (ad g (61 + 3 * k)) q = p.2 q
def MSL (g : GG) (o : Option (Int32 × (Nat → Int32))) (k : Nat) (I : pI) : Prop := match o with
  | none => (I (ad g 44) k).toInt = 0
  | some p => (I (ad g 44) k).toInt ≠ 0 ∧ I (ad g 42) (35 * k + 33) = p.1 ∧ ∀ q, q < 4 → I (ad g 42) (35 * k + (28 + q)) = p.2 q
def XDS (g : GG) (D : DS) (I : pI) : Prop := I (ad g 53) 0 = D.1 ∧ (∀ q, q < 4 → I (ad g 54) q = D.2.1 q) ∧ ∀ k, k < 3 → XSL g (D.2.2 k) k I
def MDS (g : GG) (D : DS) (I : pI) : Prop := I (ad g 38) 33 = D.1 ∧ (∀ q, q < 4 → I (ad g 38) (28 + q) = D.2.1 q) ∧ ∀ k, k < 3 → MSL g (D.2.2 k) k I
theorem XSL_eq {g : GG} {o : Option (Int32 × (Nat → Int32))} {k : Nat} {I I' : pI} (h : XSL g o k I) (e : I' (ad g (60 + 3 * k)) 0 = I (ad g (60 + 3 * k)) 0) (e2 : ∀ q, q < 4 → I' (ad g (61 + 3 * k)) q = I (ad g (61 + 3 * k)) q) : XSL g o k I' := by
  unfold XSL at h ⊢
  cases o with
  | none => simp only at h ⊢; rw [e]; exact h
  | some p => simp only at h ⊢; exact ⟨e.trans h.1, h.2.1, fun q hq => (e2 q hq).trans (h.2.2 q hq)⟩
theorem MSL_eq {g : GG} {o : Option (Int32 × (Nat → Int32))} {k : Nat} {I I' : pI} (h : MSL g o k I) (e : I' (ad g 44) k = I (ad g 44) k) (e2 : ∀ q, q < 35 → I' (ad g 42) (35 * k + q) = I (ad g 42) (35 * k + q)) : MSL g o k I' := by
  unfold MSL at h ⊢
  cases o with
  | none => simp only at h ⊢; rw [e]; exact h
  | some p => simp only at h ⊢; exact ⟨by rw [e]; exact h.1, (e2 33 (by decide)).trans h.2.1, fun q hq => (e2 (28 + q) (by omega)).trans (h.2.2 q hq)⟩
theorem XDS_eq {g : GG} {D : DS} {I I' : pI} (h : XDS g D I) (e : I' (ad g 53) 0 = I (ad g 53) 0) (e2 : ∀ q, q < 4 → I' (ad g 54) q = I (ad g 54) q) (e3 : ∀ k, k < 3 → I' (ad g (60 + 3 * k)) 0 = I (ad g (60 + 3 * k)) 0 ∧ ∀ q, q < 4 → I' (ad g (61 + 3 * k)) q = I (ad g (61 + 3 * k)) q) : XDS g D I' :=
  ⟨e.trans h.1, fun q hq => (e2 q hq).trans (h.2.1 q hq), fun k hk => XSL_eq (h.2.2 k hk) (e3 k hk).1 (e3 k hk).2⟩
theorem MDS_eq {g : GG} {D : DS} {I I' : pI} (h : MDS g D I) (e : I' (ad g 38) 33 = I (ad g 38) 33) (e2 : ∀ q, q < 4 → I' (ad g 38) (28 + q) = I (ad g 38) (28 + q)) (e3 : ∀ k, k < 3 → I' (ad g 44) k = I (ad g 44) k) (e4 : ∀ q, q < 105 → I' (ad g 42) q = I (ad g 42) q) : MDS g D I' :=
  ⟨e.trans h.1, fun q hq => (e2 q hq).trans (h.2.1 q hq), fun k hk => MSL_eq (h.2.2 k hk) (e3 k hk) (fun q hq => e4 _ (by omega))⟩
def cDX : List Nat := [53, 54, 60, 61, 63, 64, 66, 67]
theorem cDX_k : ∀ k, k < 3 → (60 + 3 * k) ∈ cDX ∧ (61 + 3 * k) ∈ cDX := by decide
theorem cDX_lt : ∀ c ∈ cDX, c < 74 := by decide
theorem XDS_row {g : GG} {D : DS} {I I' : pI} (h : XDS g D I) (e : ∀ c ∈ cDX, I' (ad g c) = I (ad g c)) : XDS g D I' :=
  XDS_eq h (by rw [e 53 (by decide)]) (fun q _ => by rw [e 54 (by decide)]) (fun k hk => ⟨by rw [e _ (cDX_k k hk).1], fun q _ => by rw [e _ (cDX_k k hk).2]⟩)
theorem XDS_fz {g : GG} {D : DS} {I I' : pI} {A : List Nat} (h : XDS g D I) (hf : fz 74 g A I I') (hA : ∀ c ∈ cDX, c ∉ A) : XDS g D I' := XDS_row h (fun c hc => fz_at hf c (cDX_lt c hc) (hA c hc))
theorem XDS_fc {g : GG} (hy : LyX g) {D : DS} {I I' : pI} {A : List Nat} (h : XDS g D I) (hf : FC g A I I') (hA : ∀ c ∈ cDX, ∀ i ∈ A, c ≠ i ∧ i < 74) : XDS g D I' := XDS_row h (fun c hc => FCx_at hy hf c (cDX_lt c hc) (hA c hc))
theorem XDS_agr {g : GG} (hy : LyX g) {D : DS} {I I2 : pI} {J J2 : pJ} {R R2 : pR} (ha : AGR g I J R I2 J2 R2) (h : XDS g D I2) : XDS g D I := by
  refine XDS_eq h (agr_f ha (lyx_is hy 53 4 rfl) (by decide) (by decide) rfl) (fun q hq => agr_i ha (lyx_is hy 54 13 rfl) (Or.inr (Or.inl rfl)) (lyx_n hy 54 4 rfl) hq) (fun k hk => ?_)
  rcases (show k = 0 ∨ k = 1 ∨ k = 2 by omega) with e | e | e <;> subst e
  · exact ⟨agr_f ha (lyx_is hy 60 4 rfl) (by decide) (by decide) rfl, fun q hq => agr_i ha (lyx_is hy 61 13 rfl) (Or.inr (Or.inl rfl)) (lyx_n hy 61 4 rfl) hq⟩
  · exact ⟨agr_f ha (lyx_is hy 63 4 rfl) (by decide) (by decide) rfl, fun q hq => agr_i ha (lyx_is hy 64 13 rfl) (Or.inr (Or.inl rfl)) (lyx_n hy 64 4 rfl) hq⟩
  · exact ⟨agr_f ha (lyx_is hy 66 4 rfl) (by decide) (by decide) rfl, fun q hq => agr_i ha (lyx_is hy 67 13 rfl) (Or.inr (Or.inl rfl)) (lyx_n hy 67 4 rfl) hq⟩
theorem MDS_row {g : GG} {D : DS} {I I' : pI} (h : MDS g D I) (e : ∀ c ∈ [38, 42, 44], I' (ad g c) = I (ad g c)) : MDS g D I' :=
  MDS_eq h (by rw [e 38 (by decide)]) (fun q _ => by rw [e 38 (by decide)]) (fun k _ => by rw [e 44 (by decide)]) (fun q _ => by rw [e 42 (by decide)])
theorem MDS_fz {g : GG} {D : DS} {I I' : pI} {A : List Nat} (h : MDS g D I) (hf : fz 49 g A I I') (hA : 38 ∉ A ∧ 42 ∉ A ∧ 44 ∉ A) : MDS g D I' :=
  MDS_eq h (by rw [fz_at hf 38 (by decide) hA.1]) (fun q _ => by rw [fz_at hf 38 (by decide) hA.1]) (fun k _ => by rw [fz_at hf 44 (by decide) hA.2.2]) (fun q _ => by rw [fz_at hf 42 (by decide) hA.2.1])
theorem MDS_fc {g : GG} (hy : Ly g) {D : DS} {I I' : pI} {A : List Nat} (h : MDS g D I) (hf : FC g A I I') (hA : ∀ i ∈ A, 38 ≠ i ∧ 42 ≠ i ∧ 44 ≠ i ∧ i < 49) : MDS g D I' := by
  have k38 := FC_at hy hf 38 (by decide) (fun i hi => ⟨(hA i hi).1, (hA i hi).2.2.2⟩)
  have k42 := FC_at hy hf 42 (by decide) (fun i hi => ⟨(hA i hi).2.1, (hA i hi).2.2.2⟩)
  have k44 := FC_at hy hf 44 (by decide) (fun i hi => ⟨(hA i hi).2.2.1, (hA i hi).2.2.2⟩)
  exact MDS_eq h (by rw [k38]) (fun q _ => by rw [k38]) (fun k _ => by rw [k44]) (fun q _ => by rw [k42])
theorem MDS_agr {g : GG} (hy : Ly g) {D : DS} {I I2 : pI} {J J2 : pJ} {R R2 : pR} (ha : AGR g I J R I2 J2 R2) (h : MDS g D I2) : MDS g D I :=
  MDS_eq h (agr_i ha (ly_is hy 38 13 rfl) (Or.inr (Or.inl rfl)) (ly_n hy 38 35 rfl) (by decide)) (fun q hq => agr_i ha (ly_is hy 38 13 rfl) (Or.inr (Or.inl rfl)) (ly_n hy 38 35 rfl) (by omega)) (fun k hk => agr_i ha (ly_is hy 44 15 rfl) (Or.inr (Or.inr rfl)) (ly_n hy 44 3 rfl) hk) (fun q hq => agr_i ha (ly_is hy 42 13 rfl) (Or.inr (Or.inl rfl)) (ly_n hy 42 105 rfl) hq)
/-! what the calls make of them -/
def dWay (D : DS) (s : Nat) (w : Int32) : DS := (D.1, fun q => if q = s then w else D.2.1 q, D.2.2)
def dDay (D : DS) (d : Int32) : DS := (d, D.2.1, D.2.2)
def dKeep (D : DS) (k : Nat) : DS := (D.1, D.2.1, fun j => if j = k then some (D.1, D.2.1) else D.2.2 j)
def dTake (D : DS) (p : Int32 × (Nat → Int32)) : DS := (p.1, p.2, D.2.2)
def dNew : DS := (0, fun _ => 1, fun _ => none)
theorem XDS_way {g : GG} (hy : LyX g) {D : DS} {I I' : pI} {s : Nat} {w : Int32} (h : XDS g D I) (hf : FC g [54] I I') (e : I' (ad g 54) = fun q => if q = s then w else I (ad g 54) q) : XDS g (dWay D s w) I' := by
  have o : ∀ c ∈ [53, 60, 61, 63, 64, 66, 67], I' (ad g c) = I (ad g c) := fun c hc => FCx_at hy hf c (by revert c; decide) (by revert c; decide)
  refine ⟨by rw [o 53 (by decide)]; exact h.1, fun q hq => ?_, fun k hk => XSL_eq (h.2.2 k hk) ?_ (fun q _ => ?_)⟩
  · rw [e]
    show (if q = s then w else I (ad g 54) q) = if q = s then w else D.2.1 q
    rw [h.2.1 q hq]
  · rcases (show k = 0 ∨ k = 1 ∨ k = 2 by omega) with e | e | e <;> subst e <;> rw [o _ (by decide)]
  · rcases (show k = 0 ∨ k = 1 ∨ k = 2 by omega) with e | e | e <;> subst e <;> rw [o _ (by decide)]
theorem XDS_way0 {g : GG} (hy : LyX g) {D : DS} {I I' : pI} (h : XDS g D I) (hf : FC g [54] I I') (e : I' (ad g 54) = I (ad g 54)) : XDS g D I' :=
  XDS_row h (fun c hc => by
    by_cases z : c = 54
    · rw [z]; exact e
    · exact FCx_at hy hf c (cDX_lt c hc) (fun i hi => by simp at hi; subst hi; exact ⟨z, by decide⟩))
theorem MDS_way {g : GG} (hy : Ly g) {D : DS} {I I' : pI} {s : Nat} {w : Int32} (hs : s < 4) (h : MDS g D I) (hf : FC g [38] I I') (e : I' (ad g 38) = fun q => if q = 28 + s then w else I (ad g 38) q) : MDS g (dWay D s w) I' := by
  have k42 := FC_at hy hf 42 (by decide) (by decide)
  have k44 := FC_at hy hf 44 (by decide) (by decide)
  refine ⟨?_, fun q hq => ?_, fun k hk => MSL_eq (h.2.2 k hk) (by rw [k44]) (fun q _ => by rw [k42])⟩
  · rw [e]; show (if 33 = 28 + s then w else I (ad g 38) 33) = D.1; rw [if_neg (by omega)]; exact h.1
  · rw [e]
    show (if 28 + q = 28 + s then w else I (ad g 38) (28 + q)) = if q = s then w else D.2.1 q
    by_cases z : q = s
    · rw [if_pos (by omega), if_pos z]
    · rw [if_neg (by omega), if_neg z]; exact h.2.1 q hq
theorem MDS_way0 {g : GG} (hy : Ly g) {D : DS} {I I' : pI} (h : MDS g D I) (hf : FC g [38] I I') (e : I' (ad g 38) = I (ad g 38)) : MDS g D I' :=
  MDS_row h (fun c hc => by
    have hc2 : c = 38 ∨ c = 42 ∨ c = 44 := by simpa using hc
    rcases hc2 with z | z | z <;> subst z
    · exact e
    · exact FC_at hy hf 42 (by decide) (by decide)
    · exact FC_at hy hf 44 (by decide) (by decide))
theorem XDS_day {g : GG} {D : DS} {I I' : pI} {d : Int32} (h : XDS g D I) (e : I' (ad g 53) 0 = d) (o : ∀ c ∈ [54, 60, 61, 63, 64, 66, 67], I' (ad g c) = I (ad g c)) : XDS g (dDay D d) I' := by
  refine ⟨e, fun q hq => by rw [o 54 (by decide)]; exact h.2.1 q hq, fun k hk => XSL_eq (h.2.2 k hk) ?_ (fun q _ => ?_)⟩
  · rcases (show k = 0 ∨ k = 1 ∨ k = 2 by omega) with e | e | e <;> subst e <;> rw [o _ (by decide)]
  · rcases (show k = 0 ∨ k = 1 ∨ k = 2 by omega) with e | e | e <;> subst e <;> rw [o _ (by decide)]
theorem MDS_day {g : GG} {D : DS} {I I' : pI} {d : Int32} (h : MDS g D I) (e : I' (ad g 38) 33 = d) (e2 : ∀ q, q < 4 → I' (ad g 38) (28 + q) = I (ad g 38) (28 + q)) (o : ∀ c ∈ [42, 44], I' (ad g c) = I (ad g c)) : MDS g (dDay D d) I' :=
  ⟨e, fun q hq => (e2 q hq).trans (h.2.1 q hq), fun k hk => MSL_eq (h.2.2 k hk) (by rw [o 44 (by decide)]) (fun q _ => by rw [o 42 (by decide)])⟩
theorem XDS_keep {g : GG} (hy : LyX g) {D : DS} {I I' : pI} {J J' : pJ} {k : Nat} (hk : k < 3) (h0 : 0 ≤ D.1.toInt) (h : XDS g D I) (hb : BCM g (60 + 3 * k) 53 I J I' J') (hf : FC g [60 + 3 * k, 61 + 3 * k, 62 + 3 * k] I I') : XDS g (dKeep D k) I' := by
  refine ⟨by rw [FCx_at hy hf 53 (by decide) (fun i hi => by simp at hi; omega)]; exact h.1, fun q hq => by rw [FCx_at hy hf 54 (by decide) (fun i hi => by simp at hi; omega)]; exact h.2.1 q hq, fun j hj => ?_⟩
  show XSL g (if j = k then some (D.1, D.2.1) else D.2.2 j) j I'
  by_cases z : j = k
  · subst z
    rw [if_pos rfl]
    refine ⟨hb.1.1.trans h.1, h0, fun q hq => ?_⟩
    rw [show 61 + 3 * j = 60 + 3 * j + 1 by omega, hb.2.1 q hq]
    exact h.2.1 q hq
  · rw [if_neg z]
    exact XSL_eq (h.2.2 j hj) (by rw [FCx_at hy hf (60 + 3 * j) (by omega) (fun i hi => by simp at hi; omega)]) (fun q _ => by rw [FCx_at hy hf (61 + 3 * j) (by omega) (fun i hi => by simp at hi; omega)])
theorem MDS_keep {g : GG} (hy : Ly g) {D : DS} {I I' : pI} {k : Nat} (hk : k < 3) (h : MDS g D I) (hf : FC g [42, 44] I I') (h1 : ∀ q, q < 35 → I' (ad g 42) (35 * k + q) = I (ad g 38) q) (h2 : ∀ q, q < 105 → (q < 35 * k ∨ 35 * k + 35 ≤ q) → I' (ad g 42) q = I (ad g 42) q) (h3 : ∀ q, q ≠ k → I' (ad g 44) q = I (ad g 44) q) (h4 : (I' (ad g 44) k).toInt = 1) : MDS g (dKeep D k) I' := by
  have k38 := FC_at hy hf 38 (by decide) (by decide)
  refine ⟨by rw [k38]; exact h.1, fun q hq => by rw [k38]; exact h.2.1 q hq, fun j hj => ?_⟩
  show MSL g (if j = k then some (D.1, D.2.1) else D.2.2 j) j I'
  by_cases z : j = k
  · subst z
    rw [if_pos rfl]
    exact ⟨by rw [h4]; decide, (h1 33 (by decide)).trans h.1, fun q hq => (h1 (28 + q) (by omega)).trans (h.2.1 q hq)⟩
  · rw [if_neg z]
    exact MSL_eq (h.2.2 j hj) (h3 j z) (fun q hq => h2 _ (by omega) (by omega))
theorem XDS_take {g : GG} (hy : LyX g) {D : DS} {I I' : pI} {J J' : pJ} {k : Nat} {p : Int32 × (Nat → Int32)} (hk : k < 3) (hp : D.2.2 k = some p) (h : XDS g D I) (hb : BCM g 53 (60 + 3 * k) I J I' J') (hf : FC g [53, 54, 55] I I') : XDS g (dTake D p) I' := by
  have hs := h.2.2 k hk
  rw [hp] at hs
  refine ⟨hb.1.1.trans hs.1, fun q hq => ?_, fun j hj => ?_⟩
  · rw [hb.2.1 q hq, show 60 + 3 * k + 1 = 61 + 3 * k by omega]; exact hs.2.2 q hq
  · exact XSL_eq (h.2.2 j hj) (by rw [FCx_at hy hf (60 + 3 * j) (by omega) (fun i hi => by simp at hi; omega)]) (fun q _ => by rw [FCx_at hy hf (61 + 3 * j) (by omega) (fun i hi => by simp at hi; omega)])
theorem MDS_take {g : GG} (hy : Ly g) {D : DS} {I I' : pI} {k : Nat} {p : Int32 × (Nat → Int32)} (hk : k < 3) (hp : D.2.2 k = some p) (h : MDS g D I) (hf : FC g [38] I I') (h1 : ∀ q, q < 35 → I' (ad g 38) q = I (ad g 42) (35 * k + q)) : MDS g (dTake D p) I' := by
  have hs := h.2.2 k hk
  rw [hp] at hs
  have k42 := FC_at hy hf 42 (by decide) (by decide)
  have k44 := FC_at hy hf 44 (by decide) (by decide)
  exact ⟨(h1 33 (by decide)).trans hs.2.1, fun q hq => (h1 (28 + q) (by omega)).trans (hs.2.2 q hq), fun j hj => MSL_eq (h.2.2 j hj) (by rw [k44]) (fun q _ => by rw [k42])⟩
/-- an empty slot on one side is one on the other -/
theorem XSL_none {g : GG} {o : Option (Int32 × (Nat → Int32))} {k : Nat} {I : pI} (h : XSL g o k I) : o = none ↔ (I (ad g (60 + 3 * k)) 0).toInt = -1 := by
  cases o with
  | none => exact ⟨fun _ => h, fun _ => rfl⟩
  | some p => exact ⟨fun e => absurd e (by simp), fun e => by have z := h.1; have z2 := h.2.1; rw [z] at e; omega⟩
theorem MSL_none {g : GG} {o : Option (Int32 × (Nat → Int32))} {k : Nat} {I : pI} (h : MSL g o k I) : o = none ↔ (I (ad g 44) k).toInt = 0 := by
  cases o with
  | none => exact ⟨fun _ => h, fun _ => rfl⟩
  | some p => exact ⟨fun e => absurd e (by simp), fun e => absurd e h.1⟩
theorem XDS_new {g : GG} {S : TwS} {I : pI} {J : pJ} (h : STX g S I J) : XDS g dNew I := by
  obtain ⟨-, ⟨b, -⟩, w, ⟨s0, s1, s2⟩, -⟩ := h
  refine ⟨(eq32 _ 0).mpr (by rw [b]; rfl), fun q hq => (eq32 _ 1).mpr (by rw [w q hq]; rfl), fun k hk => ?_⟩
  rcases (show k = 0 ∨ k = 1 ∨ k = 2 by omega) with e | e | e <;> subst e
  · exact s0
  · exact s1
  · exact s2
theorem MDS_new {g : GG} {S : TwS} {I : pI} {J : pJ} (hb : SBn S) (h : STM g S I J) : MDS g dNew I := by
  obtain ⟨-, n, -, k, -⟩ := h
  unfold SBn at hb
  refine ⟨(eq32 _ 0).mpr ?_, fun q hq => (eq32 _ 1).mpr ?_, fun j hj => k j hj⟩
  · rw [n 33 (by decide)]
    unfold NW0
    rw [if_pos (Or.inr (by decide)), if_neg (by omega)]
    rfl
  · rw [n (28 + q) (by omega)]
    unfold NW0
    rw [if_neg (by omega)]
    rfl
theorem XK_row {g : GG} {S : TwS} {I I' : pI} (h : XK g S I) (e : ∀ c ∈ [23, 24, 25, 26], I' (ad g c) = I (ad g c)) : XK g S I' := by
  unfold XK
  rw [e 23 (by decide), e 24 (by decide), e 25 (by decide), e 26 (by decide)]
  exact h
theorem XK_fz {g : GG} {S : TwS} {I I' : pI} {A : List Nat} (h : XK g S I) (hf : fz 74 g A I I') (hA : ∀ c ∈ [23, 24, 25, 26], c ∉ A) : XK g S I' := XK_row h (fun c hc => fz_at hf c (by revert c; decide) (hA c hc))
theorem XK_fc {g : GG} (hy : LyX g) {S : TwS} {I I' : pI} {A : List Nat} (h : XK g S I) (hf : FC g A I I') (hA : ∀ c ∈ [23, 24, 25, 26], ∀ i ∈ A, c ≠ i ∧ i < 74) : XK g S I' := XK_row h (fun c hc => FCx_at hy hf c (by revert c; decide) (hA c hc))
theorem XK_agr {g : GG} (hy : LyX g) {S : TwS} {I I2 : pI} {J J2 : pJ} {R R2 : pR} (ha : AGR g I J R I2 J2 R2) (h : XK g S I2) : XK g S I :=
  ⟨fun q hq => by rw [agr_i ha (lyx_is hy 23 13 rfl) (Or.inr (Or.inl rfl)) (lyx_n hy 23 7 rfl) hq]; exact h.1 q hq,
   fun d c hd hc => by rw [agr_i ha (lyx_is hy 24 13 rfl) (Or.inr (Or.inl rfl)) (lyx_n hy 24 427 rfl) (by omega)]; exact h.2.1 d c hd hc,
   fun u hu => by rw [agr_i ha (lyx_is hy 25 13 rfl) (Or.inr (Or.inl rfl)) (lyx_n hy 25 6 rfl) hu]; exact h.2.2.1 u hu,
   fun u hu => by rw [agr_i ha (lyx_is hy 26 13 rfl) (Or.inr (Or.inl rfl)) (lyx_n hy 26 6 rfl) hu]; exact h.2.2.2 u hu⟩
theorem XK_new {g : GG} {S : TwS} {I : pI} (h : MKX g S I) : XK g S I := h.2
theorem LTX_of {g : GG} {S : TwS} {I : pI} {J : pJ} {p : Nat} (h : XK g S I) (hw : RTW g p S I J) : LTX g p I :=
  ⟨fun q hq => (eq32 _ _).mpr ((h.1 q hq).trans (hw.2.1 q hq).symm), fun d c hd hc => by rw [h.2.1 d c hd hc, hw.2.1 d hd]⟩
theorem XK_ltx {g : GG} {S : TwS} {I I' : pI} {J' : pJ} {p : Nat} {A : List Nat} (h : XK g S I) (hf : fz 74 g A I I') (hA : 25 ∉ A ∧ 26 ∉ A) (hw : RTW g p S I' J') (hl : LTX g p I') : XK g S I' := by
  refine ⟨fun q hq => by rw [hl.1 q hq]; exact hw.2.1 q hq, fun d c hd hc => by rw [hl.2 d c hd hc, hw.2.1 d hd], fun u hu => ?_, fun u hu => ?_⟩
  · rw [fz_at hf 25 (by decide) hA.1]; exact h.2.2.1 u hu
  · rw [fz_at hf 26 (by decide) hA.2]; exact h.2.2.2 u hu
