/-! TWO PICTURES OF ONE HEAP agree on all real places; two contracts of one call -/
def AGR (g : GG) (I : pI) (J : pJ) (R : pR) (I2 : pI) (J2 : pJ) (R2 : pR) : Prop :=
  (∀ a, a ∈ g_L g → g_K g a < 12 → ∀ q, q < pw_N (g_K g a) → pw_v (pw_ty (g_K g a) q) (I a q) (J a q) (R a q) = pw_v (pw_ty (g_K g a) q) (I2 a q) (J2 a q) (R2 a q)) ∧
  (∀ a, a ∈ g_L g → (g_K g a = 12 ∨ g_K g a = 13 ∨ g_K g a = 15) → ∀ q, q < g_n g a → I a q = I2 a q) ∧
  (∀ a, a ∈ g_L g → g_K g a = 14 → ∀ q, q < g_n g a → J a q = J2 a q)
theorem agr_at {g : GG} {I : pI} {J : pJ} {R : pR} {H : Heap} (h : g_P g I J R H) {a : Nat} (ha : a ∈ g_L g) : va_at (g_D g) vwCl (a, g_F g I J R a) H := by
  obtain ⟨k, hk⟩ := g_get (I := I) (J := J) (R := R) ha
  exact h.2 k _ hk
theorem agr_of {g : GG} {I I2 : pI} {J J2 : pJ} {R R2 : pR} {H : Heap} (h1 : g_P g I J R H) (h2 : g_P g I2 J2 R2 H) : AGR g I J R I2 J2 R2 := by
  refine ⟨fun a ha hk q hq => ?_, fun a ha hk q hq => ?_, fun a ha hk q hq => ?_⟩
  · have e1 := agr_at h1 ha
    have e2 := agr_at h2 ha
    rw [g_F_obj rfl hk] at e1 e2
    obtain ⟨r, hr, c1, k1, -, -, s1⟩ := e1
    obtain ⟨r', hr', c2, k2, -, -, s2⟩ := e2
    have er := pw_cl (g_K g a) hk
    obtain rfl : r = (pw_C (g_K g a), pw_T (g_K g a), pw_N (g_K g a)) := Option.some.inj (hr.symm.trans er)
    obtain rfl : r' = (pw_C (g_K g a), pw_T (g_K g a), pw_N (g_K g a)) := Option.some.inj (hr'.symm.trans er)
    obtain rfl : c1 = c2 := Option.some.inj (k1.symm.trans k2)
    have x1 := s1 q hq
    have x2 := s2 q hq
    have x3 := Option.some.inj (x1.symm.trans x2)
    have y1 : vp_V (pw_fs (g_K g a) I J R a) q = pw_v (pw_ty (g_K g a) q) (I a q) (J a q) (R a q) := by
      unfold vp_V
      rw [List.getD_eq_getElem?_getD, pw_fs_get hq]
      rfl
    have y2 : vp_V (pw_fs (g_K g a) I2 J2 R2 a) q = pw_v (pw_ty (g_K g a) q) (I2 a q) (J2 a q) (R2 a q) := by
      unfold vp_V
      rw [List.getD_eq_getElem?_getD, pw_fs_get hq]
      rfl
    exact y1.symm.trans (x3.trans y2)
  · have e1 := agr_at h1 ha
    have e2 := agr_at h2 ha
    rw [g_F_int rfl hk] at e1 e2
    have e3 := Option.some.inj (Eq.trans (Eq.symm e1) e2)
    have x1 := arrV_read (g_cy g (g_K g a)) (fun j => Value.int (I a j)) hq
    have x2 := arrV_read (g_cy g (g_K g a)) (fun j => Value.int (I2 a j)) hq
    have e4 : arrV (g_cy g (g_K g a)) (g_n g a) (fun j => Value.int (I a j)) = arrV (g_cy g (g_K g a)) (g_n g a) (fun j => Value.int (I2 a j)) := e3
    rw [e4, x2] at x1
    exact (Value.int.inj (Option.some.inj x1)).symm
  · have e1 := agr_at h1 ha
    have e2 := agr_at h2 ha
    rw [g_F_long hk] at e1 e2
    have e3 := Option.some.inj (Eq.trans (Eq.symm e1) e2)
    have x1 := arrV_read (g_cy g 14) (fun j => Value.long (J a j)) hq
    have x2 := arrV_read (g_cy g 14) (fun j => Value.long (J2 a j)) hq
    have e4 : arrV (g_cy g 14) (g_n g a) (fun j => Value.long (J a j)) = arrV (g_cy g 14) (g_n g a) (fun j => Value.long (J2 a j)) := e3
    rw [e4, x2] at x1
    exact (Value.long.inj (Option.some.inj x1)).symm
theorem SP_and2 {g : GG} {y : MD} {as : List Value} {I : pI} {J : pJ} {R : pR} {Q1 Q2 : Post} (h1 : SP g y as I J R Q1) (h2 : SP g y as I J R Q2) : SP g y as I J R (fun r I' J' R' => Q1 r I' J' R' ∧ ∃ I2 J2 R2, Q2 r I2 J2 R2 ∧ AGR g I' J' R' I2 J2 R2) := by
  intro p e ha hc hk s m args below hf happ hP hK
  obtain ⟨n, o, hw, hr, he, hq⟩ := h1 p e ha hc hk s m args below hf happ hP hK
  obtain ⟨n2, o2, hw2, hr2, he2, hq2⟩ := h2 p e ha hc hk s m args below hf happ hP hK
  obtain ⟨rfl, rfl⟩ := the_end_unique (f := fun k => stepsAlone p.tables e k s) hw he hw2 he2
  obtain ⟨⟨⟨r, I1, J1, R1, hv, hQ, hP1⟩, hF⟩, hL⟩ := hq
  obtain ⟨⟨⟨r2, I2, J2, R2, hv2, hQ2, hP2⟩, hF2⟩, hL2⟩ := hq2
  obtain rfl : r = r2 := by
    have e0 := hv.symm.trans hv2
    exact Outcome.returned.inj e0
  exact ⟨n, o, hw, hr, he, ⟨⟨r, I1, J1, R1, hv, ⟨hQ, I2, J2, R2, hQ2, agr_of hP1 hP2⟩, hP1⟩, hF⟩, hL⟩
