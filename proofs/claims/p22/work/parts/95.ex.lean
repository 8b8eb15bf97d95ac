/-! EXACT WALKS: rules that tell what is read and written; frames over all addresses -/
/-- all cells but those of C are as they were -/
def FC {α : Type} (g : GG) (C : List Nat) (f f' : Nat → Nat → α) : Prop := ∀ b, (∀ c ∈ C, b ≠ ad g c) → f' b = f b
theorem FC_rf {α : Type} {g : GG} {C : List Nat} {f : Nat → Nat → α} : FC g C f f := fun _ _ => rfl
theorem FC_tr {α : Type} {g : GG} {C : List Nat} {f f1 f2 : Nat → Nat → α} (h : FC g C f f1) (h2 : FC g C f1 f2) : FC g C f f2 := fun b hb => (h2 b hb).trans (h b hb)
theorem FC_mono {α : Type} {g : GG} {C D : List Nat} {f f1 : Nat → Nat → α} (h : FC g C f f1) (hs : ∀ i ∈ C, i ∈ D) : FC g D f f1 := fun b hb => h b (fun c hc => hb c (hs c hc))
theorem FC_pp {α : Type} {g : GG} {C : List Nat} {f f1 : Nat → Nat → α} {c q : Nat} {v : α} (h : FC g C f f1) (hm : c ∈ C) : FC g C f (pp f1 (ad g c) q v) := fun b hb => by
  rw [pp_off _ _ (hb c hm)]
  exact h b hb
theorem FCx_at {α : Type} {g : GG} (hy : LyX g) {C : List Nat} {f f1 : Nat → Nat → α} (h : FC g C f f1) (c : Nat) (hc : c < 74) (hn : ∀ i ∈ C, c ≠ i ∧ i < 74) : f1 (ad g c) = f (ad g c) := h _ (fun i hi => lyx_ne hy (hn i hi).1 hc (hn i hi).2)
theorem FC_at {α : Type} {g : GG} (hy : Ly g) {C : List Nat} {f f1 : Nat → Nat → α} (h : FC g C f f1) (c : Nat) (hc : c < 49) (hn : ∀ i ∈ C, c ≠ i ∧ i < 49) : f1 (ad g c) = f (ad g c) := h _ (fun i hi => ly_ne hy (hn i hi).1 hc (hn i hi).2)
/-- the slots of cell 0 but those of Q are as they were -/
def FQ {α : Type} (g : GG) (Q : List Nat) (f f' : Nat → Nat → α) : Prop := ∀ q, q ∉ Q → f' (ad g 0) q = f (ad g 0) q
theorem FQ_rf {α : Type} {g : GG} {Q : List Nat} {f : Nat → Nat → α} : FQ g Q f f := fun _ _ => rfl
theorem FQ_tr {α : Type} {g : GG} {Q : List Nat} {f f1 f2 : Nat → Nat → α} (h : FQ g Q f f1) (h2 : FQ g Q f1 f2) : FQ g Q f f2 := fun b hb => (h2 b hb).trans (h b hb)
theorem FQ_mono {α : Type} {g : GG} {Q Q' : List Nat} {f f1 : Nat → Nat → α} (h : FQ g Q f f1) (hs : ∀ i ∈ Q, i ∈ Q') : FQ g Q' f f1 := fun b hb => h b (fun hc => hb (hs b hc))
theorem FQ_pp0 {α : Type} {g : GG} {Q : List Nat} {f f1 : Nat → Nat → α} {q : Nat} {v : α} (h : FQ g Q f f1) (hm : q ∈ Q) : FQ g Q f (pp f1 (ad g 0) q v) := fun b hb => by
  have hne : b ≠ q := fun e => hb (by rw [e]; exact hm)
  rw [pp_ne f1 v (Or.inr hne)]
  exact h b hb
theorem FQ_ppn {α : Type} {g : GG} {Q : List Nat} {f f1 : Nat → Nat → α} {a q : Nat} {v : α} (hn : ad g 0 ≠ a) (h : FQ g Q f f1) : FQ g Q f (pp f1 a q v) := fun b hb => by
  rw [pp_off _ _ hn]
  exact h b hb
theorem cmp_z (x y : Int64) (v : Int32) (h : v = lg_cmp x y) : (v.toInt < 0 ↔ x.toInt < y.toInt) ∧ (0 < v.toInt ↔ y.toInt < x.toInt) := by
  subst h
  exact ⟨(lt32 _ 0).symm.trans (cmp_lt x y), (lt32 0 _).symm.trans (cmp_gt x y)⟩
theorem cln {i : Int32} (h : 0 ≤ i.toInt) : i.toNatClampNeg = i.toInt.toNat := cl (by omega)
section Rules
variable {g : GG} {d : MD} {pc : Nat} {ls : List (Nat × Value)} {st : List Value} {I : pI} {J : pJ} {R : pR} {Q : Post}
theorem WE_ia {a n : Nat} {i : Int32} (h : decode (md_c d) pc = .ok (.iaload, 1)) (ha : g_is g a 13) (hn : g_n g a = n) (h0 : 0 ≤ i.toInt) (h1 : i.toInt < n) (kk : ∀ v : Int32, I a i.toInt.toNat = v → WP g d (pc + 1) ls (.int v :: st) I J R Q) : WP g d pc ls (.int i :: .ref a :: st) I J R Q := WP_iald h ha (by rw [hn]; exact vin h0 h1) (by rw [cln h0]; exact kk _ rfl)
theorem WE_ba {a n : Nat} {i : Int32} (h : decode (md_c d) pc = .ok (.baload, 1)) (ha : g_is g a 12) (hn : g_n g a = n) (h0 : 0 ≤ i.toInt) (h1 : i.toInt < n) (kk : ∀ v : Int32, I a i.toInt.toNat = v → WP g d (pc + 1) ls (.int v :: st) I J R Q) : WP g d pc ls (.int i :: .ref a :: st) I J R Q := WP_bald h ha (by rw [hn]; exact vin h0 h1) (by rw [cln h0]; exact kk _ rfl)
theorem WE_za {a n : Nat} {i : Int32} (h : decode (md_c d) pc = .ok (.baload, 1)) (ha : g_is g a 15) (hn : g_n g a = n) (h0 : 0 ≤ i.toInt) (h1 : i.toInt < n) (kk : ∀ v : Int32, I a i.toInt.toNat = v → WP g d (pc + 1) ls (.int v :: st) I J R Q) : WP g d pc ls (.int i :: .ref a :: st) I J R Q := WP_zald h ha (by rw [hn]; exact vin h0 h1) (by rw [cln h0]; exact kk _ rfl)
theorem WE_la {a n : Nat} {i : Int32} (h : decode (md_c d) pc = .ok (.laload, 1)) (ha : g_is g a 14) (hn : g_n g a = n) (h0 : 0 ≤ i.toInt) (h1 : i.toInt < n) (kk : ∀ v : Int64, J a i.toInt.toNat = v → WP g d (pc + 1) ls (.long v :: st) I J R Q) : WP g d pc ls (.int i :: .ref a :: st) I J R Q := WP_lald h ha (by rw [hn]; exact vin h0 h1) (by rw [cln h0]; exact kk _ rfl)
theorem WE_iak {a n z : Nat} {i v : Int32} (h : decode (md_c d) pc = .ok (.iaload, 1)) (ha : g_is g a 13) (hn : g_n g a = n) (hz : i.toInt = (z : Int)) (h1 : z < n) (he : I a z = v) (kk : WP g d (pc + 1) ls (.int v :: st) I J R Q) : WP g d pc ls (.int i :: .ref a :: st) I J R Q := WP_iald h ha (by rw [hn]; exact vin (by omega) (by omega)) (by rw [cl hz, he]; exact kk)
theorem WE_is {a n : Nat} {i x : Int32} (h : decode (md_c d) pc = .ok (.iastore, 1)) (ha : g_is g a 13) (hn : g_n g a = n) (h0 : 0 ≤ i.toInt) (h1 : i.toInt < n) (kk : ∀ (I2 : pI), I2 = pp I a i.toInt.toNat x → WP g d (pc + 1) ls st I2 J R Q) : WP g d pc ls (.int x :: .int i :: .ref a :: st) I J R Q := WP_iast h ha (by rw [hn]; exact vin h0 h1) (by rw [cln h0]; exact kk _ rfl)
theorem WE_bs {a n : Nat} {i x : Int32} (h : decode (md_c d) pc = .ok (.bastore, 1)) (ha : g_is g a 12) (hn : g_n g a = n) (h0 : 0 ≤ i.toInt) (h1 : i.toInt < n) (kk : ∀ (I2 : pI), I2 = pp I a i.toInt.toNat (vp_nar .byte x) → WP g d (pc + 1) ls st I2 J R Q) : WP g d pc ls (.int x :: .int i :: .ref a :: st) I J R Q := WP_bast h ha (by rw [hn]; exact vin h0 h1) (by rw [cln h0]; exact kk _ rfl)
theorem WE_ls {a n : Nat} {i : Int32} {x : Int64} (h : decode (md_c d) pc = .ok (.lastore, 1)) (ha : g_is g a 14) (hn : g_n g a = n) (h0 : 0 ≤ i.toInt) (h1 : i.toInt < n) (kk : ∀ (J2 : pJ), J2 = pp J a i.toInt.toNat x → WP g d (pc + 1) ls st I J2 R Q) : WP g d pc ls (.long x :: .int i :: .ref a :: st) I J R Q := WP_last h ha (by rw [hn]; exact vin h0 h1) (by rw [cln h0]; exact kk _ rfl)
end Rules
theorem lnn (x : Int64) (hx : 0 ≤ x.toInt) : x.toInt = (x.toBitVec.toNat : Int) := by
  have h := BitVec.toInt_eq_toNat_cond x.toBitVec
  have l := x.toBitVec.isLt
  have e : x.toInt = x.toBitVec.toInt := rfl
  rw [e] at hx ⊢
  split at h <;> omega
theorem lnm (x : Int64) (hx : x.toBitVec.toNat < 9223372036854775808) : x.toInt = (x.toBitVec.toNat : Int) := by
  have h := BitVec.toInt_eq_toNat_cond x.toBitVec
  have e : x.toInt = x.toBitVec.toInt := rfl
  rw [e]
  split at h <;> omega
/-- a word goes on: eight bits a letter, five bits a letter -/
theorem lsor8 {w l1 l2 l3 : Int64} {s : Int32} (hs : s.toInt = 8) (x1 : l1 = w <<< (s.toInt64 &&& 63)) (x3 : l3 = l1 ||| l2) (hw : 0 ≤ w.toInt) (hw2 : w.toInt < 36028797018963968) (hb : 0 ≤ l2.toInt) (hb2 : l2.toInt < 256) : l3.toInt = w.toInt * 256 + l2.toInt := by
  obtain rfl : s = 8 := (eq32 s 8).mpr hs
  have e1 := lnn w hw
  have e2 := lnn l2 hb
  have e4 : ((8 : Int32).toInt64 &&& 63 : Int64) = 8 := by decide
  have e3 : l3.toBitVec.toNat = w.toBitVec.toNat * 256 + l2.toBitVec.toNat := by
    rw [x3, x1, e4, Int64.toBitVec_or, Int64.toBitVec_shiftLeft, BitVec.toNat_or]
    have e5 : ((8 : Int64).toBitVec.smod 64) = (8#64 : BitVec 64) := by decide
    rw [e5, BitVec.shiftLeft_eq', BitVec.toNat_shiftLeft]
    have e6 : (8#64 : BitVec 64).toNat = 8 := by decide
    rw [e6]
    have e7 : w.toBitVec.toNat <<< 8 % 2 ^ 64 = w.toBitVec.toNat <<< 8 := Nat.mod_eq_of_lt (by rw [Nat.shiftLeft_eq]; omega)
    rw [e7, ← Nat.shiftLeft_add_eq_or_of_lt (by omega : l2.toBitVec.toNat < 2 ^ 8), Nat.shiftLeft_eq]
  have e8 := lnm l3 (by omega)
  omega
theorem lsor5 {w l1 l2 l3 : Int64} {s : Int32} (hs : s.toInt = 5) (x1 : l1 = w <<< (s.toInt64 &&& 63)) (x3 : l3 = l1 ||| l2) (hw : 0 ≤ w.toInt) (hw2 : w.toInt < 36028797018963968) (hb : 0 ≤ l2.toInt) (hb2 : l2.toInt < 32) : l3.toInt = w.toInt * 32 + l2.toInt := by
  obtain rfl : s = 5 := (eq32 s 5).mpr hs
  have e1 := lnn w hw
  have e2 := lnn l2 hb
  have e4 : ((5 : Int32).toInt64 &&& 63 : Int64) = 5 := by decide
  have e3 : l3.toBitVec.toNat = w.toBitVec.toNat * 32 + l2.toBitVec.toNat := by
    rw [x3, x1, e4, Int64.toBitVec_or, Int64.toBitVec_shiftLeft, BitVec.toNat_or]
    have e5 : ((5 : Int64).toBitVec.smod 64) = (5#64 : BitVec 64) := by decide
    rw [e5, BitVec.shiftLeft_eq', BitVec.toNat_shiftLeft]
    have e6 : (5#64 : BitVec 64).toNat = 5 := by decide
    rw [e6]
    have e7 : w.toBitVec.toNat <<< 5 % 2 ^ 64 = w.toBitVec.toNat <<< 5 := Nat.mod_eq_of_lt (by rw [Nat.shiftLeft_eq]; omega)
    rw [e7, ← Nat.shiftLeft_add_eq_or_of_lt (by omega : l2.toBitVec.toNat < 2 ^ 5), Nat.shiftLeft_eq]
  have e8 := lnm l3 (by omega)
  omega
def AGR (g : GG) (I : pI) (J : pJ) (R : pR) (I2 : pI) (J2 : pJ) (R2 : pR) : Prop :=
  (∀ a, a ∈ g_L g → g_K g a < 12 → ∀ q, q < pw_N (g_K g a) → pw_v (pw_ty (g_K g a) q) (I a q) (J a q) (R a q) = pw_v (pw_ty (g_K g a) q) (I2 a q) (J2 a q) (R2 a q)) ∧
  (∀ a, a ∈ g_L g → (g_K g a = 12 ∨ g_K g a = 13 ∨ g_K g a = 15) → ∀ q, q < g_n g a → I a q = I2 a q) ∧
  (∀ a, a ∈ g_L g → g_K g a = 14 → ∀ q, q < g_n g a → J a q = J2 a q)
theorem agr_at {g : GG} {I : pI} {J : pJ} {R : pR} {H : Heap} (h : g_P g I J R H) {a : Nat} (ha : a ∈ g_L g) : va_at (g_D g) vwCl (a, g_F g I J R a) H := by
  obtain ⟨k, hk⟩ := g_get (I := I) (J := J) (R := R) ha
  exact h.2 k _ hk
theorem agr_of {g : GG} {I I2 : pI} {J J2 : pJ} {R R2 : pR} {H : Heap} (h1 : g_P g I J R H) (h2 : g_P g I2 J2 R2 H) : AGR g I J R I2 J2 R2 := by
  refine ⟨fun a ha hk q hq => ?_, fun a ha hk q hq => ?_, fun a ha hk q hq => ?_⟩
  · have e1 := agr_at h1 ha
    have e2 := agr_at h2 ha
    rw [g_F_obj rfl hk] at e1 e2
    obtain ⟨r, hr, c1, k1, -, -, s1⟩ := e1
    obtain ⟨r', hr', c2, k2, -, -, s2⟩ := e2
    have er := pw_cl (g_K g a) hk
    obtain rfl : r = (pw_C (g_K g a), pw_T (g_K g a), pw_N (g_K g a)) := Option.some.inj (hr.symm.trans er)
    obtain rfl : r' = (pw_C (g_K g a), pw_T (g_K g a), pw_N (g_K g a)) := Option.some.inj (hr'.symm.trans er)
    obtain rfl : c1 = c2 := Option.some.inj (k1.symm.trans k2)
    have x1 := s1 q hq
    have x2 := s2 q hq
    have x3 := Option.some.inj (x1.symm.trans x2)
    have y1 : vp_V (pw_fs (g_K g a) I J R a) q = pw_v (pw_ty (g_K g a) q) (I a q) (J a q) (R a q) := by
      unfold vp_V
      rw [List.getD_eq_getElem?_getD, pw_fs_get hq]
      rfl
    have y2 : vp_V (pw_fs (g_K g a) I2 J2 R2 a) q = pw_v (pw_ty (g_K g a) q) (I2 a q) (J2 a q) (R2 a q) := by
      unfold vp_V
      rw [List.getD_eq_getElem?_getD, pw_fs_get hq]
      rfl
    exact y1.symm.trans (x3.trans y2)
  · have e1 := agr_at h1 ha
    have e2 := agr_at h2 ha
    rw [g_F_int rfl hk] at e1 e2
    have e3 := Option.some.inj (Eq.trans (Eq.symm e1) e2)
    have x1 := arrV_read (g_cy g (g_K g a)) (fun j => Value.int (I a j)) hq
    have x2 := arrV_read (g_cy g (g_K g a)) (fun j => Value.int (I2 a j)) hq
    have e4 : arrV (g_cy g (g_K g a)) (g_n g a) (fun j => Value.int (I a j)) = arrV (g_cy g (g_K g a)) (g_n g a) (fun j => Value.int (I2 a j)) := e3
    rw [e4, x2] at x1
    exact (Value.int.inj (Option.some.inj x1)).symm
  · have e1 := agr_at h1 ha
    have e2 := agr_at h2 ha
    rw [g_F_long hk] at e1 e2
    have e3 := Option.some.inj (Eq.trans (Eq.symm e1) e2)
    have x1 := arrV_read (g_cy g 14) (fun j => Value.long (J a j)) hq
    have x2 := arrV_read (g_cy g 14) (fun j => Value.long (J2 a j)) hq
    have e4 : arrV (g_cy g 14) (g_n g a) (fun j => Value.long (J a j)) = arrV (g_cy g 14) (g_n g a) (fun j => Value.long (J2 a j)) := e3
    rw [e4, x2] at x1
    exact (Value.long.inj (Option.some.inj x1)).symm
theorem SP_and2 {g : GG} {y : MD} {as : List Value} {I : pI} {J : pJ} {R : pR} {Q1 Q2 : Post} (h1 : SP g y as I J R Q1) (h2 : SP g y as I J R Q2) : SP g y as I J R (fun r I' J' R' => Q1 r I' J' R' ∧ ∃ I2 J2 R2, Q2 r I2 J2 R2 ∧ AGR g I' J' R' I2 J2 R2) := by
  intro p e ha hc hk s m args below hf happ hP hK
  obtain ⟨n, o, hw, hr, he, hq⟩ := h1 p e ha hc hk s m args below hf happ hP hK
  obtain ⟨n2, o2, hw2, hr2, he2, hq2⟩ := h2 p e ha hc hk s m args below hf happ hP hK
  obtain ⟨rfl, rfl⟩ := the_end_unique (f := fun k => stepsAlone p.tables e k s) hw he hw2 he2
  obtain ⟨⟨⟨r, I1, J1, R1, hv, hQ, hP1⟩, hF⟩, hL⟩ := hq
  obtain ⟨⟨⟨r2, I2, J2, R2, hv2, hQ2, hP2⟩, hF2⟩, hL2⟩ := hq2
  obtain rfl : r = r2 := by
    have e0 := hv.symm.trans hv2
    exact Outcome.returned.inj e0
  exact ⟨n, o, hw, hr, he, ⟨⟨r, I1, J1, R1, hv, ⟨hQ, I2, J2, R2, hQ2, agr_of hP1 hP2⟩, hP1⟩, hF⟩, hL⟩
/-- what two pictures share: rows of ints, bytes; longs; fields -/
theorem agr_i {g : GG} {I I2 : pI} {J J2 : pJ} {R R2 : pR} (h : AGR g I J R I2 J2 R2) {a k n q : Nat} (ha : g_is g a k) (hk : k = 12 ∨ k = 13 ∨ k = 15) (hn : g_n g a = n) (hq : q < n) : I a q = I2 a q := h.2.1 a ha.1 (by rw [ha.2]; exact hk) q (by rw [hn]; exact hq)
theorem agr_j {g : GG} {I I2 : pI} {J J2 : pJ} {R R2 : pR} (h : AGR g I J R I2 J2 R2) {a n q : Nat} (ha : g_is g a 14) (hn : g_n g a = n) (hq : q < n) : J a q = J2 a q := h.2.2 a ha.1 ha.2 q (by rw [hn]; exact hq)
theorem agr_f {g : GG} {I I2 : pI} {J J2 : pJ} {R R2 : pR} (h : AGR g I J R I2 J2 R2) {a k q : Nat} (ha : g_is g a k) (hk : k < 12) (hq : q < pw_N k) (ht : pw_ty k q = .int) : I a q = I2 a q := by
  have e := h.1 a ha.1 (by rw [ha.2]; exact hk) q (by rw [ha.2]; exact hq)
  rw [ha.2, ht] at e
  exact Value.int.inj e
theorem agr_r {g : GG} {I I2 : pI} {J J2 : pJ} {R R2 : pR} (h : AGR g I J R I2 J2 R2) {a k q x : Nat} (ha : g_is g a k) (hk : k < 12) (hq : q < pw_N k) (ht : pw_v (pw_ty k q) = fun _ _ r => va_rf r) (hr : R2 a q = some x) : R a q = some x := by
  have e := h.1 a ha.1 (by rw [ha.2]; exact hk) q (by rw [ha.2]; exact hq)
  rw [ha.2, ht] at e
  have e2 : va_rf (R a q) = va_rf (R2 a q) := e
  rw [hr] at e2
  cases h9 : R a q with
  | none => rw [h9] at e2; exact absurd e2 (by simp [va_rf])
  | some y => rw [h9] at e2; exact congrArg some (by simpa [va_rf] using e2)
theorem SP_wk {g : GG} {y : MD} {as : List Value} {I : pI} {J : pJ} {R : pR} {Q1 Q2 : Post} (h : SP g y as I J R Q1) (w : ∀ r I' J' R', Q1 r I' J' R' → Q2 r I' J' R') : SP g y as I J R Q2 := by
  intro p e ha hc hk s m args below hf happ hP hK
  obtain ⟨n, o, hw, hr, he, hq⟩ := h p e ha hc hk s m args below hf happ hP hK
  obtain ⟨⟨⟨r, I1, J1, R1, hv, hQ, hP1⟩, hF⟩, hL⟩ := hq
  exact ⟨n, o, hw, hr, he, ⟨⟨r, I1, J1, R1, hv, w _ _ _ _ hQ, hP1⟩, hF⟩, hL⟩
def stp (c l : Int) : Int := (c * l + 999) / 1000
set_option maxHeartbeats 4000000 in
set_option maxRecDepth 100000 in
theorem ex_stampsOf {g : GG} {I : pI} {J : pJ} {R : pR} (hy : LyX g) (hr : RfX g R)  (a : Int32) (b : Int32) (ha : 0 ≤ a.toInt ∧ a.toInt ≤ 1000) (hb : 0 ≤ b.toInt ∧ b.toInt ≤ 1000) : SP g mX10_stampsOf [.int a, .int b] I J R (fun r I' J' R' => (I' = I ∧ J' = J ∧ R' = R) ∧ ∃ v : Int32, r = some (.int v) ∧ (v.toInt = stp a.toInt b.toInt ∧ 0 ≤ v.toInt ∧ v.toInt ≤ 1001)) := by
  refine SP_of ⟨by decide, rfl⟩ (Nat.le_of_ble_eq_true rfl) ?_
  refine WP_iload_n dX10_stampsOf_0 rfl ?_
  refine WP_iload_n dX10_stampsOf_1 rfl ?_
  refine WQ_imulb (1000) (1000) dX10_stampsOf_2 ⟨by omega, by omega⟩ ⟨by omega, by omega⟩ (by decide) (fun v2665 hv2665 av2665 bv2665 cv2665 => ?_)
  refine WQ_sipush (999) (999) dX10_stampsOf_3 rfl rfl (fun v2666 hv2666 => ?_)
  refine WQ_iadd dX10_stampsOf_6 (by omega) (by omega) (fun v2667 hv2667 => ?_)
  refine WQ_sipush (1000) (1000) dX10_stampsOf_7 rfl rfl (fun v2668 hv2668 => ?_)
  refine WQ_idivk (1000) dX10_stampsOf_10 hv2668 (by decide) (by omega) (fun v2669 hv2669 => ?_)
  exact WP_iret dX10_stampsOf_11 rfl ⟨⟨rfl, rfl, rfl⟩, v2669, rfl, by
    refine ⟨?_, by omega, by omega⟩
    unfold stp
    rw [← hv2665]
    omega⟩
set_option maxHeartbeats 4000000 in
set_option maxRecDepth 100000 in
theorem ex_stampAll {g : GG} {I : pI} {J : pJ} {R : pR} (hy : LyX g) (hr : RfX g R)   (hl : ∀ q, q < 7 → 0 ≤ (I (ad g 23) q).toInt ∧ (I (ad g 23) q).toInt ≤ 1000) : SP g mX0_stampAll [.ref (ad g 5)] I J R (fun r I' J' R' => R' = R ∧ FC g [24] I I' ∧ FC g [] J J' ∧ r = none ∧ (∀ d c : Nat, d < 7 → c < 61 → (I' (ad g 24) (d * 61 + c)).toInt = c - stp c (I (ad g 23) d).toInt)) := by
  refine SP_of ⟨by decide, rfl⟩ (Nat.le_of_ble_eq_true rfl) ?_
  have fI0 : FC g [24] I I := FC_rf
  have fJ0 : FC g [] J J := FC_rf
  refine WQ_iconst (0) (0) dX0_stampAll_0 rfl rfl (fun v2670 hv2670 => ?_)
  refine WP_istore_n (ls' := [(0, _), (1, _)]) dX0_stampAll_1 (by decide) rfl ?_
  have lp2675 : ∀ (mz : Nat) (i2671 : Int32) (I2672 : pI), FC g [24] I I2672 → (∃ d : Nat, i2671.toInt = (d : Int) ∧ d ≤ 7 ∧ ∀ x c : Nat, x < d → c < 61 → (I2672 (ad g 24) (x * 61 + c)).toInt = c - stp c (I (ad g 23) x).toInt) → (8 - i2671.toInt.toNat) < mz → WP g mX0_stampAll 2 [(0, .ref (ad g 5)), (1, .int i2671)] [] I2672 J R (fun r I' J' R' => R' = R ∧ FC g [24] I I' ∧ FC g [] J J' ∧ r = none ∧ (∀ d c : Nat, d < 7 → c < 61 → (I' (ad g 24) (d * 61 + c)).toInt = c - stp c (I (ad g 23) d).toInt)) := by
    intro mz
    induction mz with
    | zero =>
      intro i2671 I2672 fI2673 hvlp2675 hmlp2675
      exact absurd hmlp2675 (Nat.not_lt_zero _)
    | succ mz ihlp2675 =>
      intro i2671 I2672 fI2673 hvlp2675 hmlp2675
      obtain ⟨d, id, id7, iA⟩ := hvlp2675
      refine WP_iload_n dX0_stampAll_2 rfl ?_
      refine WQ_bipush (7) (7) dX0_stampAll_3 rfl rfl (fun v2676 hv2676 => ?_)
      refine WQ_icmp_ge 51 dX0_stampAll_5 rfl (fun c2676 => ?_) (fun c2676 => ?_)
      · exact WP_vret dX0_stampAll_51 rfl ⟨rfl, fI2673, fJ0, rfl, by
          intro d9 c9 hd9 hc9
          exact iA d9 c9 (by omega) hc9⟩
      · refine WQ_iconst (0) (0) dX0_stampAll_8 rfl rfl (fun v2678 hv2678 => ?_)
        refine WP_istore_n (ls' := [(0, _), (1, _), (2, _)]) dX0_stampAll_9 (by decide) rfl ?_
        have lp2683 : ∀ (mz : Nat) (i2679 : Int32) (I2680 : pI), FC g [24] I I2680 → (∃ k : Nat, i2679.toInt = (k : Int) ∧ k ≤ 61 ∧ (∀ x c : Nat, x < d → c < 61 → (I2680 (ad g 24) (x * 61 + c)).toInt = c - stp c (I (ad g 23) x).toInt) ∧ ∀ c : Nat, c < k → (I2680 (ad g 24) (d * 61 + c)).toInt = c - stp c (I (ad g 23) d).toInt) → (62 - i2679.toInt.toNat) < mz → WP g mX0_stampAll 10 [(0, .ref (ad g 5)), (1, .int i2671), (2, .int i2679)] [] I2680 J R (fun r I' J' R' => R' = R ∧ FC g [24] I I' ∧ FC g [] J J' ∧ r = none ∧ (∀ d c : Nat, d < 7 → c < 61 → (I' (ad g 24) (d * 61 + c)).toInt = c - stp c (I (ad g 23) d).toInt)) := by
          intro mz
          induction mz with
          | zero =>
            intro i2679 I2680 fI2681 hvlp2683 hmlp2683
            exact absurd hmlp2683 (Nat.not_lt_zero _)
          | succ mz ihlp2683 =>
            intro i2679 I2680 fI2681 hvlp2683 hmlp2683
            obtain ⟨k, jd, jk7, jA, jB⟩ := hvlp2683
            refine WP_iload_n dX0_stampAll_10 rfl ?_
            refine WQ_bipush (61) (61) dX0_stampAll_11 rfl rfl (fun v2684 hv2684 => ?_)
            refine WQ_icmp_ge 45 dX0_stampAll_13 rfl (fun c2684 => ?_) (fun c2684 => ?_)
            · refine WP_iinc (ls' := [(0, _), (1, _), (2, _)]) dX0_stampAll_45 rfl (by decide) rfl ?_
              have hv2686 : (i2671 + Int32.ofInt (1)).toInt = i2671.toInt + (1) := ia_n rfl (by omega) (by omega)
              generalize i2671 + Int32.ofInt (1) = v2686 at hv2686 ⊢
              refine WP_goto 2 dX0_stampAll_48 rfl ?_
              refine WP_sub (fc rfl (fc rfl fn)) (ihlp2675 v2686 I2680 fI2681 ?_ ?_)
              · refine ⟨d + 1, by omega, by omega, fun y c hy9 hc9 => ?_⟩
                by_cases e9 : y = d
                · rw [e9]; exact jB c (by omega)
                · exact jA y c (by omega) hc9
              · omega
            · refine WP_aload_n dX0_stampAll_16 rfl ?_
              refine WP_getr dX0_stampAll_17 fX0_18 rfl (lyx_is hy 5 0 rfl) (rfx hr 5 3 24 (by decide)) ?_
              refine WP_iload_n dX0_stampAll_20 rfl ?_
              refine WQ_bipush (61) (61) dX0_stampAll_21 rfl rfl (fun v2687 hv2687 => ?_)
              refine WQ_imulk (61) dX0_stampAll_23 hv2687 (by omega) (by omega) (fun v2688 hv2688 => ?_)
              refine WP_iload_n dX0_stampAll_24 rfl ?_
              refine WQ_iadd dX0_stampAll_25 (by omega) (by omega) (fun v2689 hv2689 => ?_)
              refine WP_iload_n dX0_stampAll_26 rfl ?_
              refine WP_iload_n dX0_stampAll_27 rfl ?_
              refine WP_aload_n dX0_stampAll_28 rfl ?_
              refine WP_getr dX0_stampAll_29 fX0_15 rfl (lyx_is hy 5 0 rfl) (rfx hr 5 2 23 (by decide)) ?_
              refine WP_iload_n dX0_stampAll_32 rfl ?_
              have fB := fI2681
              refine WE_ia dX0_stampAll_33 (lyx_is hy 23 13 rfl) (lyx_n hy 23 7 rfl) (by omega) (by omega) (fun v2690 ev2690 => ?_)
              have hl23 : v2690.toInt = (I (ad g 23) d).toInt := by rw [← ev2690, show i2671.toInt.toNat = d by omega, FCx_at hy fB 23 (by decide) (by decide)]
              have hl9 := hl d (by omega)
              refine WP_callN2 dX0_stampAll_34 ⟨⟨⟨by decide, by decide⟩, zX10_stampsOf⟩, lX0_60, tX10_stampsOf⟩ (ex_stampsOf hy hr _ _  (by omega) (by omega)) (Nat.le_of_ble_eq_true rfl) ?_
              intro r Ia Ja Ra hq
              obtain ⟨⟨ea, eb, ec⟩, v2692, er, p2691⟩ := hq
              rw [ea, eb, ec, er]
              clear ea eb ec er Ia Ja Ra r
              obtain ⟨st1, st2, st3⟩ := p2691
              refine WQ_isub dX0_stampAll_37 (by omega) (by omega) (fun v2693 hv2693 => ?_)
              refine WE_is dX0_stampAll_38 (lyx_is hy 24 13 rfl) (lyx_n hy 24 427 rfl) (by omega) (by omega) (fun I2694 eI2694 => ?_)
              have e2695 : I2694 (ad g 23) i2671.toInt.toNat = v2690 := by rw [eI2694, pp_ne _ _ (Or.inl (lyx_ne hy (by decide) (by decide) (by decide)))]; exact ev2690
              have fI2696 : FC g [24] I I2694 := by rw [eI2694]; exact FC_pp fI2681 (by decide)
              refine WP_iinc (ls' := [(0, _), (1, _), (2, _)]) dX0_stampAll_39 rfl (by decide) rfl ?_
              have hv2697 : (i2679 + Int32.ofInt (1)).toInt = i2679.toInt + (1) := ia_n rfl (by omega) (by omega)
              generalize i2679 + Int32.ofInt (1) = v2697 at hv2697 ⊢
              refine WP_goto 10 dX0_stampAll_42 rfl ?_
              refine WP_sub (fc rfl (fc rfl (fc rfl fn))) (ihlp2683 v2697 I2694 fI2696 ?_ ?_)
              · refine ⟨k + 1, by omega, by omega, fun y c hy9 hc9 => ?_, fun c hc9 => ?_⟩
                · rw [eI2694, show v2689.toInt.toNat = d * 61 + k by omega, pp_at, if_neg (by omega)]; exact jA y c hy9 hc9
                · rw [eI2694, show v2689.toInt.toNat = d * 61 + k by omega, pp_at]
                  split
                  · rename_i e9
                    obtain rfl : c = k := by omega
                    rw [hv2693, st1, hl23, jd]
                  · exact jB c (by omega)
              · omega
        refine WP_sub (fc rfl (fc rfl (fc rfl fn))) (lp2683 _ v2678 I2672 fI2673 ?_ (Nat.lt_succ_self _))
        · exact ⟨0, by omega, by omega, iA, fun c h => absurd h (Nat.not_lt_zero _)⟩
  refine WP_sub (fc rfl (fc rfl fn)) (lp2675 _ v2670 I fI0 ?_ (Nat.lt_succ_self _))
  · exact ⟨0, by omega, by omega, fun q c h => absurd h (Nat.not_lt_zero _)⟩
set_option maxHeartbeats 4000000 in
set_option maxRecDepth 100000 in
theorem ex_lossesAsTolda {g : GG} {I : pI} {J : pJ} {R : pR} (hy : LyX g) (hr : RfX g R)   (hT : R (ad g 5) 0 = some (ad g 6)) (hl : ∀ q, q < 7 → 0 ≤ (I (ad g 7) q).toInt ∧ (I (ad g 7) q).toInt ≤ 1000) : SP g mX0_lossesAsTold [.ref (ad g 5)] I J R (fun r I' J' R' => R' = R ∧ FC g [23, 24] I I' ∧ FC g [] J J' ∧ r = none ∧ ((∀ q, q < 7 → I' (ad g 23) q = I (ad g 7) q) ∧ ∀ d c : Nat, d < 7 → c < 61 → (I' (ad g 24) (d * 61 + c)).toInt = c - stp c (I (ad g 7) d).toInt)) := by
  refine SP_of ⟨by decide, rfl⟩ (Nat.le_of_ble_eq_true rfl) ?_
  have fI0 : FC g [23, 24] I I := FC_rf
  have fJ0 : FC g [] J J := FC_rf
  refine WP_aload_n dX0_lossesAsTold_0 rfl ?_
  refine WP_getr dX0_lossesAsTold_1 fX0_27 rfl (lyx_is hy 5 0 rfl) hT ?_
  refine WP_getr dX0_lossesAsTold_4 fX0_56 rfl (lyx_is hy 6 7 rfl) (rfx hr 6 5 7 (by decide)) ?_
  refine WQ_iconst (0) (0) dX0_lossesAsTold_7 rfl rfl (fun v2704 hv2704 => ?_)
  refine WP_aload_n dX0_lossesAsTold_8 rfl ?_
  refine WP_getr dX0_lossesAsTold_9 fX0_15 rfl (lyx_is hy 5 0 rfl) (rfx hr 5 2 23 (by decide)) ?_
  refine WQ_iconst (0) (0) dX0_lossesAsTold_12 rfl rfl (fun v2705 hv2705 => ?_)
  refine WQ_bipush (7) (7) dX0_lossesAsTold_13 rfl rfl (fun v2706 hv2706 => ?_)
  refine WQ_copy0 (N := 7) dX0_lossesAsTold_15 lX0_50 ⟨by decide, Nat.le_of_ble_eq_true rfl⟩ (lyx_is hy 7 13 rfl) (lyx_is hy 23 13 rfl) hv2704 hv2705 hv2706 (lyx_n hy 7 7 rfl) (lyx_n hy 23 7 rfl) (fun I2707 cI2707 oI2707 => ?_)
  have g2708 : FC g [23] I I2707 := fun b hb => oI2707 b (hb 23 (by decide))
  have fI2709 : FC g [23, 24] I I2707 := FC_tr fI0 (FC_mono g2708 (by decide))
  refine WP_aload_n dX0_lossesAsTold_18 rfl ?_
  refine WP_callV0 (k := 0) dX0_lossesAsTold_19 ⟨⟨⟨by decide, by decide⟩, zX0_stampAll⟩, lX0_57, by decide, rfl, vX0_stampAll.1, vX0_stampAll.2⟩ (lyx_is hy 5 0 rfl) (ex_stampAll hy hr   (by intro q hq; rw [cI2707 q hq]; exact hl q hq)) (Nat.le_of_ble_eq_true rfl) ?_
  intro r I2711 J2712 Ra hq
  obtain ⟨ec, g2713, g2714, er, p2710⟩ := hq
  rw [ec, er]
  clear ec er Ra r
  have fI2716 : FC g [23, 24] I I2711 := FC_tr fI2709 (FC_mono g2713 (by decide))
  have fJ2717 : FC g [] J J2712 := FC_tr fJ0 (FC_mono g2714 (by decide))
  exact WP_vret dX0_lossesAsTold_22 rfl ⟨rfl, fI2716, fJ2717, rfl, by
    refine ⟨fun q hq => ?_, fun d c hd hc => ?_⟩
    · rw [FCx_at hy g2713 23 (by decide) (by decide)]; exact cI2707 q hq
    · rw [← cI2707 d hd]; exact p2710 d c hd hc⟩
set_option maxHeartbeats 4000000 in
set_option maxRecDepth 100000 in
theorem ex_lossesAsToldb {g : GG} {I : pI} {J : pJ} {R : pR} (hy : LyX g) (hr : RfX g R)   (hT : R (ad g 5) 0 = some (ad g 27)) (hl : ∀ q, q < 7 → 0 ≤ (I (ad g 28) q).toInt ∧ (I (ad g 28) q).toInt ≤ 1000) : SP g mX0_lossesAsTold [.ref (ad g 5)] I J R (fun r I' J' R' => R' = R ∧ FC g [23, 24] I I' ∧ FC g [] J J' ∧ r = none ∧ ((∀ q, q < 7 → I' (ad g 23) q = I (ad g 28) q) ∧ ∀ d c : Nat, d < 7 → c < 61 → (I' (ad g 24) (d * 61 + c)).toInt = c - stp c (I (ad g 28) d).toInt)) := by
  refine SP_of ⟨by decide, rfl⟩ (Nat.le_of_ble_eq_true rfl) ?_
  have fI0 : FC g [23, 24] I I := FC_rf
  have fJ0 : FC g [] J J := FC_rf
  refine WP_aload_n dX0_lossesAsTold_0 rfl ?_
  refine WP_getr dX0_lossesAsTold_1 fX0_27 rfl (lyx_is hy 5 0 rfl) hT ?_
  refine WP_getr dX0_lossesAsTold_4 fX0_56 rfl (lyx_is hy 27 7 rfl) (rfx hr 27 5 28 (by decide)) ?_
  refine WQ_iconst (0) (0) dX0_lossesAsTold_7 rfl rfl (fun v2909 hv2909 => ?_)
  refine WP_aload_n dX0_lossesAsTold_8 rfl ?_
  refine WP_getr dX0_lossesAsTold_9 fX0_15 rfl (lyx_is hy 5 0 rfl) (rfx hr 5 2 23 (by decide)) ?_
  refine WQ_iconst (0) (0) dX0_lossesAsTold_12 rfl rfl (fun v2910 hv2910 => ?_)
  refine WQ_bipush (7) (7) dX0_lossesAsTold_13 rfl rfl (fun v2911 hv2911 => ?_)
  refine WQ_copy0 (N := 7) dX0_lossesAsTold_15 lX0_50 ⟨by decide, Nat.le_of_ble_eq_true rfl⟩ (lyx_is hy 28 13 rfl) (lyx_is hy 23 13 rfl) hv2909 hv2910 hv2911 (lyx_n hy 28 7 rfl) (lyx_n hy 23 7 rfl) (fun I2912 cI2912 oI2912 => ?_)
  have g2913 : FC g [23] I I2912 := fun b hb => oI2912 b (hb 23 (by decide))
  have fI2914 : FC g [23, 24] I I2912 := FC_tr fI0 (FC_mono g2913 (by decide))
  refine WP_aload_n dX0_lossesAsTold_18 rfl ?_
  refine WP_callV0 (k := 0) dX0_lossesAsTold_19 ⟨⟨⟨by decide, by decide⟩, zX0_stampAll⟩, lX0_57, by decide, rfl, vX0_stampAll.1, vX0_stampAll.2⟩ (lyx_is hy 5 0 rfl) (ex_stampAll hy hr   (by intro q hq; rw [cI2912 q hq]; exact hl q hq)) (Nat.le_of_ble_eq_true rfl) ?_
  intro r I2916 J2917 Ra hq
  obtain ⟨ec, g2918, g2919, er, p2915⟩ := hq
  rw [ec, er]
  clear ec er Ra r
  have fI2921 : FC g [23, 24] I I2916 := FC_tr fI2914 (FC_mono g2918 (by decide))
  have fJ2922 : FC g [] J J2917 := FC_tr fJ0 (FC_mono g2919 (by decide))
  exact WP_vret dX0_lossesAsTold_22 rfl ⟨rfl, fI2921, fJ2922, rfl, by
    refine ⟨fun q hq => ?_, fun d c hd hc => ?_⟩
    · rw [FCx_at hy g2918 23 (by decide) (by decide)]; exact cI2912 q hq
    · rw [← cI2912 d hd]; exact p2915 d c hd hc⟩
/-- the market's losses, and what stamps leave by them, are as the town at cells p .. has them -/
def LTX (g : GG) (p : Nat) (I : pI) : Prop := (∀ q, q < 7 → I (ad g 23) q = I (ad g (p + 1)) q) ∧ ∀ d c : Nat, d < 7 → c < 61 → (I (ad g 24) (d * 61 + c)).toInt = c - stp c (I (ad g (p + 1)) d).toInt
