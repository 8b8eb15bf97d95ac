/-! EXACT WALKS: rules that tell what is read and written; frames over all addresses -/
/-- all cells but those of C are as they were -/
def FC {α : Type} (g : GG) (C : List Nat) (f f' : Nat → Nat → α) : Prop := ∀ b, (∀ c ∈ C, b ≠ ad g c) → f' b = f b
theorem FC_rf {α : Type} {g : GG} {C : List Nat} {f : Nat → Nat → α} : FC g C f f := fun _ _ => rfl
theorem FC_tr {α : Type} {g : GG} {C : List Nat} {f f1 f2 : Nat → Nat → α} (h : FC g C f f1) (h2 : FC g C f1 f2) : FC g C f f2 := fun b hb => (h2 b hb).trans (h b hb)
theorem FC_mono {α : Type} {g : GG} {C D : List Nat} {f f1 : Nat → Nat → α} (h : FC g C f f1) (hs : ∀ i ∈ C, i ∈ D) : FC g D f f1 := fun b hb => h b (fun c hc => hb c (hs c hc))
theorem FC_pp {α : Type} {g : GG} {C : List Nat} {f f1 : Nat → Nat → α} {c q : Nat} {v : α} (h : FC g C f f1) (hm : c ∈ C) : FC g C f (pp f1 (ad g c) q v) := fun b hb => by
  rw [pp_off _ _ (hb c hm)]
  exact h b hb
theorem FCx_at {α : Type} {g : GG} (hy : LyX g) {C : List Nat} {f f1 : Nat → Nat → α} (h : FC g C f f1) (c : Nat) (hc : c < 74) (hn : ∀ i ∈ C, c ≠ i ∧ i < 74) : f1 (ad g c) = f (ad g c) := h _ (fun i hi => lyx_ne hy (hn i hi).1 hc (hn i hi).2)
theorem FC_at {α : Type} {g : GG} (hy : Ly g) {C : List Nat} {f f1 : Nat → Nat → α} (h : FC g C f f1) (c : Nat) (hc : c < 49) (hn : ∀ i ∈ C, c ≠ i ∧ i < 49) : f1 (ad g c) = f (ad g c) := h _ (fun i hi => ly_ne hy (hn i hi).1 hc (hn i hi).2)
/-- the slots of cell 0 but those of Q are as they were -/
def FQ {α : Type} (g : GG) (Q : List Nat) (f f' : Nat → Nat → α) : Prop := ∀ q, q ∉ Q → f' (ad g 0) q = f (ad g 0) q
theorem FQ_rf {α : Type} {g : GG} {Q : List Nat} {f : Nat → Nat → α} : FQ g Q f f := fun _ _ => rfl
theorem FQ_tr {α : Type} {g : GG} {Q : List Nat} {f f1 f2 : Nat → Nat → α} (h : FQ g Q f f1) (h2 : FQ g Q f1 f2) : FQ g Q f f2 := fun b hb => (h2 b hb).trans (h b hb)
theorem FQ_mono {α : Type} {g : GG} {Q Q' : List Nat} {f f1 : Nat → Nat → α} (h : FQ g Q f f1) (hs : ∀ i ∈ Q, i ∈ Q') : FQ g Q' f f1 := fun b hb => h b (fun hc => hb (hs b hc))
theorem FQ_pp0 {α : Type} {g : GG} {Q : List Nat} {f f1 : Nat → Nat → α} {q : Nat} {v : α} (h : FQ g Q f f1) (hm : q ∈ Q) : FQ g Q f (pp f1 (ad g 0) q v) := fun b hb => by
  have hne : b ≠ q := fun e => hb (by rw [e]; exact hm)
  rw [pp_ne f1 v (Or.inr hne)]
  exact h b hb
theorem FQ_ppn {α : Type} {g : GG} {Q : List Nat} {f f1 : Nat → Nat → α} {a q : Nat} {v : α} (hn : ad g 0 ≠ a) (h : FQ g Q f f1) : FQ g Q f (pp f1 a q v) := fun b hb => by
  rw [pp_off _ _ hn]
  exact h b hb
theorem cmp_z (x y : Int64) (v : Int32) (h : v = lg_cmp x y) : (v.toInt < 0 ↔ x.toInt < y.toInt) ∧ (0 < v.toInt ↔ y.toInt < x.toInt) := by
  subst h
  exact ⟨(lt32 _ 0).symm.trans (cmp_lt x y), (lt32 0 _).symm.trans (cmp_gt x y)⟩
theorem cln {i : Int32} (h : 0 ≤ i.toInt) : i.toNatClampNeg = i.toInt.toNat := cl (by omega)
section Rules
variable {g : GG} {d : MD} {pc : Nat} {ls : List (Nat × Value)} {st : List Value} {I : pI} {J : pJ} {R : pR} {Q : Post}
theorem WE_ia {a n : Nat} {i : Int32} (h : decode (md_c d) pc = .ok (.iaload, 1)) (ha : g_is g a 13) (hn : g_n g a = n) (h0 : 0 ≤ i.toInt) (h1 : i.toInt < n) (kk : ∀ v : Int32, I a i.toInt.toNat = v → WP g d (pc + 1) ls (.int v :: st) I J R Q) : WP g d pc ls (.int i :: .ref a :: st) I J R Q := WP_iald h ha (by rw [hn]; exact vin h0 h1) (by rw [cln h0]; exact kk _ rfl)
theorem WE_ba {a n : Nat} {i : Int32} (h : decode (md_c d) pc = .ok (.baload, 1)) (ha : g_is g a 12) (hn : g_n g a = n) (h0 : 0 ≤ i.toInt) (h1 : i.toInt < n) (kk : ∀ v : Int32, I a i.toInt.toNat = v → WP g d (pc + 1) ls (.int v :: st) I J R Q) : WP g d pc ls (.int i :: .ref a :: st) I J R Q := WP_bald h ha (by rw [hn]; exact vin h0 h1) (by rw [cln h0]; exact kk _ rfl)
theorem WE_za {a n : Nat} {i : Int32} (h : decode (md_c d) pc = .ok (.baload, 1)) (ha : g_is g a 15) (hn : g_n g a = n) (h0 : 0 ≤ i.toInt) (h1 : i.toInt < n) (kk : ∀ v : Int32, I a i.toInt.toNat = v → WP g d (pc + 1) ls (.int v :: st) I J R Q) : WP g d pc ls (.int i :: .ref a :: st) I J R Q := WP_zald h ha (by rw [hn]; exact vin h0 h1) (by rw [cln h0]; exact kk _ rfl)
theorem WE_la {a n : Nat} {i : Int32} (h : decode (md_c d) pc = .ok (.laload, 1)) (ha : g_is g a 14) (hn : g_n g a = n) (h0 : 0 ≤ i.toInt) (h1 : i.toInt < n) (kk : ∀ v : Int64, J a i.toInt.toNat = v → WP g d (pc + 1) ls (.long v :: st) I J R Q) : WP g d pc ls (.int i :: .ref a :: st) I J R Q := WP_lald h ha (by rw [hn]; exact vin h0 h1) (by rw [cln h0]; exact kk _ rfl)
theorem WE_iak {a n z : Nat} {i v : Int32} (h : decode (md_c d) pc = .ok (.iaload, 1)) (ha : g_is g a 13) (hn : g_n g a = n) (hz : i.toInt = (z : Int)) (h1 : z < n) (he : I a z = v) (kk : WP g d (pc + 1) ls (.int v :: st) I J R Q) : WP g d pc ls (.int i :: .ref a :: st) I J R Q := WP_iald h ha (by rw [hn]; exact vin (by omega) (by omega)) (by rw [cl hz, he]; exact kk)
theorem WE_lak {a n z : Nat} {i : Int32} {v : Int64} (h : decode (md_c d) pc = .ok (.laload, 1)) (ha : g_is g a 14) (hn : g_n g a = n) (hz : i.toInt = (z : Int)) (h1 : z < n) (he : J a z = v) (kk : WP g d (pc + 1) ls (.long v :: st) I J R Q) : WP g d pc ls (.int i :: .ref a :: st) I J R Q := WP_lald h ha (by rw [hn]; exact vin (by omega) (by omega)) (by rw [cl hz, he]; exact kk)
theorem WE_is {a n : Nat} {i x : Int32} (h : decode (md_c d) pc = .ok (.iastore, 1)) (ha : g_is g a 13) (hn : g_n g a = n) (h0 : 0 ≤ i.toInt) (h1 : i.toInt < n) (kk : ∀ (I2 : pI), I2 = pp I a i.toInt.toNat x → WP g d (pc + 1) ls st I2 J R Q) : WP g d pc ls (.int x :: .int i :: .ref a :: st) I J R Q := WP_iast h ha (by rw [hn]; exact vin h0 h1) (by rw [cln h0]; exact kk _ rfl)
theorem WE_bs {a n : Nat} {i x : Int32} (h : decode (md_c d) pc = .ok (.bastore, 1)) (ha : g_is g a 12) (hn : g_n g a = n) (h0 : 0 ≤ i.toInt) (h1 : i.toInt < n) (kk : ∀ (I2 : pI), I2 = pp I a i.toInt.toNat (vp_nar .byte x) → WP g d (pc + 1) ls st I2 J R Q) : WP g d pc ls (.int x :: .int i :: .ref a :: st) I J R Q := WP_bast h ha (by rw [hn]; exact vin h0 h1) (by rw [cln h0]; exact kk _ rfl)
theorem WE_ls {a n : Nat} {i : Int32} {x : Int64} (h : decode (md_c d) pc = .ok (.lastore, 1)) (ha : g_is g a 14) (hn : g_n g a = n) (h0 : 0 ≤ i.toInt) (h1 : i.toInt < n) (kk : ∀ (J2 : pJ), J2 = pp J a i.toInt.toNat x → WP g d (pc + 1) ls st I J2 R Q) : WP g d pc ls (.long x :: .int i :: .ref a :: st) I J R Q := WP_last h ha (by rw [hn]; exact vin h0 h1) (by rw [cln h0]; exact kk _ rfl)
end Rules
theorem lnn (x : Int64) (hx : 0 ≤ x.toInt) : x.toInt = (x.toBitVec.toNat : Int) := by
  have h := BitVec.toInt_eq_toNat_cond x.toBitVec
  have l := x.toBitVec.isLt
  have e : x.toInt = x.toBitVec.toInt := rfl
  rw [e] at hx ⊢
  split at h <;> omega
theorem lnm (x : Int64) (hx : x.toBitVec.toNat < 9223372036854775808) : x.toInt = (x.toBitVec.toNat : Int) := by
  have h := BitVec.toInt_eq_toNat_cond x.toBitVec
  have e : x.toInt = x.toBitVec.toInt := rfl
  rw [e]
  split at h <;> omega
/-- a word goes on: eight bits a letter, five bits a letter -/
theorem lsor8 {w l1 l2 l3 : Int64} {s : Int32} (hs : s.toInt = 8) (x1 : l1 = w <<< (s.toInt64 &&& 63)) (x3 : l3 = l1 ||| l2) (hw : 0 ≤ w.toInt) (hw2 : w.toInt < 36028797018963968) (hb : 0 ≤ l2.toInt) (hb2 : l2.toInt < 256) : l3.toInt = w.toInt * 256 + l2.toInt := by
  obtain rfl : s = 8 := (eq32 s 8).mpr hs
  have e1 := lnn w hw
  have e2 := lnn l2 hb
  have e4 : ((8 : Int32).toInt64 &&& 63 : Int64) = 8 := by decide
  have e3 : l3.toBitVec.toNat = w.toBitVec.toNat * 256 + l2.toBitVec.toNat := by
    rw [x3, x1, e4, Int64.toBitVec_or, Int64.toBitVec_shiftLeft, BitVec.toNat_or]
    have e5 : ((8 : Int64).toBitVec.smod 64) = (8#64 : BitVec 64) := by decide
    rw [e5, BitVec.shiftLeft_eq', BitVec.toNat_shiftLeft]
    have e6 : (8#64 : BitVec 64).toNat = 8 := by decide
    rw [e6]
    have e7 : w.toBitVec.toNat <<< 8 % 2 ^ 64 = w.toBitVec.toNat <<< 8 := Nat.mod_eq_of_lt (by rw [Nat.shiftLeft_eq]; omega)
    rw [e7, ← Nat.shiftLeft_add_eq_or_of_lt (by omega : l2.toBitVec.toNat < 2 ^ 8), Nat.shiftLeft_eq]
  have e8 := lnm l3 (by omega)
  omega
theorem lsor5 {w l1 l2 l3 : Int64} {s : Int32} (hs : s.toInt = 5) (x1 : l1 = w <<< (s.toInt64 &&& 63)) (x3 : l3 = l1 ||| l2) (hw : 0 ≤ w.toInt) (hw2 : w.toInt < 36028797018963968) (hb : 0 ≤ l2.toInt) (hb2 : l2.toInt < 32) : l3.toInt = w.toInt * 32 + l2.toInt := by
  obtain rfl : s = 5 := (eq32 s 5).mpr hs
  have e1 := lnn w hw
  have e2 := lnn l2 hb
  have e4 : ((5 : Int32).toInt64 &&& 63 : Int64) = 5 := by decide
  have e3 : l3.toBitVec.toNat = w.toBitVec.toNat * 32 + l2.toBitVec.toNat := by
    rw [x3, x1, e4, Int64.toBitVec_or, Int64.toBitVec_shiftLeft, BitVec.toNat_or]
    have e5 : ((5 : Int64).toBitVec.smod 64) = (5#64 : BitVec 64) := by decide
    rw [e5, BitVec.shiftLeft_eq', BitVec.toNat_shiftLeft]
    have e6 : (5#64 : BitVec 64).toNat = 5 := by decide
    rw [e6]
    have e7 : w.toBitVec.toNat <<< 5 % 2 ^ 64 = w.toBitVec.toNat <<< 5 := Nat.mod_eq_of_lt (by rw [Nat.shiftLeft_eq]; omega)
    rw [e7, ← Nat.shiftLeft_add_eq_or_of_lt (by omega : l2.toBitVec.toNat < 2 ^ 5), Nat.shiftLeft_eq]
  have e8 := lnm l3 (by omega)
  omega
