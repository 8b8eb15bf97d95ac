/-! SAFE WALKS: every int on the way is a variable with what is known of it said of its Int; memory is named anew at each write -/
/-- bounds: (cell, first place, end, least, a, b): least .. a * n + b -/
abbrev BR : Type := Nat × Nat × Nat × Int × Int × Int
def BT (g : GG) (T : List BR) (n : Int) (I : pI) : Prop := ∀ e ∈ T, ∀ q, e.2.1 ≤ q → q < e.2.2.1 → e.2.2.2.1 ≤ (I (ad g e.1) q).toInt ∧ (I (ad g e.1) q).toInt ≤ e.2.2.2.2.1 * n + e.2.2.2.2.2
theorem BT_get {g : GG} {T : List BR} {n : Int} {I : pI} (h : BT g T n I) (c q0 q1 : Nat) (lo a b : Int) (hm : (c, q0, q1, lo, a, b) ∈ T) (q : Nat) (h1 : q0 ≤ q) (h2 : q < q1) : lo ≤ (I (ad g c) q).toInt ∧ (I (ad g c) q).toInt ≤ a * n + b := h _ hm q h1 h2
theorem BT_pp {g : GG} {T : List BR} {n : Int} {I : pI} {c q : Nat} {v : Int32} (h : BT g T n I) (hne : ∀ e ∈ T, e.1 ≠ c → ad g e.1 ≠ ad g c) (hv : ∀ e ∈ T, e.1 = c → e.2.1 ≤ q → q < e.2.2.1 → e.2.2.2.1 ≤ v.toInt ∧ v.toInt ≤ e.2.2.2.2.1 * n + e.2.2.2.2.2) : BT g T n (pp I (ad g c) q v) := by
  intro e he q2 h1 h2
  by_cases hc : e.1 = c
  · by_cases hq : q2 = q
    · subst hq
      rw [hc, pp_self]
      exact hv e he hc h1 h2
    · rw [pp_ne _ _ (Or.inr hq)]
      exact h e he q2 h1 h2
  · rw [pp_off _ _ (hne e he hc)]
    exact h e he q2 h1 h2
section Rules
variable {g : GG} {d : MD} {pc : Nat} {ls : List (Nat × Value)} {st : List Value} {I : pI} {J : pJ} {R : pR} {Q : Post}
theorem WQ_iconst {n : Int} (w : Int32) (z : Int) (h : decode (md_c d) pc = .ok (.iconst n, 1)) (hv : Int32.ofInt n = w) (hz : w.toInt = z) (k : ∀ v : Int32, v.toInt = z → WP g d (pc + 1) ls (.int v :: st) I J R Q) : WP g d pc ls st I J R Q := WP_iconst w h hv (k w hz)
theorem WQ_bipush {n : Int} (w : Int32) (z : Int) (h : decode (md_c d) pc = .ok (.bipush n, 2)) (hv : (Int8.ofInt n).toInt32 = w) (hz : w.toInt = z) (k : ∀ v : Int32, v.toInt = z → WP g d (pc + 2) ls (.int v :: st) I J R Q) : WP g d pc ls st I J R Q := WP_bipush w h hv (k w hz)
theorem WQ_sipush {n : Int} (w : Int32) (z : Int) (h : decode (md_c d) pc = .ok (.sipush n, 3)) (hv : (Int16.ofInt n).toInt32 = w) (hz : w.toInt = z) (k : ∀ v : Int32, v.toInt = z → WP g d (pc + 3) ls (.int v :: st) I J R Q) : WP g d pc ls st I J R Q := WP_sipush w h hv (k w hz)
theorem WQ_iadd {x y : Int32} (h : decode (md_c d) pc = .ok (.iadd, 1)) (h1 : -2147483648 ≤ x.toInt + y.toInt) (h2 : x.toInt + y.toInt < 2147483648) (k : ∀ v : Int32, v.toInt = x.toInt + y.toInt → WP g d (pc + 1) ls (.int v :: st) I J R Q) : WP g d pc ls (.int y :: .int x :: st) I J R Q := WP_iadd h (k _ (ia h1 h2))
theorem WQ_iaddu {x y : Int32} (h : decode (md_c d) pc = .ok (.iadd, 1)) (k : ∀ v : Int32, WP g d (pc + 1) ls (.int v :: st) I J R Q) : WP g d pc ls (.int y :: .int x :: st) I J R Q := WP_iadd h (k _)
theorem WQ_isub {x y : Int32} (h : decode (md_c d) pc = .ok (.isub, 1)) (h1 : -2147483648 ≤ x.toInt - y.toInt) (h2 : x.toInt - y.toInt < 2147483648) (k : ∀ v : Int32, v.toInt = x.toInt - y.toInt → WP g d (pc + 1) ls (.int v :: st) I J R Q) : WP g d pc ls (.int y :: .int x :: st) I J R Q := WP_isub h (k _ (is' h1 h2))
theorem WQ_isubu {x y : Int32} (h : decode (md_c d) pc = .ok (.isub, 1)) (k : ∀ v : Int32, WP g d (pc + 1) ls (.int v :: st) I J R Q) : WP g d pc ls (.int y :: .int x :: st) I J R Q := WP_isub h (k _)
/-- by a number -/
theorem WQ_imulk {x y : Int32} (z : Int) (h : decode (md_c d) pc = .ok (.imul, 1)) (hz : y.toInt = z) (h1 : -2147483648 ≤ x.toInt * z) (h2 : x.toInt * z < 2147483648) (k : ∀ v : Int32, v.toInt = x.toInt * z → WP g d (pc + 1) ls (.int v :: st) I J R Q) : WP g d pc ls (.int y :: .int x :: st) I J R Q := by
  subst hz
  exact WP_imul h (k _ (im h1 h2))
theorem WQ_imulK {x y : Int32} (z : Int) (h : decode (md_c d) pc = .ok (.imul, 1)) (hz : x.toInt = z) (h1 : -2147483648 ≤ z * y.toInt) (h2 : z * y.toInt < 2147483648) (k : ∀ v : Int32, v.toInt = z * y.toInt → WP g d (pc + 1) ls (.int v :: st) I J R Q) : WP g d pc ls (.int y :: .int x :: st) I J R Q := by
  subst hz
  exact WP_imul h (k _ (im h1 h2))
/-- of two that are not negative, with bounds -/
theorem WQ_imulb {x y : Int32} (a b : Int) (h : decode (md_c d) pc = .ok (.imul, 1)) (hx : 0 ≤ x.toInt ∧ x.toInt ≤ a) (hy : 0 ≤ y.toInt ∧ y.toInt ≤ b) (hab : a * b < 2147483648) (k : ∀ v : Int32, v.toInt = x.toInt * y.toInt → 0 ≤ v.toInt → v.toInt ≤ x.toInt * b → v.toInt ≤ a * y.toInt → WP g d (pc + 1) ls (.int v :: st) I J R Q) : WP g d pc ls (.int y :: .int x :: st) I J R Q := by
  have h1 : 0 ≤ x.toInt * y.toInt := Int.mul_nonneg hx.1 hy.1
  have h2 : x.toInt * y.toInt ≤ a * b := Int.mul_le_mul hx.2 hy.2 hy.1 (Int.le_trans hx.1 hx.2)
  have e : (x * y).toInt = x.toInt * y.toInt := im (by omega) (by omega)
  exact WP_imul h (k _ e (by rw [e]; exact h1) (by rw [e]; exact Int.mul_le_mul_of_nonneg_left hy.2 hx.1) (by rw [e]; exact Int.mul_le_mul_of_nonneg_right hx.2 hy.1))
theorem WQ_imulu {x y : Int32} (h : decode (md_c d) pc = .ok (.imul, 1)) (k : ∀ v : Int32, WP g d (pc + 1) ls (.int v :: st) I J R Q) : WP g d pc ls (.int y :: .int x :: st) I J R Q := WP_imul h (k _)
/-- by a number that is positive, of one that isn't negative -/
theorem WQ_idivk {x y : Int32} (z : Int) (h : decode (md_c d) pc = .ok (.idiv, 1)) (hz : y.toInt = z) (h0 : 0 < z) (hx : 0 ≤ x.toInt) (k : ∀ v : Int32, v.toInt = x.toInt / z → WP g d (pc + 1) ls (.int v :: st) I J R Q) : WP g d pc ls (.int y :: .int x :: st) I J R Q := by
  subst hz
  exact WP_idiv h (fun e => by rw [e] at h0; exact absurd h0 (by decide)) (k _ (idv hx h0))
theorem WQ_idivb {x y : Int32} (h : decode (md_c d) pc = .ok (.idiv, 1)) (h0 : 0 < y.toInt) (hx : 0 ≤ x.toInt) (k : ∀ v : Int32, v.toInt = x.toInt / y.toInt → 0 ≤ v.toInt → v.toInt ≤ x.toInt → v.toInt * y.toInt ≤ x.toInt → WP g d (pc + 1) ls (.int v :: st) I J R Q) : WP g d pc ls (.int y :: .int x :: st) I J R Q := by
  have e := idv hx h0
  have h3 : 0 ≤ x.toInt / y.toInt := Int.ediv_nonneg hx (Int.le_of_lt h0)
  have h4 : x.toInt / y.toInt ≤ x.toInt := Int.ediv_le_self _ hx
  have h5 : x.toInt / y.toInt * y.toInt ≤ x.toInt := Int.ediv_mul_le _ (Int.ne_of_gt h0)
  exact WP_idiv h (fun e => by rw [e] at h0; exact absurd h0 (by decide)) (k _ e (by rw [e]; exact h3) (by rw [e]; exact h4) (by rw [e]; exact h5))
theorem WQ_idivu {x y : Int32} (h : decode (md_c d) pc = .ok (.idiv, 1)) (h0 : ¬ y.toInt = 0) (k : ∀ v : Int32, WP g d (pc + 1) ls (.int v :: st) I J R Q) : WP g d pc ls (.int y :: .int x :: st) I J R Q := WP_idiv h (fun e => h0 (by rw [e]; rfl)) (k _)
theorem WQ_iremk {x y : Int32} (z : Int) (h : decode (md_c d) pc = .ok (.irem, 1)) (hz : y.toInt = z) (h0 : 0 < z) (hx : 0 ≤ x.toInt) (k : ∀ v : Int32, v.toInt = x.toInt % z → WP g d (pc + 1) ls (.int v :: st) I J R Q) : WP g d pc ls (.int y :: .int x :: st) I J R Q := by
  subst hz
  exact WP_irem h (fun e => by rw [e] at h0; exact absurd h0 (by decide)) (k _ (ir hx h0))
theorem WQ_iremi {x y : Int32} (z : Int) (h : decode (md_c d) pc = .ok (.irem, 1)) (hz : y.toInt = z) (h0 : 0 < z) (k : ∀ v : Int32, (0 ≤ x.toInt → v.toInt = x.toInt % z) → WP g d (pc + 1) ls (.int v :: st) I J R Q) : WP g d pc ls (.int y :: .int x :: st) I J R Q := by
  subst hz
  exact WP_irem h (fun e => by rw [e] at h0; exact absurd h0 (by decide)) (k _ (fun hx => ir hx h0))
theorem WQ_iremu {x y : Int32} (h : decode (md_c d) pc = .ok (.irem, 1)) (h0 : ¬ y.toInt = 0) (k : ∀ v : Int32, WP g d (pc + 1) ls (.int v :: st) I J R Q) : WP g d pc ls (.int y :: .int x :: st) I J R Q := WP_irem h (fun e => h0 (by rw [e]; rfl)) (k _)
theorem WQ_iandu {x y : Int32} (h : decode (md_c d) pc = .ok (.iand, 1)) (k : ∀ v : Int32, WP g d (pc + 1) ls (.int v :: st) I J R Q) : WP g d pc ls (.int y :: .int x :: st) I J R Q := WP_iand h (k _)
theorem WQ_ioru {x y : Int32} (h : decode (md_c d) pc = .ok (.ior, 1)) (k : ∀ v : Int32, WP g d (pc + 1) ls (.int v :: st) I J R Q) : WP g d pc ls (.int y :: .int x :: st) I J R Q := WP_ior h (k _)
theorem WQ_ishlu {x y : Int32} (h : decode (md_c d) pc = .ok (.ishl, 1)) (k : ∀ v : Int32, WP g d (pc + 1) ls (.int v :: st) I J R Q) : WP g d pc ls (.int y :: .int x :: st) I J R Q := WP_ishl h (k _)
theorem WQ_ishl1 {x y : Int32} (h : decode (md_c d) pc = .ok (.ishl, 1)) (hx : x.toInt = 1) (h0 : 0 ≤ y.toInt) (h4 : y.toInt ≤ 4) (k : ∀ v : Int32, 1 ≤ v.toInt → v.toInt ≤ 16 → WP g d (pc + 1) ls (.int v :: st) I J R Q) : WP g d pc ls (.int y :: .int x :: st) I J R Q := by
  obtain rfl : x = 1 := (eq32 x 1).mpr hx
  rcases (show y.toInt = 0 ∨ y.toInt = 1 ∨ y.toInt = 2 ∨ y.toInt = 3 ∨ y.toInt = 4 by omega) with e | e | e | e | e
  · obtain rfl : y = 0 := (eq32 y 0).mpr e
    exact WP_ishl h (k _ (by decide) (by decide))
  · obtain rfl : y = 1 := (eq32 y 1).mpr e
    exact WP_ishl h (k _ (by decide) (by decide))
  · obtain rfl : y = 2 := (eq32 y 2).mpr e
    exact WP_ishl h (k _ (by decide) (by decide))
  · obtain rfl : y = 3 := (eq32 y 3).mpr e
    exact WP_ishl h (k _ (by decide) (by decide))
  · obtain rfl : y = 4 := (eq32 y 4).mpr e
    exact WP_ishl h (k _ (by decide) (by decide))
theorem WQ_aald {a z q n : Nat} {i : Int32} (h : decode (md_c d) pc = .ok (.aaload, 1)) (ha : g_is g a 16) (hn : g_n g a = n) (hi : i.toInt = (q : Int)) (hq : q < n) (hz : R a q = some z) (kk : WP g d (pc + 1) ls (.ref z :: st) I J R Q) : WP g d pc ls (.int i :: .ref a :: st) I J R Q := WP_aald h ha (by rw [hn]; exact vin (by omega) (by omega)) (by rw [cl hi]; exact hz) kk
theorem WQ_ishru {x y : Int32} (h : decode (md_c d) pc = .ok (.ishr, 1)) (k : ∀ v : Int32, WP g d (pc + 1) ls (.int v :: st) I J R Q) : WP g d pc ls (.int y :: .int x :: st) I J R Q := WP_ishr h (k _)
theorem WX_if_eq {x : Int32} {off : Int} (tgt : Nat) (h : decode (md_c d) pc = .ok (.ifCond .eq off, 3)) (ht : (pc : Int) + off = (tgt : Int)) (kt : WP g d tgt ls st I J R Q) (kf : WP g d (pc + 3) ls st I J R Q) : WP g d pc ls (.int x :: st) I J R Q := WP_if_eq tgt h ht (fun _ => kt) (fun _ => kf)
theorem WX_icmp_eq {x y : Int32} {off : Int} (tgt : Nat) (h : decode (md_c d) pc = .ok (.if_icmp .eq off, 3)) (ht : (pc : Int) + off = (tgt : Int)) (kt : WP g d tgt ls st I J R Q) (kf : WP g d (pc + 3) ls st I J R Q) : WP g d pc ls (.int y :: .int x :: st) I J R Q := WP_icmp_eq tgt h ht (fun _ => kt) (fun _ => kf)
theorem WX_if_ne {x : Int32} {off : Int} (tgt : Nat) (h : decode (md_c d) pc = .ok (.ifCond .ne off, 3)) (ht : (pc : Int) + off = (tgt : Int)) (kt : WP g d tgt ls st I J R Q) (kf : WP g d (pc + 3) ls st I J R Q) : WP g d pc ls (.int x :: st) I J R Q := WP_if_ne tgt h ht (fun _ => kt) (fun _ => kf)
theorem WX_icmp_ne {x y : Int32} {off : Int} (tgt : Nat) (h : decode (md_c d) pc = .ok (.if_icmp .ne off, 3)) (ht : (pc : Int) + off = (tgt : Int)) (kt : WP g d tgt ls st I J R Q) (kf : WP g d (pc + 3) ls st I J R Q) : WP g d pc ls (.int y :: .int x :: st) I J R Q := WP_icmp_ne tgt h ht (fun _ => kt) (fun _ => kf)
theorem WX_if_lt {x : Int32} {off : Int} (tgt : Nat) (h : decode (md_c d) pc = .ok (.ifCond .lt off, 3)) (ht : (pc : Int) + off = (tgt : Int)) (kt : WP g d tgt ls st I J R Q) (kf : WP g d (pc + 3) ls st I J R Q) : WP g d pc ls (.int x :: st) I J R Q := WP_if_lt tgt h ht (fun _ => kt) (fun _ => kf)
theorem WX_icmp_lt {x y : Int32} {off : Int} (tgt : Nat) (h : decode (md_c d) pc = .ok (.if_icmp .lt off, 3)) (ht : (pc : Int) + off = (tgt : Int)) (kt : WP g d tgt ls st I J R Q) (kf : WP g d (pc + 3) ls st I J R Q) : WP g d pc ls (.int y :: .int x :: st) I J R Q := WP_icmp_lt tgt h ht (fun _ => kt) (fun _ => kf)
theorem WQ_ladd {x y : Int64} (h : decode (md_c d) pc = .ok (.ladd, 1)) (k : ∀ v : Int64, WP g d (pc + 1) ls (.long v :: st) I J R Q) : WP g d pc ls (.long y :: .long x :: st) I J R Q := WP_ladd h (k _)
theorem WQ_lsub {x y : Int64} (h : decode (md_c d) pc = .ok (.lsub, 1)) (k : ∀ v : Int64, WP g d (pc + 1) ls (.long v :: st) I J R Q) : WP g d pc ls (.long y :: .long x :: st) I J R Q := WP_lsub h (k _)
theorem WQ_lmul {x y : Int64} (h : decode (md_c d) pc = .ok (.lmul, 1)) (k : ∀ v : Int64, WP g d (pc + 1) ls (.long v :: st) I J R Q) : WP g d pc ls (.long y :: .long x :: st) I J R Q := WP_lmul h (k _)
theorem WQ_lor {x y : Int64} (h : decode (md_c d) pc = .ok (.lor, 1)) (k : ∀ v : Int64, WP g d (pc + 1) ls (.long v :: st) I J R Q) : WP g d pc ls (.long y :: .long x :: st) I J R Q := WP_lor h (k _)
theorem WQ_lshl {x : Int64} {y : Int32} (h : decode (md_c d) pc = .ok (.lshl, 1)) (k : ∀ v : Int64, WP g d (pc + 1) ls (.long v :: st) I J R Q) : WP g d pc ls (.int y :: .long x :: st) I J R Q := WP_lshl h (k _)
theorem WQ_lsubi {x y : Int64} (h : decode (md_c d) pc = .ok (.lsub, 1)) (h1 : -9223372036854775808 ≤ x.toInt - y.toInt) (h2 : x.toInt - y.toInt < 9223372036854775808) (k : ∀ v : Int64, v.toInt = x.toInt - y.toInt → WP g d (pc + 1) ls (.long v :: st) I J R Q) : WP g d pc ls (.long y :: .long x :: st) I J R Q := WP_lsub h (k _ (js h1 h2))
theorem WQ_ldiv {x y : Int64} (h : decode (md_c d) pc = .ok (.ldiv, 1)) (h0 : ¬ y.toInt = 0) (k : ∀ v : Int64, WP g d (pc + 1) ls (.long v :: st) I J R Q) : WP g d pc ls (.long y :: .long x :: st) I J R Q := WP_ldiv h (fun e => h0 (by rw [e]; rfl)) (k _)
theorem WQ_i2l {x : Int32} (h : decode (md_c d) pc = .ok (.i2l, 1)) (k : ∀ v : Int64, v.toInt = x.toInt → WP g d (pc + 1) ls (.long v :: st) I J R Q) : WP g d pc ls (.int x :: st) I J R Q := WP_i2l h (k _ (t64 x))
theorem WQ_i2b {x : Int32} (h : decode (md_c d) pc = .ok (.i2b, 1)) (k : ∀ v : Int32, WP g d (pc + 1) ls (.int v :: st) I J R Q) : WP g d pc ls (.int x :: st) I J R Q := WP_i2b h (k _)
theorem WQ_l2i {x : Int64} (h : decode (md_c d) pc = .ok (.l2i, 1)) (k : ∀ v : Int32, WP g d (pc + 1) ls (.int v :: st) I J R Q) : WP g d pc ls (.long x :: st) I J R Q := WP_l2i h (k _)
theorem WQ_lcmp {x y : Int64} (h : decode (md_c d) pc = .ok (.lcmp, 1)) (k : ∀ v : Int32, (v.toInt < 0 ↔ x.toInt < y.toInt) → (0 < v.toInt ↔ y.toInt < x.toInt) → WP g d (pc + 1) ls (.int v :: st) I J R Q) : WP g d pc ls (.long y :: .long x :: st) I J R Q := WP_lcmp h (k _ ((lt32 _ 0).symm.trans (cmp_lt x y)) ((lt32 0 _).symm.trans (cmp_gt x y)))
theorem WQ_lcmpu {x y : Int64} (h : decode (md_c d) pc = .ok (.lcmp, 1)) (k : ∀ v : Int32, WP g d (pc + 1) ls (.int v :: st) I J R Q) : WP g d pc ls (.long y :: .long x :: st) I J R Q := WP_lcmp h (k _)
theorem WQ_if_eq {x : Int32} {off : Int} (tgt : Nat) (h : decode (md_c d) pc = .ok (.ifCond .eq off, 3)) (ht : (pc : Int) + off = (tgt : Int)) (kt : x.toInt = 0 → WP g d tgt ls st I J R Q) (kf : ¬ x.toInt = 0 → WP g d (pc + 3) ls st I J R Q) : WP g d pc ls (.int x :: st) I J R Q := WP_if_eq tgt h ht (fun q => kt ((eq32 x 0).mp q)) (fun q => kf (fun z => q ((eq32 x 0).mpr z)))
theorem WQ_if_ne {x : Int32} {off : Int} (tgt : Nat) (h : decode (md_c d) pc = .ok (.ifCond .ne off, 3)) (ht : (pc : Int) + off = (tgt : Int)) (kt : ¬ x.toInt = 0 → WP g d tgt ls st I J R Q) (kf : x.toInt = 0 → WP g d (pc + 3) ls st I J R Q) : WP g d pc ls (.int x :: st) I J R Q := WP_if_ne tgt h ht (fun q => kt (fun z => q ((eq32 x 0).mpr z))) (fun q => kf ((eq32 x 0).mp q))
theorem WQ_if_lt {x : Int32} {off : Int} (tgt : Nat) (h : decode (md_c d) pc = .ok (.ifCond .lt off, 3)) (ht : (pc : Int) + off = (tgt : Int)) (kt : x.toInt < 0 → WP g d tgt ls st I J R Q) (kf : ¬ x.toInt < 0 → WP g d (pc + 3) ls st I J R Q) : WP g d pc ls (.int x :: st) I J R Q := WP_if_lt tgt h ht (fun q => kt ((lt32 x 0).mp q)) (fun q => kf (fun z => q ((lt32 x 0).mpr z)))
theorem WQ_if_ge {x : Int32} {off : Int} (tgt : Nat) (h : decode (md_c d) pc = .ok (.ifCond .ge off, 3)) (ht : (pc : Int) + off = (tgt : Int)) (kt : 0 ≤ x.toInt → WP g d tgt ls st I J R Q) (kf : ¬ 0 ≤ x.toInt → WP g d (pc + 3) ls st I J R Q) : WP g d pc ls (.int x :: st) I J R Q := WP_if_ge tgt h ht (fun q => kt ((le32 0 x).mp q)) (fun q => kf (fun z => q ((le32 0 x).mpr z)))
theorem WQ_if_gt {x : Int32} {off : Int} (tgt : Nat) (h : decode (md_c d) pc = .ok (.ifCond .gt off, 3)) (ht : (pc : Int) + off = (tgt : Int)) (kt : 0 < x.toInt → WP g d tgt ls st I J R Q) (kf : ¬ 0 < x.toInt → WP g d (pc + 3) ls st I J R Q) : WP g d pc ls (.int x :: st) I J R Q := WP_if_gt tgt h ht (fun q => kt ((lt32 0 x).mp q)) (fun q => kf (fun z => q ((lt32 0 x).mpr z)))
theorem WQ_if_le {x : Int32} {off : Int} (tgt : Nat) (h : decode (md_c d) pc = .ok (.ifCond .le off, 3)) (ht : (pc : Int) + off = (tgt : Int)) (kt : x.toInt ≤ 0 → WP g d tgt ls st I J R Q) (kf : ¬ x.toInt ≤ 0 → WP g d (pc + 3) ls st I J R Q) : WP g d pc ls (.int x :: st) I J R Q := WP_if_le tgt h ht (fun q => kt ((le32 x 0).mp q)) (fun q => kf (fun z => q ((le32 x 0).mpr z)))
theorem WQ_icmp_eq {x y : Int32} {off : Int} (tgt : Nat) (h : decode (md_c d) pc = .ok (.if_icmp .eq off, 3)) (ht : (pc : Int) + off = (tgt : Int)) (kt : x.toInt = y.toInt → WP g d tgt ls st I J R Q) (kf : ¬ x.toInt = y.toInt → WP g d (pc + 3) ls st I J R Q) : WP g d pc ls (.int y :: .int x :: st) I J R Q := WP_icmp_eq tgt h ht (fun q => kt ((eq32 x y).mp q)) (fun q => kf (fun z => q ((eq32 x y).mpr z)))
theorem WQ_icmp_ne {x y : Int32} {off : Int} (tgt : Nat) (h : decode (md_c d) pc = .ok (.if_icmp .ne off, 3)) (ht : (pc : Int) + off = (tgt : Int)) (kt : ¬ x.toInt = y.toInt → WP g d tgt ls st I J R Q) (kf : x.toInt = y.toInt → WP g d (pc + 3) ls st I J R Q) : WP g d pc ls (.int y :: .int x :: st) I J R Q := WP_icmp_ne tgt h ht (fun q => kt (fun z => q ((eq32 x y).mpr z))) (fun q => kf ((eq32 x y).mp q))
theorem WQ_icmp_lt {x y : Int32} {off : Int} (tgt : Nat) (h : decode (md_c d) pc = .ok (.if_icmp .lt off, 3)) (ht : (pc : Int) + off = (tgt : Int)) (kt : x.toInt < y.toInt → WP g d tgt ls st I J R Q) (kf : ¬ x.toInt < y.toInt → WP g d (pc + 3) ls st I J R Q) : WP g d pc ls (.int y :: .int x :: st) I J R Q := WP_icmp_lt tgt h ht (fun q => kt ((lt32 x y).mp q)) (fun q => kf (fun z => q ((lt32 x y).mpr z)))
theorem WQ_icmp_ge {x y : Int32} {off : Int} (tgt : Nat) (h : decode (md_c d) pc = .ok (.if_icmp .ge off, 3)) (ht : (pc : Int) + off = (tgt : Int)) (kt : y.toInt ≤ x.toInt → WP g d tgt ls st I J R Q) (kf : ¬ y.toInt ≤ x.toInt → WP g d (pc + 3) ls st I J R Q) : WP g d pc ls (.int y :: .int x :: st) I J R Q := WP_icmp_ge tgt h ht (fun q => kt ((le32 y x).mp q)) (fun q => kf (fun z => q ((le32 y x).mpr z)))
theorem WQ_icmp_gt {x y : Int32} {off : Int} (tgt : Nat) (h : decode (md_c d) pc = .ok (.if_icmp .gt off, 3)) (ht : (pc : Int) + off = (tgt : Int)) (kt : y.toInt < x.toInt → WP g d tgt ls st I J R Q) (kf : ¬ y.toInt < x.toInt → WP g d (pc + 3) ls st I J R Q) : WP g d pc ls (.int y :: .int x :: st) I J R Q := WP_icmp_gt tgt h ht (fun q => kt ((lt32 y x).mp q)) (fun q => kf (fun z => q ((lt32 y x).mpr z)))
theorem WQ_icmp_le {x y : Int32} {off : Int} (tgt : Nat) (h : decode (md_c d) pc = .ok (.if_icmp .le off, 3)) (ht : (pc : Int) + off = (tgt : Int)) (kt : x.toInt ≤ y.toInt → WP g d tgt ls st I J R Q) (kf : ¬ x.toInt ≤ y.toInt → WP g d (pc + 3) ls st I J R Q) : WP g d pc ls (.int y :: .int x :: st) I J R Q := WP_icmp_le tgt h ht (fun q => kt ((le32 x y).mp q)) (fun q => kf (fun z => q ((le32 x y).mpr z)))
theorem WQ_geti {idx k q a : Nat} {lo hi : Int} (h : decode (md_c d) pc = .ok (.getfield idx, 3)) (f : fl (md_o d) idx k q) (ht : pw_v (pw_ty k q) = fun i _ _ => .int i) (ha : g_is g a k) (hb : lo ≤ (I a q).toInt ∧ (I a q).toInt ≤ hi) (kk : ∀ v : Int32, I a q = v → lo ≤ v.toInt → v.toInt ≤ hi → WP g d (pc + 3) ls (.int v :: st) I J R Q) : WP g d pc ls (.ref a :: st) I J R Q := WP_geti h f ht ha (kk _ rfl hb.1 hb.2)
theorem WQ_getiu {idx k q a : Nat} (h : decode (md_c d) pc = .ok (.getfield idx, 3)) (f : fl (md_o d) idx k q) (ht : pw_v (pw_ty k q) = fun i _ _ => .int i) (ha : g_is g a k) (kk : ∀ v : Int32, I a q = v → WP g d (pc + 3) ls (.int v :: st) I J R Q) : WP g d pc ls (.ref a :: st) I J R Q := WP_geti h f ht ha (kk _ rfl)
theorem WQ_getim {idx k q a : Nat} {v : Int32} (h : decode (md_c d) pc = .ok (.getfield idx, 3)) (f : fl (md_o d) idx k q) (ht : pw_v (pw_ty k q) = fun i _ _ => .int i) (ha : g_is g a k) (he : I a q = v) (kk : WP g d (pc + 3) ls (.int v :: st) I J R Q) : WP g d pc ls (.ref a :: st) I J R Q := WP_geti h f ht ha (by rw [he]; exact kk)
theorem WQ_getl {idx k q a : Nat} (h : decode (md_c d) pc = .ok (.getfield idx, 3)) (f : fl (md_o d) idx k q) (ht : pw_v (pw_ty k q) = fun _ j _ => .long j) (ha : g_is g a k) (kk : ∀ v : Int64, J a q = v → WP g d (pc + 3) ls (.long v :: st) I J R Q) : WP g d pc ls (.ref a :: st) I J R Q := WP_getl h f ht ha (kk _ rfl)
theorem WQ_puti {idx k q a : Nat} {x : Int32} (h : decode (md_c d) pc = .ok (.putfield idx, 3)) (f : fl (md_o d) idx k q) (hf : (pw_T k q).2.2.2 = false) (ht : pw_ty k q = .int) (ha : g_is g a k) (kk : ∀ I2 : pI, I2 = pp I a q x → WP g d (pc + 3) ls st I2 J R Q) : WP g d pc ls (.int x :: .ref a :: st) I J R Q := WP_puti h f hf ht ha (kk _ rfl)
theorem WQ_putz {idx k q a : Nat} {x : Int32} (h : decode (md_c d) pc = .ok (.putfield idx, 3)) (f : fl (md_o d) idx k q) (hf : (pw_T k q).2.2.2 = false) (ht : pw_ty k q = .boolean) (hx : x.toInt = 0 ∨ x.toInt = 1) (ha : g_is g a k) (kk : ∀ I2 : pI, I2 = pp I a q x → WP g d (pc + 3) ls st I2 J R Q) : WP g d pc ls (.int x :: .ref a :: st) I J R Q :=
  WP_putz h f hf ht (hx.elim (fun e => Or.inl ((eq32 x 0).mpr e)) (fun e => Or.inr ((eq32 x 1).mpr e))) ha (kk _ rfl)
theorem WQ_putl {idx k q a : Nat} {x : Int64} (h : decode (md_c d) pc = .ok (.putfield idx, 3)) (f : fl (md_o d) idx k q) (hf : (pw_T k q).2.2.2 = false) (ht : pw_ty k q = .long) (ha : g_is g a k) (kk : ∀ J2 : pJ, J2 = pp J a q x → WP g d (pc + 3) ls st I J2 R Q) : WP g d pc ls (.long x :: .ref a :: st) I J R Q := WP_putl h f hf ht ha (kk _ rfl)
theorem WQ_iald {a n : Nat} {i : Int32} {lo hi : Int} (h : decode (md_c d) pc = .ok (.iaload, 1)) (ha : g_is g a 13) (hn : g_n g a = n) (h0 : 0 ≤ i.toInt) (h1 : i.toInt < n) (hb : ∀ q, q < n → lo ≤ (I a q).toInt ∧ (I a q).toInt ≤ hi) (kk : ∀ v : Int32, lo ≤ v.toInt → v.toInt ≤ hi → I a i.toNatClampNeg = v → WP g d (pc + 1) ls (.int v :: st) I J R Q) : WP g d pc ls (.int i :: .ref a :: st) I J R Q := by
  have hc : i.toNatClampNeg < n := by
    have e : i.toNatClampNeg = i.toInt.toNat := cl (by omega)
    rw [e]
    omega
  exact WP_iald h ha (by rw [hn]; exact vin h0 h1) (kk _ (hb _ hc).1 (hb _ hc).2 rfl)
theorem WQ_ialdm {a n z : Nat} {i v : Int32} (h : decode (md_c d) pc = .ok (.iaload, 1)) (ha : g_is g a 13) (hn : g_n g a = n) (hz : i.toInt = (z : Int)) (h1 : z < n) (he : I a z = v) (kk : WP g d (pc + 1) ls (.int v :: st) I J R Q) : WP g d pc ls (.int i :: .ref a :: st) I J R Q := WP_iald h ha (by rw [hn]; exact vin (by omega) (by omega)) (by rw [cl hz, he]; exact kk)
theorem WQ_ialdf {a n q : Nat} {i : Int32} {lo hi : Int} (h : decode (md_c d) pc = .ok (.iaload, 1)) (ha : g_is g a 13) (hn : g_n g a = n) (h0 : 0 ≤ i.toInt) (h1 : i.toInt < n) (hq : i.toInt = (q : Int)) (hb : lo ≤ (I a q).toInt ∧ (I a q).toInt ≤ hi) (kk : ∀ v : Int32, lo ≤ v.toInt → v.toInt ≤ hi → WP g d (pc + 1) ls (.int v :: st) I J R Q) : WP g d pc ls (.int i :: .ref a :: st) I J R Q := by
  refine WP_iald h ha (by rw [hn]; exact vin h0 h1) ?_
  rw [cl hq]
  exact kk _ hb.1 hb.2
theorem WQ_ialdr {A n a b : Nat} {i : Int32} {lo hi : Int} (h : decode (md_c d) pc = .ok (.iaload, 1)) (ha : g_is g A 13) (hn : g_n g A = n) (h0 : 0 ≤ i.toInt) (h1 : i.toInt < n) (h2 : (a : Int) ≤ i.toInt) (h3 : i.toInt < (b : Int)) (hb : ∀ q, a ≤ q → q < b → lo ≤ (I A q).toInt ∧ (I A q).toInt ≤ hi) (kk : ∀ v : Int32, lo ≤ v.toInt → v.toInt ≤ hi → WP g d (pc + 1) ls (.int v :: st) I J R Q) : WP g d pc ls (.int i :: .ref A :: st) I J R Q := by
  have e : i.toNatClampNeg = i.toInt.toNat := cl (by omega)
  have q := hb i.toInt.toNat (by omega) (by omega)
  refine WP_iald h ha (by rw [hn]; exact vin h0 h1) ?_
  rw [e]
  exact kk _ q.1 q.2
theorem WQ_zaldu {a n : Nat} {i : Int32} (h : decode (md_c d) pc = .ok (.baload, 1)) (ha : g_is g a 15) (hn : g_n g a = n) (h0 : 0 ≤ i.toInt) (h1 : i.toInt < n) (kk : ∀ v : Int32, WP g d (pc + 1) ls (.int v :: st) I J R Q) : WP g d pc ls (.int i :: .ref a :: st) I J R Q := WP_zald h ha (by rw [hn]; exact vin h0 h1) (kk _)
theorem WQ_zast {a n : Nat} {i x : Int32} (h : decode (md_c d) pc = .ok (.bastore, 1)) (ha : g_is g a 15) (hn : g_n g a = n) (h0 : 0 ≤ i.toInt) (h1 : i.toInt < n) (kk : ∀ (I2 : pI) (w : Int32), I2 = pp I a i.toNatClampNeg w → WP g d (pc + 1) ls st I2 J R Q) : WP g d pc ls (.int x :: .int i :: .ref a :: st) I J R Q := WP_zast h ha (by rw [hn]; exact vin h0 h1) (kk _ _ rfl)
theorem WQ_ialde {a n : Nat} {i v : Int32} (h : decode (md_c d) pc = .ok (.iaload, 1)) (ha : g_is g a 13) (hn : g_n g a = n) (h0 : 0 ≤ i.toInt) (h1 : i.toInt < n) (he : I a i.toNatClampNeg = v) (kk : WP g d (pc + 1) ls (.int v :: st) I J R Q) : WP g d pc ls (.int i :: .ref a :: st) I J R Q := WP_iald h ha (by rw [hn]; exact vin h0 h1) (by rw [he]; exact kk)
theorem WQ_copy0 {idx a0 a N : Nat} {sp dp n : Int32} (h : decode (md_c d) pc = .ok (.invokestatic idx, 3)) (hl : Cond.methodLink (md_o d) idx arraycopyName ∈ wsL_law) (hR : 1 ≤ md_f d ∧ (st.map fun v => v.category).sum + 18 ≤ md_q d) (ha0 : g_is g a0 13) (ha : g_is g a 13) (h1 : sp.toInt = 0) (h2 : dp.toInt = 0) (h3 : n.toInt = (N : Int)) (h4 : g_n g a0 = N) (h5 : g_n g a = N)
    (kk : ∀ I2 : pI, (∀ q, q < N → I2 a q = I a0 q) → (∀ b, b ≠ a → I2 b = I b) → WP g d (pc + 3) ls st I2 J R Q) : WP g d pc ls (.int n :: .int dp :: .ref a :: .int sp :: .ref a0 :: st) I J R Q := by
  have e1 : sp.toNatClampNeg = 0 := cl (by omega)
  have e2 : dp.toNatClampNeg = 0 := cl (by omega)
  have e3 : n.toNatClampNeg = N := cl h3
  refine WP_copyi h hl hR ha0 ha (by rw [lt32, h1]; decide) (by rw [lt32, h2]; decide) (by rw [lt32, h3]; simp) (by rw [e1, e3, h4]; omega) (by rw [e2, e3, h5]; omega) ?_
  rw [e1, e2, e3]
  refine kk _ (fun q hq => ?_) (fun b hb => ?_)
  · simp [pcpy, hq]
  · funext q; simp [pcpy, hb]
theorem WQ_ialdu {a n : Nat} {i : Int32} (h : decode (md_c d) pc = .ok (.iaload, 1)) (ha : g_is g a 13) (hn : g_n g a = n) (h0 : 0 ≤ i.toInt) (h1 : i.toInt < n) (kk : ∀ v : Int32, WP g d (pc + 1) ls (.int v :: st) I J R Q) : WP g d pc ls (.int i :: .ref a :: st) I J R Q := WP_iald h ha (by rw [hn]; exact vin h0 h1) (kk _)
theorem WQ_baldu {a n : Nat} {i : Int32} (h : decode (md_c d) pc = .ok (.baload, 1)) (ha : g_is g a 12) (hn : g_n g a = n) (h0 : 0 ≤ i.toInt) (h1 : i.toInt < n) (kk : ∀ v : Int32, WP g d (pc + 1) ls (.int v :: st) I J R Q) : WP g d pc ls (.int i :: .ref a :: st) I J R Q := WP_bald h ha (by rw [hn]; exact vin h0 h1) (kk _)
theorem WQ_laldu {a n : Nat} {i : Int32} (h : decode (md_c d) pc = .ok (.laload, 1)) (ha : g_is g a 14) (hn : g_n g a = n) (h0 : 0 ≤ i.toInt) (h1 : i.toInt < n) (kk : ∀ v : Int64, WP g d (pc + 1) ls (.long v :: st) I J R Q) : WP g d pc ls (.int i :: .ref a :: st) I J R Q := WP_lald h ha (by rw [hn]; exact vin h0 h1) (kk _)
theorem WQ_iast {a n : Nat} {i x : Int32} (h : decode (md_c d) pc = .ok (.iastore, 1)) (ha : g_is g a 13) (hn : g_n g a = n) (h0 : 0 ≤ i.toInt) (h1 : i.toInt < n) (kk : ∀ (I2 : pI), I2 = pp I a i.toNatClampNeg x → WP g d (pc + 1) ls st I2 J R Q) : WP g d pc ls (.int x :: .int i :: .ref a :: st) I J R Q := WP_iast h ha (by rw [hn]; exact vin h0 h1) (kk _ rfl)
theorem WQ_bast {a n : Nat} {i x : Int32} (h : decode (md_c d) pc = .ok (.bastore, 1)) (ha : g_is g a 12) (hn : g_n g a = n) (h0 : 0 ≤ i.toInt) (h1 : i.toInt < n) (kk : ∀ (I2 : pI) (w : Int32), I2 = pp I a i.toNatClampNeg w → WP g d (pc + 1) ls st I2 J R Q) : WP g d pc ls (.int x :: .int i :: .ref a :: st) I J R Q := WP_bast h ha (by rw [hn]; exact vin h0 h1) (kk _ _ rfl)
theorem WQ_last {a n : Nat} {i : Int32} {x : Int64} (h : decode (md_c d) pc = .ok (.lastore, 1)) (ha : g_is g a 14) (hn : g_n g a = n) (h0 : 0 ≤ i.toInt) (h1 : i.toInt < n) (kk : ∀ (J2 : pJ), J2 = pp J a i.toNatClampNeg x → WP g d (pc + 1) ls st I J2 R Q) : WP g d pc ls (.long x :: .int i :: .ref a :: st) I J R Q := WP_last h ha (by rw [hn]; exact vin h0 h1) (kk _ rfl)
theorem WQ_min {idx : Nat} {x y : Int32} (h : decode (md_c d) pc = .ok (.invokestatic idx, 3)) (hl : Cond.methodLink (md_o d) idx Lib.Math.min.name ∈ wsL_law) (hR : 1 ≤ md_f d ∧ (st.map fun v => v.category).sum + 13 ≤ md_q d) (k : ∀ v : Int32, v.toInt ≤ x.toInt → v.toInt ≤ y.toInt → (v.toInt = x.toInt ∨ v.toInt = y.toInt) → WP g d (pc + 3) ls (.int v :: st) I J R Q) : WP g d pc ls (.int y :: .int x :: st) I J R Q := by
  refine WP_min h hl hR ?_
  split
  · rename_i q; exact k _ (by rw [lt32] at q; omega) (Int.le_refl _) (Or.inr rfl)
  · rename_i q; exact k _ (Int.le_refl _) (by rw [lt32] at q; omega) (Or.inl rfl)
theorem WQ_max {idx : Nat} {x y : Int32} (h : decode (md_c d) pc = .ok (.invokestatic idx, 3)) (hl : Cond.methodLink (md_o d) idx Lib.Math.max.name ∈ wsL_law) (hR : 1 ≤ md_f d ∧ (st.map fun v => v.category).sum + 13 ≤ md_q d) (k : ∀ v : Int32, x.toInt ≤ v.toInt → y.toInt ≤ v.toInt → (v.toInt = x.toInt ∨ v.toInt = y.toInt) → WP g d (pc + 3) ls (.int v :: st) I J R Q) : WP g d pc ls (.int y :: .int x :: st) I J R Q := by
  refine WP_max h hl hR ?_
  split
  · rename_i q; exact k _ (by rw [lt32] at q; omega) (Int.le_refl _) (Or.inr rfl)
  · rename_i q; exact k _ (Int.le_refl _) (by rw [lt32] at q; omega) (Or.inl rfl)
theorem WQ_minl {idx : Nat} {x y : Int64} (h : decode (md_c d) pc = .ok (.invokestatic idx, 3)) (hl : Cond.methodLink (md_o d) idx Lib.MathLoose.min_long.x ∈ wsL_law) (hR : 1 ≤ md_f d ∧ (st.map fun v => v.category).sum + 15 ≤ md_q d) (k : ∀ v : Int64, WP g d (pc + 3) ls (.long v :: st) I J R Q) : WP g d pc ls (.long y :: .long x :: st) I J R Q := WP_minl h hl hR (k _)
theorem WQ_maxl {idx : Nat} {x y : Int64} (h : decode (md_c d) pc = .ok (.invokestatic idx, 3)) (hl : Cond.methodLink (md_o d) idx Lib.MathLoose.max_long.x ∈ wsL_law) (hR : 1 ≤ md_f d ∧ (st.map fun v => v.category).sum + 15 ≤ md_q d) (k : ∀ v : Int64, WP g d (pc + 3) ls (.long v :: st) I J R Q) : WP g d pc ls (.long y :: .long x :: st) I J R Q := WP_maxl h hl hR (k _)
theorem nar_z {v : Int32} (h : v.toInt = 0 ∨ v.toInt = 1) : narrow .boolean (.int v) = .int v := by
  rcases h with h | h
  · rw [(eq32 v 0).mpr h]; rfl
  · rw [(eq32 v 1).mpr h]; rfl
theorem ia_n {x : Int32} {n : Int} {w : Int32} (hw : w.toInt = n) (h1 : -2147483648 ≤ x.toInt + n) (h2 : x.toInt + n < 2147483648) : (x + w).toInt = x.toInt + n := by
  subst hw
  exact ia h1 h2
end Rules
