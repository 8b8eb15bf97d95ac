/-! MATH AND SYSTEM -/
section Rules
variable {g : GG} {d : MD} {pc : Nat} {ls : List (Nat × Value)} {st : List Value} {I : pI} {J : pJ} {R : pR} {Q : Post} {idx : Nat}
theorem wl_min : Cond.static Lib.Math.min.name ∈ wsL_law ∧ Cond.initialized "java/lang/Math" ∈ wsL_law ∧ Cond.code Lib.Math.min.name Lib.Math.min.code 2 (some .int) ∈ wsL_law := by decide +kernel
theorem wl_max : Cond.static Lib.Math.max.name ∈ wsL_law ∧ Cond.initialized "java/lang/Math" ∈ wsL_law ∧ Cond.code Lib.Math.max.name Lib.Math.max.code 2 (some .int) ∈ wsL_law := by decide +kernel
theorem wl_minl : Cond.static Lib.MathLoose.min_long.x ∈ wsL_law ∧ Cond.initialized "java/lang/Math" ∈ wsL_law ∧ Cond.code Lib.MathLoose.min_long.x Lib.MathLoose.min_long.code 4 (some .long) ∈ wsL_law := by decide +kernel
theorem wl_maxl : Cond.static Lib.MathLoose.max_long.x ∈ wsL_law ∧ Cond.initialized "java/lang/Math" ∈ wsL_law ∧ Cond.code Lib.MathLoose.max_long.x Lib.MathLoose.max_long.code 4 (some .long) ∈ wsL_law := by decide +kernel
theorem wl_copy : Cond.native arraycopyName ∈ wsL_law ∧ Cond.static arraycopyName ∈ wsL_law ∧ Cond.initialized "java/lang/System" ∈ wsL_law := by decide +kernel
theorem WP_min {x y : Int32} (h : decode (md_c d) pc = .ok (.invokestatic idx, 3)) (hl : Cond.methodLink (md_o d) idx Lib.Math.min.name ∈ wsL_law) (hR : 1 ≤ md_f d ∧ (st.map fun v => v.category).sum + 13 ≤ md_q d) (k : WP g d (pc + 3) ls (.int (if y < x then y else x) :: st) I J R Q) : WP g d pc ls (.int y :: .int x :: st) I J R Q := by
  intro p e s m a b mt c H lo la C
  have ht : ∀ w ∈ wsL_law, w.before a s = true := fun w hw => C.2.2.2.2.2.2.2.1 w (List.mem_cons_of_mem _ hw)
  exact va_mmin C.1 C.2.1 (C.2.2.2.1.trans C.2.2.1.1.symm) C.2.2.2.2.2.2.1 (ht _ hl) (ht _ wl_min.1) (ht _ wl_min.2.1) (ht _ wl_min.2.2) hR.1 hR.2 (Nat.le_refl _) (Nat.le_refl _) h (k p e s m a b mt c H lo la C)
theorem WP_max {x y : Int32} (h : decode (md_c d) pc = .ok (.invokestatic idx, 3)) (hl : Cond.methodLink (md_o d) idx Lib.Math.max.name ∈ wsL_law) (hR : 1 ≤ md_f d ∧ (st.map fun v => v.category).sum + 13 ≤ md_q d) (k : WP g d (pc + 3) ls (.int (if x < y then y else x) :: st) I J R Q) : WP g d pc ls (.int y :: .int x :: st) I J R Q := by
  intro p e s m a b mt c H lo la C
  have ht : ∀ w ∈ wsL_law, w.before a s = true := fun w hw => C.2.2.2.2.2.2.2.1 w (List.mem_cons_of_mem _ hw)
  exact va_mmax C.1 C.2.1 (C.2.2.2.1.trans C.2.2.1.1.symm) C.2.2.2.2.2.2.1 (ht _ hl) (ht _ wl_max.1) (ht _ wl_max.2.1) (ht _ wl_max.2.2) hR.1 hR.2 (Nat.le_refl _) (Nat.le_refl _) h (k p e s m a b mt c H lo la C)
theorem WP_minl {x y : Int64} (h : decode (md_c d) pc = .ok (.invokestatic idx, 3)) (hl : Cond.methodLink (md_o d) idx Lib.MathLoose.min_long.x ∈ wsL_law) (hR : 1 ≤ md_f d ∧ (st.map fun v => v.category).sum + 15 ≤ md_q d) (k : WP g d (pc + 3) ls (.long (if y < x then y else x) :: st) I J R Q) : WP g d pc ls (.long y :: .long x :: st) I J R Q := by
  intro p e s m a b mt c H lo la C
  have ht : ∀ w ∈ wsL_law, w.before a s = true := fun w hw => C.2.2.2.2.2.2.2.1 w (List.mem_cons_of_mem _ hw)
  exact va_mmin_long C.1 C.2.1 (C.2.2.2.1.trans C.2.2.1.1.symm) C.2.2.2.2.2.2.1 (ht _ hl) (ht _ wl_minl.1) (ht _ wl_minl.2.1) (ht _ wl_minl.2.2) hR.1 hR.2 (Nat.le_refl _) (Nat.le_refl _) h (k p e s m a b mt c H lo la C)
theorem WP_maxl {x y : Int64} (h : decode (md_c d) pc = .ok (.invokestatic idx, 3)) (hl : Cond.methodLink (md_o d) idx Lib.MathLoose.max_long.x ∈ wsL_law) (hR : 1 ≤ md_f d ∧ (st.map fun v => v.category).sum + 15 ≤ md_q d) (k : WP g d (pc + 3) ls (.long (if y < x then x else y) :: st) I J R Q) : WP g d pc ls (.long y :: .long x :: st) I J R Q := by
  intro p e s m a b mt c H lo la C
  have ht : ∀ w ∈ wsL_law, w.before a s = true := fun w hw => C.2.2.2.2.2.2.2.1 w (List.mem_cons_of_mem _ hw)
  exact va_mmax_long C.1 C.2.1 (C.2.2.2.1.trans C.2.2.1.1.symm) C.2.2.2.2.2.2.1 (ht _ hl) (ht _ wl_maxl.1) (ht _ wl_maxl.2.1) (ht _ wl_maxl.2.2) hR.1 hR.2 (Nat.le_refl _) (Nat.le_refl _) h (k p e s m a b mt c H lo la C)
/-- a row's places dp .. are another's from sp on -/
def pcpy (I : pI) (a0 a sp dp n : Nat) : pI := fun b q => if b = a then (if dp ≤ q ∧ q < dp + n then I a0 (sp + (q - dp)) else I a q) else I b q
theorem WP_copyi {a0 a : Nat} {sp dp n : Int32} (h : decode (md_c d) pc = .ok (.invokestatic idx, 3)) (hl : Cond.methodLink (md_o d) idx arraycopyName ∈ wsL_law) (hR : 1 ≤ md_f d ∧ (st.map fun v => v.category).sum + 18 ≤ md_q d) (ha0 : g_is g a0 13) (ha : g_is g a 13)
    (h1 : ¬ sp < 0) (h2 : ¬ dp < 0) (h3 : ¬ n < 0) (h4 : sp.toNatClampNeg + n.toNatClampNeg ≤ g_n g a0) (h5 : dp.toNatClampNeg + n.toNatClampNeg ≤ g_n g a)
    (kk : WP g d (pc + 3) ls st (pcpy I a0 a sp.toNatClampNeg dp.toNatClampNeg n.toNatClampNeg) J R Q) : WP g d pc ls (.int n :: .int dp :: .ref a :: .int sp :: .ref a0 :: st) I J R Q := by
  intro p e s m as b mt c H lo la C
  obtain ⟨hx, hb, hlv, hml, hr, hlk, hown, hts, hS, ⟨hnd, hP⟩, hA⟩ := C
  have ht : ∀ w ∈ wsL_law, w.before as s = true := fun w hw => hts w (List.mem_cons_of_mem _ hw)
  obtain ⟨q0, hq0⟩ := g_get (I := I) (J := J) (R := R) ha0.1
  obtain ⟨q1, hq1⟩ := g_get (I := I) (J := J) (R := R) ha.1
  have hk0 := hq0
  have hk1 := hq1
  rw [g_F_int ha0.2 (Or.inr (Or.inl rfl))] at hk0
  rw [g_F_int ha.2 (Or.inr (Or.inl rfl))] at hk1
  refine va_copyi hx hb (hml.trans hlv.1.symm) hown (ht _ hl) (ht _ wl_copy.1) (ht _ wl_copy.2.1) (ht _ wl_copy.2.2) hS.1 hP (g_apart hnd _) hA q0 q1 1 1 hk0 hk1 rfl rfl rfl h1 h2 h3 h4 h5 (fun i _ => rfl) hR.1 hR.2 h (fun H1 lo1 hP1 hD1 hS1 => ?_)
  have hw : (g_W g I J R).set q1 (a, .inl (g_cy g 13, g_n g a, .inl (va_cpy (I a0) (I a) sp.toNatClampNeg dp.toNatClampNeg n.toNatClampNeg))) = g_W g (pcpy I a0 a sp.toNatClampNeg dp.toNatClampNeg n.toNatClampNeg) J R := by
    refine g_set hnd ha.1 hq1 ?_ (fun b hb => g_F_off (by funext q; simp [pcpy, hb]) rfl rfl)
    rw [g_F_int ha.2 (Or.inr (Or.inl rfl))]
    have e1 : pcpy I a0 a sp.toNatClampNeg dp.toNatClampNeg n.toNatClampNeg a = va_cpy (I a0) (I a) sp.toNatClampNeg dp.toNatClampNeg n.toNatClampNeg := by funext q; simp [pcpy, va_cpy]
    rw [e1]
  have hP2 : va_P (g_D g) vwCl (g_W g (pcpy I a0 a sp.toNatClampNeg dp.toNatClampNeg n.toNatClampNeg) J R) H1 := hw ▸ hP1
  exact kk p e s m as b mt c H1 lo1 la ⟨hx, hb, hlv, hml, hr, hlk, hown, hts, hS, ⟨hnd, hP2⟩, hS1⟩
theorem WP_tabOut {dflt lo hi : Int} {offs : Array Int} {len : Nat} {x : Int32} (tgt : Nat) (h : decode (md_c d) pc = .ok (.tableswitch dflt lo hi offs, len)) (hx : x.toInt < lo ∨ hi < x.toInt) (ht : (pc : Int) + dflt = (tgt : Int)) (k : WP g d tgt ls st I J R Q) : WP g d pc ls (.int x :: st) I J R Q :=
  fun p e s m a b mt c H lo2 la C => lv_tableOut C.1 C.2.1 h hx ht (k p e s m a b mt c H lo2 la C)
theorem WP_tabIn {dflt lo hi : Int} {offs : Array Int} {len : Nat} {x : Int32} {off : Int} (tgt : Nat) (h : decode (md_c d) pc = .ok (.tableswitch dflt lo hi offs, len)) (h1 : ¬ x.toInt < lo) (h2 : ¬ hi < x.toInt) (ho : offs[(x.toInt - lo).toNat]? = some off) (ht : (pc : Int) + off = (tgt : Int)) (k : WP g d tgt ls st I J R Q) : WP g d pc ls (.int x :: st) I J R Q :=
  fun p e s m a b mt c H lo2 la C => lv_tableIn C.1 C.2.1 h h1 h2 ho ht (k p e s m a b mt c H lo2 la C)
/-- the switch, target by target -/
theorem WP_tab {dflt lo hi : Int} {offs : Array Int} {len : Nat} {x : Int32} (tgt : Nat) (h : decode (md_c d) pc = .ok (.tableswitch dflt lo hi offs, len)) (ht : (pc : Int) + dflt = (tgt : Int)) (hs : (offs.size : Int) = hi - lo + 1)
    (kd : x.toInt < lo ∨ hi < x.toInt → WP g d tgt ls st I J R Q) (kk : ∀ (j : Nat) (off : Int), x.toInt = lo + j → offs[j]? = some off → WP g d ((pc : Int) + off).toNat ls st I J R Q) (hp : ∀ off ∈ offs, 0 ≤ (pc : Int) + off) : WP g d pc ls (.int x :: st) I J R Q := by
  by_cases h1 : x.toInt < lo
  · exact WP_tabOut tgt h (Or.inl h1) ht (kd (Or.inl h1))
  · by_cases h2 : hi < x.toInt
    · exact WP_tabOut tgt h (Or.inr h2) ht (kd (Or.inr h2))
    · have hj : (x.toInt - lo).toNat < offs.size := by omega
      have ho : offs[(x.toInt - lo).toNat]? = some offs[(x.toInt - lo).toNat] := Array.getElem?_eq_getElem hj
      have hq := hp _ (Array.getElem_mem hj)
      exact WP_tabIn _ h h1 h2 ho (by omega) (kk _ _ (by omega) ho)
end Rules
