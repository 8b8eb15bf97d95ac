/-! THE TEXTS AT THE START -/
def cfl : Cond → List Cond
  | .and a b => cfl a ++ cfl b
  | c => [c]
theorem cfl_spec {args : Array Value} {s : State} (c : Cond) : c.before args s = true → ∀ w ∈ cfl c, w.before args s = true := by
  induction c using cfl.induct with
  | case1 a b iha ihb =>
    intro h w hw
    rw [cfl, List.mem_append] at hw
    rw [Cond.before_and, Bool.and_eq_true] at h
    rcases hw with hw | hw
    · exact iha h.1 w hw
    · exact ihb h.2 w hw
  | case2 c hc =>
    intro h w hw
    rw [cfl.eq_2 c hc, List.mem_singleton] at hw
    rw [hw]
    exact h
def sTm (i : Nat) : Term := .string (liT.getD i ("", 0, "")).1 (liT.getD i ("", 0, "")).2.1
def sVa (i : Nat) : Term := .field (sTm i) "java/lang/String" "value" "[B"
def sCo (i : Nat) : List Cond := [.exactly (sTm i) "java/lang/String", .eq (.field (sTm i) "java/lang/String" "coder" "B") (.int 0), .arrayOf (sVa i) .byte, .eq (.length (sVa i)) (.int (Int32.ofNat (liN.getD i 0)))]
def sEl (i j : Nat) : Cond := .eq (.elem (sVa i) (.int (Int32.ofNat j))) (.int ((liB.getD i []).getD j 0))
set_option maxRecDepth 100000 in
theorem wst_in : ∀ i, i < 32 → (∀ w ∈ sCo i, w ∈ cfl narrow_1) ∧ ∀ j, j < liN.getD i 0 → sEl i j ∈ cfl narrow_1 := by decide +kernel
set_option maxRecDepth 100000 in
theorem wst_rf : ∀ i, i < 32 → Cond.stringRef (liT.getD i ("", 0, "")).1 (liT.getD i ("", 0, "")).2.1 (liT.getD i ("", 0, "")).2.2 ∈ lw_tbl := by decide +kernel
theorem li_31 : ∀ i, i < 32 → liN.getD i 0 < 2 ^ 31 := by decide
theorem SO_of {args : Array Value} {s : State} {A : Nat → Prop} {i : Nat} (hi : i < 32) (h : ∀ w ∈ cfl narrow_1, w.before args s = true) (hA : ∀ a : Nat, a < s.heap.size → ¬ A a) : ∃ q : Nat × Nat, (sTm i).eval args s none [] s = some (.ref q.1) ∧ SO i q.1 q.2 A s s.heap := by
  have k := wst_in i hi
  have hex := h _ (k.1 _ (List.mem_cons_self ..))
  have hco := h _ (k.1 _ (List.mem_cons_of_mem _ (List.mem_cons_self ..)))
  have har := h _ (k.1 _ (List.mem_cons_of_mem _ (List.mem_cons_of_mem _ (List.mem_cons_self ..))))
  have hle := h _ (k.1 _ (List.mem_cons_of_mem _ (List.mem_cons_of_mem _ (List.mem_cons_of_mem _ (List.mem_cons_self ..)))))
  obtain ⟨a, c, cA, kA, q1, q2, q3, q4, q5, q6, -⟩ := Cond.exactly_spec (args := args) (first := s) (o := none) (s := s) (idx := []) (t := sTm i) (cls := "java/lang/String") hex
  obtain ⟨t, ht, hT⟩ := va_Tof (f := fun j => .int ((liB.getD i []).getD j 0)) (A := A) (li_31 i hi) har (va_eqt hle) (fun j hj => va_eqt (h _ (k.2 j hj))) hA
  exact ⟨(a, t), q1, ⟨cA, q3, q5, by rw [q6]; exact q2, hA a (Array.getElem?_eq_some_iff.mp q3).1⟩, vk_OFof q1 (va_eqt hco) hA, vk_OFof q1 ht hA, hT⟩
theorem liT_at {i : Nat} {e : String × Nat × String} (h : liT[i]? = some e) : i < 32 ∧ liT.getD i ("", 0, "") = e := by
  refine ⟨(List.getElem?_eq_some_iff.mp h).1, ?_⟩
  rw [List.getD_eq_getElem?_getD, h]
  rfl
theorem STR_start {args : Array Value} {s : State} (hts : ∀ w ∈ lw_tbl, w.before args s = true) (hgv : (Jvm.Cond.and given_1 narrow_1).before args s = true) : ∃ (aK aV : Nat → Nat) (fo : Option Nat), STR aK aV fo (fun q => s.heap.size ≤ q) s := by
  rw [Cond.before_and, Bool.and_eq_true] at hgv
  have h := cfl_spec narrow_1 hgv.2
  have hA : ∀ a : Nat, a < s.heap.size → ¬ s.heap.size ≤ a := fun a h1 h2 => absurd h1 (Nat.not_lt.mpr h2)
  have h0 : ∀ i : Nat, ∃ q : Nat × Nat, i < 32 → (sTm i).eval args s none [] s = some (.ref q.1) ∧ SO i q.1 q.2 (fun q => s.heap.size ≤ q) s s.heap := fun i => by
    by_cases hi : i < 32
    · obtain ⟨q, hq⟩ := SO_of (A := fun q => s.heap.size ≤ q) hi h hA
      exact ⟨q, fun _ => hq⟩
    · exact ⟨(0, 0), fun z => absurd z hi⟩
  obtain ⟨ad9, had⟩ := Classical.axiomOfChoice h0
  have hz := va_Zof (A := fun q => s.heap.size ≤ q) (hts (.laysStatic "java/lang/String" "COMPACT_STRINGS" "Z") (by decide +kernel)) (hts (.initialized "java/lang/String") (by decide +kernel)) (va_eqi (z := 1) (h _ (by decide +kernel))) hA
  have hq := va_Zqof (A := fun q => s.heap.size ≤ q) (hts (.laysStatic "jdk/internal/util/Preconditions" "SIOOBE_FORMATTER" "Ljava/util/function/BiFunction;") (by decide +kernel)) (hts (.initialized "jdk/internal/util/Preconditions") (by decide +kernel)) (h _ (by decide +kernel)) hA
  have hR : ∀ (i : Nat) (e : String × Nat × String), liT[i]? = some e → vk_R e.1 e.2.1 e.2.2 (ad9 i).1 s := fun i e he => by
    obtain ⟨hi, rfl⟩ := liT_at he
    exact vk_R.of (hts _ (wst_rf i hi)) (had i hi).1
  rcases hq with hq | ⟨t, hq⟩
  · exact ⟨fun i => (ad9 i).1, fun i => (ad9 i).2, none, fun i hi => (had i hi).2, hR, hz, hq⟩
  · exact ⟨fun i => (ad9 i).1, fun i => (ad9 i).2, some t, fun i hi => (had i hi).2, hR, hz, hq⟩
