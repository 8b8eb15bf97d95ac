/-! THE TEXTS AT THE START -/
def cfl : Cond → List Cond
  | .and a b => cfl a ++ cfl b
  | c => [c]
theorem cfl_spec {args : Array Value} {s : State} (c : Cond) : c.before args s = true → ∀ w ∈ cfl c, w.before args s = true := by
  induction c using cfl.induct with
  | case1 a b iha ihb =>
    intro h w hw
    rw [cfl, List.mem_append] at hw
    rw [Cond.before_and, Bool.and_eq_true] at h
    rcases hw with hw | hw
    · exact iha h.1 w hw
    · exact ihb h.2 w hw
  | case2 c hc =>
    intro h w hw
    rw [cfl.eq_2 c hc, List.mem_singleton] at hw
    rw [hw]
    exact h
def sTm (i : Nat) : Term := .string (liT.getD i ("", 0, "")).1 (liT.getD i ("", 0, "")).2.1
def sVa (i : Nat) : Term := .field (sTm i) "java/lang/String" "value" "[B"
def sCo (i : Nat) : List Cond := [.exactly (sTm i) "java/lang/String", .eq (.field (sTm i) "java/lang/String" "coder" "B") (.int 0), .arrayOf (sVa i) .byte, .eq (.length (sVa i)) (.int (Int32.ofNat (liN.getD i 0)))]
def sEl (i j : Nat) : Cond := .eq (.elem (sVa i) (.int (Int32.ofNat j))) (.int ((liB.getD i []).getD j 0))
theorem wpl {big ws : List Cond} (ps : List Nat) (h : ps.map (fun i => big[i]?) = ws.map some) : ∀ w ∈ ws, w ∈ big := fun w hw => by
  have h1 : some w ∈ ws.map some := List.mem_map.mpr ⟨w, hw, rfl⟩
  rw [← h] at h1
  obtain ⟨i, -, hi⟩ := List.mem_map.mp h1
  exact List.mem_of_getElem? hi
set_option maxRecDepth 100000 in
theorem wst_0 : ∀ w ∈ sCo 0 ++ (List.range (liN.getD 0 0)).map (sEl 0), w ∈ cfl narrow_1 := wpl [7, 8, 9, 10, 11, 12, 13] (by decide +kernel)
set_option maxRecDepth 100000 in
theorem wst_1 : ∀ w ∈ sCo 1 ++ (List.range (liN.getD 1 0)).map (sEl 1), w ∈ cfl narrow_1 := wpl [14, 15, 16, 17, 18, 19, 20, 21] (by decide +kernel)
set_option maxRecDepth 100000 in
theorem wst_2 : ∀ w ∈ sCo 2 ++ (List.range (liN.getD 2 0)).map (sEl 2), w ∈ cfl narrow_1 := wpl [22, 23, 24, 25, 26, 27, 28, 29, 30] (by decide +kernel)
set_option maxRecDepth 100000 in
theorem wst_3 : ∀ w ∈ sCo 3 ++ (List.range (liN.getD 3 0)).map (sEl 3), w ∈ cfl narrow_1 := wpl [31, 32, 33, 34, 35, 36, 37, 38] (by decide +kernel)
set_option maxRecDepth 100000 in
theorem wst_4 : ∀ w ∈ sCo 4 ++ (List.range (liN.getD 4 0)).map (sEl 4), w ∈ cfl narrow_1 := wpl [39, 40, 41, 42, 43, 44, 45, 46, 47] (by decide +kernel)
set_option maxRecDepth 100000 in
theorem wst_5 : ∀ w ∈ sCo 5 ++ (List.range (liN.getD 5 0)).map (sEl 5), w ∈ cfl narrow_1 := wpl [48, 49, 50, 51, 52, 53, 54, 55] (by decide +kernel)
set_option maxRecDepth 100000 in
theorem wst_6 : ∀ w ∈ sCo 6 ++ (List.range (liN.getD 6 0)).map (sEl 6), w ∈ cfl narrow_1 := wpl [56, 57, 58, 59, 60, 61, 62, 63] (by decide +kernel)
set_option maxRecDepth 100000 in
theorem wst_7 : ∀ w ∈ sCo 7 ++ (List.range (liN.getD 7 0)).map (sEl 7), w ∈ cfl narrow_1 := wpl [64, 65, 66, 67, 68, 69, 70] (by decide +kernel)
set_option maxRecDepth 100000 in
theorem wst_8 : ∀ w ∈ sCo 8 ++ (List.range (liN.getD 8 0)).map (sEl 8), w ∈ cfl narrow_1 := wpl [71, 72, 73, 74, 75, 76, 77, 78, 79] (by decide +kernel)
set_option maxRecDepth 100000 in
theorem wst_9 : ∀ w ∈ sCo 9 ++ (List.range (liN.getD 9 0)).map (sEl 9), w ∈ cfl narrow_1 := wpl [80, 81, 82, 83, 84, 85, 86, 87, 88] (by decide +kernel)
set_option maxRecDepth 100000 in
theorem wst_10 : ∀ w ∈ sCo 10 ++ (List.range (liN.getD 10 0)).map (sEl 10), w ∈ cfl narrow_1 := wpl [89, 90, 91, 92, 93, 94] (by decide +kernel)
set_option maxRecDepth 100000 in
theorem wst_11 : ∀ w ∈ sCo 11 ++ (List.range (liN.getD 11 0)).map (sEl 11), w ∈ cfl narrow_1 := wpl [95, 96, 97, 98, 99, 100, 101, 102] (by decide +kernel)
set_option maxRecDepth 100000 in
theorem wst_12 : ∀ w ∈ sCo 12 ++ (List.range (liN.getD 12 0)).map (sEl 12), w ∈ cfl narrow_1 := wpl [103, 104, 105, 106, 107, 108, 109] (by decide +kernel)
set_option maxRecDepth 100000 in
theorem wst_13 : ∀ w ∈ sCo 13 ++ (List.range (liN.getD 13 0)).map (sEl 13), w ∈ cfl narrow_1 := wpl [110, 111, 112, 113, 114, 115, 116] (by decide +kernel)
set_option maxRecDepth 100000 in
theorem wst_14 : ∀ w ∈ sCo 14 ++ (List.range (liN.getD 14 0)).map (sEl 14), w ∈ cfl narrow_1 := wpl [117, 118, 119, 120, 121, 122, 123] (by decide +kernel)
set_option maxRecDepth 100000 in
theorem wst_15 : ∀ w ∈ sCo 15 ++ (List.range (liN.getD 15 0)).map (sEl 15), w ∈ cfl narrow_1 := wpl [124, 125, 126, 127, 128, 129, 130] (by decide +kernel)
set_option maxRecDepth 100000 in
theorem wst_16 : ∀ w ∈ sCo 16 ++ (List.range (liN.getD 16 0)).map (sEl 16), w ∈ cfl narrow_1 := wpl [131, 132, 133, 134, 135, 136, 137, 138, 139] (by decide +kernel)
set_option maxRecDepth 100000 in
theorem wst_17 : ∀ w ∈ sCo 17 ++ (List.range (liN.getD 17 0)).map (sEl 17), w ∈ cfl narrow_1 := wpl [140, 141, 142, 143, 144, 145] (by decide +kernel)
set_option maxRecDepth 100000 in
theorem wst_18 : ∀ w ∈ sCo 18 ++ (List.range (liN.getD 18 0)).map (sEl 18), w ∈ cfl narrow_1 := wpl [146, 147, 148, 149, 150] (by decide +kernel)
set_option maxRecDepth 100000 in
theorem wst_19 : ∀ w ∈ sCo 19 ++ (List.range (liN.getD 19 0)).map (sEl 19), w ∈ cfl narrow_1 := wpl [151, 152, 153, 154, 155] (by decide +kernel)
set_option maxRecDepth 100000 in
theorem wst_20 : ∀ w ∈ sCo 20 ++ (List.range (liN.getD 20 0)).map (sEl 20), w ∈ cfl narrow_1 := wpl [156, 157, 158, 159, 160, 161, 162, 163, 164] (by decide +kernel)
set_option maxRecDepth 100000 in
theorem wst_21 : ∀ w ∈ sCo 21 ++ (List.range (liN.getD 21 0)).map (sEl 21), w ∈ cfl narrow_1 := wpl [165, 166, 167, 168, 169, 170] (by decide +kernel)
set_option maxRecDepth 100000 in
theorem wst_22 : ∀ w ∈ sCo 22 ++ (List.range (liN.getD 22 0)).map (sEl 22), w ∈ cfl narrow_1 := wpl [171, 172, 173, 174, 175, 176, 177] (by decide +kernel)
set_option maxRecDepth 100000 in
theorem wst_23 : ∀ w ∈ sCo 23 ++ (List.range (liN.getD 23 0)).map (sEl 23), w ∈ cfl narrow_1 := wpl [179, 180, 181, 182, 183, 184, 185, 186] (by decide +kernel)
set_option maxRecDepth 100000 in
theorem wst_24 : ∀ w ∈ sCo 24 ++ (List.range (liN.getD 24 0)).map (sEl 24), w ∈ cfl narrow_1 := wpl [188, 189, 190, 191, 192, 193, 194, 195, 196] (by decide +kernel)
set_option maxRecDepth 100000 in
theorem wst_25 : ∀ w ∈ sCo 25 ++ (List.range (liN.getD 25 0)).map (sEl 25), w ∈ cfl narrow_1 := wpl [198, 199, 200, 201, 202, 203, 204, 205] (by decide +kernel)
set_option maxRecDepth 100000 in
theorem wst_26 : ∀ w ∈ sCo 26 ++ (List.range (liN.getD 26 0)).map (sEl 26), w ∈ cfl narrow_1 := wpl [207, 208, 209, 210, 211, 212, 213, 214, 215] (by decide +kernel)
set_option maxRecDepth 100000 in
theorem wst_27 : ∀ w ∈ sCo 27 ++ (List.range (liN.getD 27 0)).map (sEl 27), w ∈ cfl narrow_1 := wpl [217, 218, 219, 220, 221, 222, 223, 224] (by decide +kernel)
set_option maxRecDepth 100000 in
theorem wst_28 : ∀ w ∈ sCo 28 ++ (List.range (liN.getD 28 0)).map (sEl 28), w ∈ cfl narrow_1 := wpl [226, 227, 228, 229, 230, 231, 232, 233] (by decide +kernel)
set_option maxRecDepth 100000 in
theorem wst_29 : ∀ w ∈ sCo 29 ++ (List.range (liN.getD 29 0)).map (sEl 29), w ∈ cfl narrow_1 := wpl [235, 236, 237, 238, 239, 240, 241] (by decide +kernel)
set_option maxRecDepth 100000 in
theorem wst_30 : ∀ w ∈ sCo 30 ++ (List.range (liN.getD 30 0)).map (sEl 30), w ∈ cfl narrow_1 := wpl [243, 244, 245, 246, 247, 248, 249, 250, 251] (by decide +kernel)
set_option maxRecDepth 100000 in
theorem wst_31 : ∀ w ∈ sCo 31 ++ (List.range (liN.getD 31 0)).map (sEl 31), w ∈ cfl narrow_1 := wpl [253, 254, 255, 256, 257, 258, 259, 260, 261] (by decide +kernel)
theorem wst_al : ∀ i, i < 32 → ∀ w ∈ sCo i ++ (List.range (liN.getD i 0)).map (sEl i), w ∈ cfl narrow_1 := fun i hi => by
  rcases (show i = 0 ∨ i = 1 ∨ i = 2 ∨ i = 3 ∨ i = 4 ∨ i = 5 ∨ i = 6 ∨ i = 7 ∨ i = 8 ∨ i = 9 ∨ i = 10 ∨ i = 11 ∨ i = 12 ∨ i = 13 ∨ i = 14 ∨ i = 15 ∨ i = 16 ∨ i = 17 ∨ i = 18 ∨ i = 19 ∨ i = 20 ∨ i = 21 ∨ i = 22 ∨ i = 23 ∨ i = 24 ∨ i = 25 ∨ i = 26 ∨ i = 27 ∨ i = 28 ∨ i = 29 ∨ i = 30 ∨ i = 31 by omega) with rfl | rfl | rfl | rfl | rfl | rfl | rfl | rfl | rfl | rfl | rfl | rfl | rfl | rfl | rfl | rfl | rfl | rfl | rfl | rfl | rfl | rfl | rfl | rfl | rfl | rfl | rfl | rfl | rfl | rfl | rfl | rfl
  · exact wst_0
  · exact wst_1
  · exact wst_2
  · exact wst_3
  · exact wst_4
  · exact wst_5
  · exact wst_6
  · exact wst_7
  · exact wst_8
  · exact wst_9
  · exact wst_10
  · exact wst_11
  · exact wst_12
  · exact wst_13
  · exact wst_14
  · exact wst_15
  · exact wst_16
  · exact wst_17
  · exact wst_18
  · exact wst_19
  · exact wst_20
  · exact wst_21
  · exact wst_22
  · exact wst_23
  · exact wst_24
  · exact wst_25
  · exact wst_26
  · exact wst_27
  · exact wst_28
  · exact wst_29
  · exact wst_30
  · exact wst_31
theorem wst_in : ∀ i, i < 32 → (∀ w ∈ sCo i, w ∈ cfl narrow_1) ∧ ∀ j, j < liN.getD i 0 → sEl i j ∈ cfl narrow_1 := fun i hi =>
  ⟨fun w hw => wst_al i hi w (List.mem_append.mpr (Or.inl hw)), fun j hj => wst_al i hi _ (List.mem_append.mpr (Or.inr (List.mem_map.mpr ⟨j, List.mem_range.mpr hj, rfl⟩)))⟩
def sRf (i : Nat) : Cond := .stringRef (liT.getD i ("", 0, "")).1 (liT.getD i ("", 0, "")).2.1 (liT.getD i ("", 0, "")).2.2
set_option maxRecDepth 100000 in
theorem wsr_0 : ∀ w ∈ [0, 1, 2, 3, 4, 5, 6, 7].map sRf, w ∈ lw_tbl := wpl [644, 645, 646, 647, 648, 649, 650, 651] (by decide +kernel)
set_option maxRecDepth 100000 in
theorem wsr_1 : ∀ w ∈ [8, 9, 10, 11, 12, 13, 14, 15].map sRf, w ∈ lw_tbl := wpl [652, 653, 720, 721, 722, 723, 724, 725] (by decide +kernel)
set_option maxRecDepth 100000 in
theorem wsr_2 : ∀ w ∈ [16, 17, 18, 19, 20, 21, 22, 23].map sRf, w ∈ lw_tbl := wpl [726, 727, 728, 729, 730, 731, 1443, 1466] (by decide +kernel)
set_option maxRecDepth 100000 in
theorem wsr_3 : ∀ w ∈ [24, 25, 26, 27, 28, 29, 30, 31].map sRf, w ∈ lw_tbl := wpl [1483, 1488, 1497, 1502, 1507, 1512, 1521, 1522] (by decide +kernel)
theorem wst_rf : ∀ i, i < 32 → sRf i ∈ lw_tbl := fun i hi => by
  rcases (show i < 8 ∨ (8 ≤ i ∧ i < 16) ∨ (16 ≤ i ∧ i < 24) ∨ 24 ≤ i by omega) with h | h | h | h
  · exact wsr_0 _ (List.mem_map.mpr ⟨i, by simp only [List.mem_cons, List.not_mem_nil, or_false]; omega, rfl⟩)
  · exact wsr_1 _ (List.mem_map.mpr ⟨i, by simp only [List.mem_cons, List.not_mem_nil, or_false]; omega, rfl⟩)
  · exact wsr_2 _ (List.mem_map.mpr ⟨i, by simp only [List.mem_cons, List.not_mem_nil, or_false]; omega, rfl⟩)
  · exact wsr_3 _ (List.mem_map.mpr ⟨i, by simp only [List.mem_cons, List.not_mem_nil, or_false]; omega, rfl⟩)
theorem li_31 : ∀ i, i < 32 → liN.getD i 0 < 2 ^ 31 := by decide
theorem SO_of {args : Array Value} {s : State} {A : Nat → Prop} {i : Nat} (hi : i < 32) (h : ∀ w ∈ cfl narrow_1, w.before args s = true) (hA : ∀ a : Nat, a < s.heap.size → ¬ A a) : ∃ q : Nat × Nat, (sTm i).eval args s none [] s = some (.ref q.1) ∧ SO i q.1 q.2 A s s.heap := by
  have k := wst_in i hi
  have hex := h _ (k.1 _ (List.mem_cons_self ..))
  have hco := h _ (k.1 _ (List.mem_cons_of_mem _ (List.mem_cons_self ..)))
  have har := h _ (k.1 _ (List.mem_cons_of_mem _ (List.mem_cons_of_mem _ (List.mem_cons_self ..))))
  have hle := h _ (k.1 _ (List.mem_cons_of_mem _ (List.mem_cons_of_mem _ (List.mem_cons_of_mem _ (List.mem_cons_self ..)))))
  obtain ⟨a, c, cA, kA, q1, q2, q3, q4, q5, q6, -⟩ := Cond.exactly_spec (args := args) (first := s) (o := none) (s := s) (idx := []) (t := sTm i) (cls := "java/lang/String") hex
  obtain ⟨t, ht, hT⟩ := va_Tof (f := fun j => .int ((liB.getD i []).getD j 0)) (A := A) (li_31 i hi) har (va_eqt hle) (fun j hj => va_eqt (h _ (k.2 j hj))) hA
  exact ⟨(a, t), q1, ⟨cA, q3, q5, by rw [q6]; exact q2, hA a (Array.getElem?_eq_some_iff.mp q3).1⟩, vk_OFof q1 (va_eqt hco) hA, vk_OFof q1 ht hA, hT⟩
theorem liT_at {i : Nat} {e : String × Nat × String} (h : liT[i]? = some e) : i < 32 ∧ liT.getD i ("", 0, "") = e := by
  refine ⟨(List.getElem?_eq_some_iff.mp h).1, ?_⟩
  rw [List.getD_eq_getElem?_getD, h]
  rfl
theorem STR_start {args : Array Value} {s : State} (hts : ∀ w ∈ lw_tbl, w.before args s = true) (hgv : (Jvm.Cond.and given_1 narrow_1).before args s = true) : ∃ (aK aV : Nat → Nat) (fo : Option Nat), STR aK aV fo (fun q => s.heap.size ≤ q) s := by
  rw [Cond.before_and, Bool.and_eq_true] at hgv
  have h := cfl_spec narrow_1 hgv.2
  have hA : ∀ a : Nat, a < s.heap.size → ¬ s.heap.size ≤ a := fun a h1 h2 => absurd h1 (Nat.not_lt.mpr h2)
  have h0 : ∀ i : Nat, ∃ q : Nat × Nat, i < 32 → (sTm i).eval args s none [] s = some (.ref q.1) ∧ SO i q.1 q.2 (fun q => s.heap.size ≤ q) s s.heap := fun i => by
    by_cases hi : i < 32
    · obtain ⟨q, hq⟩ := SO_of (A := fun q => s.heap.size ≤ q) hi h hA
      exact ⟨q, fun _ => hq⟩
    · exact ⟨(0, 0), fun z => absurd z hi⟩
  obtain ⟨ad9, had⟩ := Classical.axiomOfChoice h0
  have hz := va_Zof (A := fun q => s.heap.size ≤ q) (hts (.laysStatic "java/lang/String" "COMPACT_STRINGS" "Z") (by decide +kernel)) (hts (.initialized "java/lang/String") (by decide +kernel)) (va_eqi (z := 1) (h _ (wpl [2] (ws := [_]) (by decide +kernel) _ (List.mem_singleton.mpr rfl)))) hA
  have hq := va_Zqof (A := fun q => s.heap.size ≤ q) (hts (.laysStatic "jdk/internal/util/Preconditions" "SIOOBE_FORMATTER" "Ljava/util/function/BiFunction;") (by decide +kernel)) (hts (.initialized "jdk/internal/util/Preconditions") (by decide +kernel)) (h _ (wpl [3] (ws := [_]) (by decide +kernel) _ (List.mem_singleton.mpr rfl))) hA
  have hR : ∀ (i : Nat) (e : String × Nat × String), liT[i]? = some e → vk_R e.1 e.2.1 e.2.2 (ad9 i).1 s := fun i e he => by
    obtain ⟨hi, rfl⟩ := liT_at he
    exact vk_R.of (hts _ (wst_rf i hi)) (had i hi).1
  rcases hq with hq | ⟨t, hq⟩
  · exact ⟨fun i => (ad9 i).1, fun i => (ad9 i).2, none, fun i hi => (had i hi).2, hR, hz, hq⟩
  · exact ⟨fun i => (ad9 i).1, fun i => (ad9 i).2, some t, fun i hi => (had i hi).2, hR, hz, hq⟩
