/-! THE LAYOUT: 49 cells, by the order in which the constructors make them -/
def kT : List Nat := [11, 12, 14, 14, 14, 14, 13, 13, 13, 13, 13, 13, 13, 13, 13, 13, 13, 13, 13, 13, 13, 13, 13, 13, 13, 13, 13, 13, 13, 13, 13, 13, 13, 13, 13, 13, 13, 15, 13, 13, 13, 13, 13, 14, 15, 13, 13, 13, 13]
def nT : List Nat := [0, 900, 4, 3, 4, 3, 7, 7, 4, 4, 4, 4, 3, 3, 4, 4, 4, 4, 3, 3, 28, 21, 21, 21, 28, 28, 28, 28, 21, 21, 28, 28, 28, 4, 3, 10614, 10248, 28, 35, 35, 3, 21, 105, 3, 3, 2100, 4, 4, 8]
def rT : List (Nat × Nat × Nat) := [(0, 0, 1), (0, 20, 2), (0, 21, 3), (0, 22, 4), (0, 23, 5), (0, 24, 6), (0, 25, 7), (0, 26, 8), (0, 27, 9), (0, 28, 10), (0, 29, 11), (0, 30, 12), (0, 31, 13), (0, 32, 14), (0, 33, 15), (0, 34, 16), (0, 35, 17), (0, 36, 18), (0, 37, 19), (0, 38, 20), (0, 39, 21), (0, 40, 22), (0, 41, 23), (0, 42, 24), (0, 43, 25), (0, 44, 26), (0, 45, 27), (0, 46, 28), (0, 47, 29), (0, 48, 30), (0, 49, 31), (0, 50, 32), (0, 52, 33), (0, 53, 34), (0, 54, 35), (0, 57, 36), (0, 58, 37), (0, 59, 38), (0, 60, 39), (0, 62, 40), (0, 63, 41), (0, 65, 42), (0, 66, 43), (0, 67, 44), (0, 69, 45), (0, 71, 46), (0, 72, 47), (0, 73, 48)]
def ad (g : GG) (i : Nat) : Nat := (g_L g).getD i 0
def Ly (g : GG) : Prop := (g_L g).length = 49 ∧ (g_L g).Nodup ∧ ∀ i, i < 49 → g_K g (ad g i) = kT.getD i 0 ∧ g_n g (ad g i) = nT.getD i 0
/-- the references that never change -/
def Rf (g : GG) (R : pR) : Prop := ∀ e ∈ rT, R (ad g e.1) e.2.1 = some (ad g e.2.2)
theorem kT_len : kT.length = 49 := by decide
theorem nT_len : nT.length = 49 := by decide
theorem ly_mem {g : GG} (h : Ly g) {i : Nat} (hi : i < 49) : ad g i ∈ g_L g := by
  have hl : i < (g_L g).length := by rw [h.1]; exact hi
  unfold ad
  rw [List.getD_eq_getElem?_getD, List.getElem?_eq_getElem hl]
  exact List.getElem_mem hl
theorem ly_is {g : GG} (h : Ly g) (i k : Nat) (hk : kT[i]? = some k) : g_is g (ad g i) k := by
  have hi : i < 49 := by
    have := (List.getElem?_eq_some_iff.mp hk).1
    rw [kT_len] at this
    exact this
  refine ⟨ly_mem h hi, ?_⟩
  rw [(h.2.2 i hi).1, List.getD_eq_getElem?_getD, hk]
  rfl
theorem ly_n {g : GG} (h : Ly g) (i n : Nat) (hn : nT[i]? = some n) : g_n g (ad g i) = n := by
  have hi : i < 49 := by
    have := (List.getElem?_eq_some_iff.mp hn).1
    rw [nT_len] at this
    exact this
  rw [(h.2.2 i hi).2, List.getD_eq_getElem?_getD, hn]
  rfl
theorem ly_ne {g : GG} (h : Ly g) {i j : Nat} (hij : i ≠ j) (hi : i < 49) (hj : j < 49) : ad g i ≠ ad g j := by
  have hl1 : i < (g_L g).length := by rw [h.1]; exact hi
  have hl2 : j < (g_L g).length := by rw [h.1]; exact hj
  intro e
  unfold ad at e
  rw [List.getD_eq_getElem?_getD, List.getD_eq_getElem?_getD, List.getElem?_eq_getElem hl1, List.getElem?_eq_getElem hl2] at e
  have hp := List.pairwise_iff_getElem.mp h.2.1
  rcases Nat.lt_or_gt_of_ne hij with q | q
  · exact hp i j hl1 hl2 q e
  · exact hp j i hl2 hl1 q e.symm
theorem rf {g : GG} {R : pR} (h : Rf g R) (i q j : Nat) (hm : (i, q, j) ∈ rT) : R (ad g i) q = some (ad g j) := h (i, q, j) hm
