/-! THE LAYOUT: 74 cells, by the order in which the constructors make them -/
def kTX : List Nat := [10, 5, 12, 3, 13, 0, 7, 13, 13, 13, 13, 13, 13, 13, 13, 13, 13, 13, 13, 13, 14, 13, 13, 13, 13, 13, 13, 7, 13, 13, 13, 13, 13, 13, 13, 13, 13, 13, 13, 13, 13, 14, 13, 2, 6, 14, 14, 13, 13, 9, 6, 13, 13, 4, 13, 13, 4, 13, 13, 16, 4, 13, 13, 4, 13, 13, 4, 13, 13, 8, 13, 1, 13, 13]
def nTX : List Nat := [0, 0, 900, 0, 5, 0, 0, 7, 4, 4, 4, 4, 28, 28, 28, 28, 3, 3, 21, 21, 7, 48, 21, 7, 427, 6, 6, 0, 7, 4, 4, 4, 4, 28, 28, 28, 28, 3, 3, 21, 21, 7, 48, 0, 0, 168, 6, 366, 366, 0, 0, 21, 3, 0, 4, 28, 0, 4, 28, 3, 0, 4, 28, 0, 4, 28, 0, 4, 28, 0, 100, 0, 8, 8]
def rTX : List (Nat × Nat × Nat) := [(0, 0, 1), (0, 1, 3), (0, 2, 5), (0, 3, 43), (0, 4, 49), (0, 5, 53), (0, 6, 56), (0, 7, 59), (0, 8, 69), (0, 9, 71), (1, 0, 2), (3, 2, 1), (3, 3, 4), (5, 1, 22), (5, 2, 23), (5, 3, 24), (5, 4, 25), (5, 5, 26), (6, 5, 7), (6, 6, 8), (6, 7, 9), (6, 8, 10), (6, 9, 11), (6, 10, 12), (6, 11, 13), (6, 12, 14), (6, 13, 15), (6, 14, 16), (6, 15, 17), (6, 16, 18), (6, 17, 19), (6, 18, 20), (6, 19, 21), (27, 5, 28), (27, 6, 29), (27, 7, 30), (27, 8, 31), (27, 9, 32), (27, 10, 33), (27, 11, 34), (27, 12, 35), (27, 13, 36), (27, 14, 37), (27, 15, 38), (27, 16, 39), (27, 17, 40), (27, 18, 41), (27, 19, 42), (43, 2, 5), (43, 3, 44), (43, 4, 45), (43, 5, 46), (49, 0, 50), (49, 1, 51), (49, 2, 5), (49, 3, 43), (49, 4, 52), (53, 4, 54), (53, 5, 55), (56, 4, 57), (56, 5, 58), (59, 0, 60), (59, 1, 63), (59, 2, 66), (60, 4, 61), (60, 5, 62), (63, 4, 64), (63, 5, 65), (66, 4, 67), (66, 5, 68), (69, 3, 70), (71, 2, 72), (71, 3, 73)]
def LyX (g : GG) : Prop := (g_L g).length = 74 ∧ (g_L g).Nodup ∧ ∀ i, i < 74 → g_K g (ad g i) = kTX.getD i 0 ∧ g_n g (ad g i) = nTX.getD i 0
/-- the references that never change -/
def RfX (g : GG) (R : pR) : Prop := ∀ e ∈ rTX, R (ad g e.1) e.2.1 = some (ad g e.2.2)
theorem kTX_len : kTX.length = 74 := by decide
theorem nTX_len : nTX.length = 74 := by decide
theorem lyx_mem {g : GG} (h : LyX g) {i : Nat} (hi : i < 74) : ad g i ∈ g_L g := by
  have hl : i < (g_L g).length := by rw [h.1]; exact hi
  unfold ad
  rw [List.getD_eq_getElem?_getD, List.getElem?_eq_getElem hl]
  exact List.getElem_mem hl
theorem lyx_is {g : GG} (h : LyX g) (i k : Nat) (hk : kTX[i]? = some k) : g_is g (ad g i) k := by
  have hi : i < 74 := by
    have := (List.getElem?_eq_some_iff.mp hk).1
    rw [kTX_len] at this
    exact this
  refine ⟨lyx_mem h hi, ?_⟩
  rw [(h.2.2 i hi).1, List.getD_eq_getElem?_getD, hk]
  rfl
theorem lyx_n {g : GG} (h : LyX g) (i n : Nat) (hn : nTX[i]? = some n) : g_n g (ad g i) = n := by
  have hi : i < 74 := by
    have := (List.getElem?_eq_some_iff.mp hn).1
    rw [nTX_len] at this
    exact this
  rw [(h.2.2 i hi).2, List.getD_eq_getElem?_getD, hn]
  rfl
theorem lyx_in {g : GG} (h : LyX g) (i n : Nat) {v : Int32} (hn : nTX[i]? = some n) (hv : vp_in v n) : vp_in v (g_n g (ad g i)) := by
  rw [lyx_n h i n hn]
  exact hv
theorem lyx_ne {g : GG} (h : LyX g) {i j : Nat} (hij : i ≠ j) (hi : i < 74) (hj : j < 74) : ad g i ≠ ad g j := by
  have hl1 : i < (g_L g).length := by rw [h.1]; exact hi
  have hl2 : j < (g_L g).length := by rw [h.1]; exact hj
  intro e
  unfold ad at e
  rw [List.getD_eq_getElem?_getD, List.getD_eq_getElem?_getD, List.getElem?_eq_getElem hl1, List.getElem?_eq_getElem hl2] at e
  have hp := List.pairwise_iff_getElem.mp h.2.1
  rcases Nat.lt_or_gt_of_ne hij with q | q
  · exact hp i j hl1 hl2 q e
  · exact hp j i hl2 hl1 q e.symm
theorem rfx {g : GG} {R : pR} (h : RfX g R) (i q j : Nat) (hm : (i, q, j) ∈ rTX) : R (ad g i) q = some (ad g j) := h (i, q, j) hm
