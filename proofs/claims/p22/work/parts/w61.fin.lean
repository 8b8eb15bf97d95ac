theorem l_ao {args : Array Value} {s : State} (hts : ∀ w ∈ lw_tbl, w.before args s = true) : va_AO RX4 s := va_AO.of (hts _ (by decide +kernel))
theorem l_nest {args : Array Value} {s : State} (hts : ∀ w ∈ lw_tbl, w.before args s = true) : ∀ w ∈ nestW, va_Nw w s := by
  intro w hw
  simp only [nestW, List.mem_cons, List.not_mem_nil, or_false] at hw
  rcases hw with rfl | rfl | rfl
  · exact va_Nw.of rfl (hts _ (by decide +kernel))
  · exact va_Nw.of rfl (hts _ (by decide +kernel))
  · exact va_Nw.of rfl (hts _ (by decide +kernel))
theorem whole_start {p : Program} {e : Env} {s : State} {m : MethodId} {below : List Frame} {meth : Method} {c : Code} (l : Launch) {b L : Nat} {xs : Nat → Int32} (hL : L ≤ 4096) (C0 : lw_At p s m meth c b L xs) : W p l e room_1 s m #[Value.ref b] below meth c s.heap [] 0 0 (lw_Z below #[Value.ref b] s) (entryFrame m ([Value.ref b] : List Value).toArray 4) := by
  have hts := C0.2.2.2.2.2.1
  exact whole_startW l hL C0 (fun w hw => hts w (wsL_law_in w hw)) (l_ao hts) (l_nest hts) (STR_start hts C0.2.2.2.2.2.2.2.2.2)
