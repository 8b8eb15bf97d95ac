/-! CALLS -/
set_option maxRecDepth 100000 in
theorem wsL_good : wsL_law.all goodWord = true := by decide +kernel
theorem md_good {d z : MD} (hz : Cond.code (md_y z) (md_c z) (md_n z) (md_r z) ∈ wsL_law) : GoodIn (md_w d) (md_w z) := by
  intro w hw
  have hin : w ∈ wsL_law := by
    rcases List.mem_cons.mp hw with h | h
    · rw [h]; exact hz
    · exact h
  exact ⟨List.mem_cons_of_mem _ hin, good_of_word (List.all_eq_true.mp wsL_good w hin)⟩
/-- what is fixed at a call: room, code, words -/
def csZ (z : MD) (n : Nat) : Prop := ((md_y z).cls ≠ "java/lang/invoke/MethodHandle" ∧ (md_y z).cls ≠ "java/lang/invoke/VarHandle" ∧ (parseMethodDescriptor (md_y z).desc).map (fun d => d.parameters.length) = some n) ∧
  Cond.code (md_y z) (md_c z) (md_n z) (md_r z) ∈ wsL_law ∧ Cond.initialized (md_y z).cls ∈ wsL_law
def csB (d : MD) (z : MD) (n : Nat) : Prop := (md_f z + 1 ≤ md_f d ∧ 8 + (md_n z + 11) + md_q z ≤ md_q d) ∧ csZ z n
def csV (d : MD) (idx : Nat) (z : MD) (k n : Nat) : Prop := csB d z n ∧ Cond.methodLink (md_o d) idx (md_y z) ∈ wsL_law ∧ k < 12 ∧ (md_y z).cls = pw_C k ∧ Cond.instanceMethod (md_y z) ∈ wsL_law ∧ Cond.selects (pw_C k) (md_y z) (md_y z) ∈ wsL_law
def csS (d : MD) (idx : Nat) (z : MD) (n : Nat) : Prop := csB d z n ∧ Cond.methodLink (md_o d) idx (md_y z) ∈ wsL_law ∧ Cond.static (md_y z) ∈ wsL_law
def csN (d : MD) (idx : Nat) (z : MD) (host : String) (n : Nat) : Prop := csB d z n ∧ Cond.methodLinkNest (md_o d) idx (md_y z) host ∈ nestW ∧ Cond.static (md_y z) ∈ wsL_law
section Rules
variable {g : GG} {d z : MD} {pc : Nat} {ls : List (Nat × Value)} {st : List Value} {I : pI} {J : pJ} {R : pR} {Q Q0 : Post} {idx n k b : Nat} {As rest : List Value}
theorem SP_blind {as : List Value} : FrameBlind (fun v U => v = as.toArray ∧ g_P g I J R U.heap ∧ g_S g U) := fun a U f mk q => ⟨q.1, q.2.1, q.2.2.same rfl rfl⟩
/-- behind a call: what came back is the pool anew -/
theorem WP_back {p : Program} {e : Env} {s : State} {m : MethodId} {args a : Array Value} {below : List Frame} {meth : Method} {c : Code} {H : Heap} {locs : List Loc} {la : Array Slot} (C : g_C g d ls I J R p s m args meth c H locs la)
    (hr : va_Run p (g_l g) e (md_rm d) s m args below meth c H locs 0 0 0 0 (F0 m pc la st) rest (g_Q g Q0 a) (g_A g))
    (kk : ∀ (r : Option Value) (I' : pI) (J' : pJ) (R' : pR), Q0 r I' J' R' → WP g d (pc + 3) ls (r.toList ++ rest) I' J' R' Q) : W p (g_l g) e (md_rm d) s m args below meth c H locs 0 0 (MQ below (g_Q g Q) args s 0 0 (g_A g)) (F0 m pc la st) := by
  obtain ⟨hx, hb, hl, hml, hre, hlk, hown, hts, hS, hP, hA⟩ := C
  intro T hT X
  obtain ⟨v, st₀, t, T', L, h0, X', hL, e1, e2, ⟨⟨r, I', J', R', hv, hq, hP1⟩, hz, hk⟩, stp⟩ := hr T hT X
  cases hv
  rw [h0] at hz hk
  obtain ⟨t2, a1, b1⟩ := kk v I' J' R' hq p e s m args below meth c T'.heap (locs ++ L) la ⟨hx, hb, hl, hml, hre, hlk, hown, hts, hS, by rw [e1]; exact hP1,
    ⟨Nat.le_trans hA.1 (by rw [e1]; exact hz), fun q h1 h2 => by rw [e1, hk q (Nat.lt_of_lt_of_le h1 hA.1) h2]; exact hA.2.1 q h1 h2, fun q hq => by
      rcases List.mem_append.mp hq with h | h
      · exact hA.2.2 q h
      · exact hL q h⟩⟩ T' rfl X'
  exact ⟨t2, stp t2 a1, b1⟩
theorem WP_callV (h : decode (md_c d) pc = .ok (.invokevirtual idx, 3)) (cs : csV d idx z k n) (hbk : g_is g b k) (hs : SP g z (.ref b :: As) I J R Q0) (hn : As.length = n) (hst : st = As.reverse ++ .ref b :: rest) (hcat : (rest.map fun v => v.category).sum ≤ 8)
    (kk : ∀ (r : Option Value) (I' : pI) (J' : pJ) (R' : pR), Q0 r I' J' R' → WP g d (pc + 3) ls (r.toList ++ rest) I' J' R' Q) : WP g d pc ls st I J R Q := by
  intro p e s m as b2 mt c H lo la C
  have C0 := C
  obtain ⟨hx, hb, hl, hml, hre, hlk, hown, hts, hS, ⟨hnd, hP⟩, hA⟩ := C
  obtain ⟨⟨cr, cd, cc, ci⟩, cl, ck, cC, cin, csel⟩ := cs
  obtain ⟨q0, hk⟩ := g_get (I := I) (J := J) (R := R) hbk.1
  rw [g_F_obj hbk.2 ck] at hk
  have ht : ∀ w ∈ wsL_law, w.before as s = true := fun w hw => hts w (List.mem_cons_of_mem _ hw)
  have cb : CallB (md_rm d) s as (md_o d) idx (md_y z) (md_c z) (md_n z) (md_r z) (md_w z) (md_rm z) 0 0 n := callB_of n hts (md_good cc) rfl rfl rfl (ht _ ci) (ht _ cl) cd cr
  have hrun := va_runV (C := pw_C k) (As := As) (rest := rest) (g := F0 m pc la st) (below := b2) (e := e) (locs := lo) (cells := 0) (slots := 0) (meth := mt) ⟨hx, hb, hml, hown, hts⟩ hs ⟨cb, ht _ cin, ht _ csel⟩
    ⟨SP_blind, va_recv hS.1 hP (pw_cl k ck) hk, fun U hU hW => ⟨rfl, by rw [hU]; exact ⟨hnd, hP⟩, hS.warmA hW hU hA⟩⟩ rfl hn hl.1 hst (lv_room hcat) h ⟨Nat.le_refl _, Nat.le_refl _⟩
  exact WP_back C0 hrun kk
theorem WP_callS (h : decode (md_c d) pc = .ok (.invokestatic idx, 3)) (cs : csS d idx z n) (hs : SP g z As I J R Q0) (hn : As.length = n) (hst : st = As.reverse ++ rest) (hcat : (rest.map fun v => v.category).sum ≤ 8)
    (kk : ∀ (r : Option Value) (I' : pI) (J' : pJ) (R' : pR), Q0 r I' J' R' → WP g d (pc + 3) ls (r.toList ++ rest) I' J' R' Q) : WP g d pc ls st I J R Q := by
  intro p e s m as b2 mt c H lo la C
  have C0 := C
  obtain ⟨hx, hb, hl, hml, hre, hlk, hown, hts, hS, hP, hA⟩ := C
  obtain ⟨⟨cr, cd, cc, ci⟩, cl, cst⟩ := cs
  have ht : ∀ w ∈ wsL_law, w.before as s = true := fun w hw => hts w (List.mem_cons_of_mem _ hw)
  have cb : CallB (md_rm d) s as (md_o d) idx (md_y z) (md_c z) (md_n z) (md_r z) (md_w z) (md_rm z) 0 0 n := callB_of n hts (md_good cc) rfl rfl rfl (ht _ ci) (ht _ cl) cd cr
  have hrun := va_runS (As := As) (rest := rest) (g := F0 m pc la st) (below := b2) (e := e) (locs := lo) (cells := 0) (slots := 0) (meth := mt) ⟨hx, hb, hml, hown, hts⟩ hs ⟨cb, ht _ cst⟩
    ⟨SP_blind, fun U hU hW => ⟨rfl, by rw [hU]; exact hP, hS.warmA hW hU hA⟩⟩ rfl hn hl.1 hst (lv_room hcat) h ⟨Nat.le_refl _, Nat.le_refl _⟩
  exact WP_back C0 hrun kk
theorem WP_callN {host : String} (h : decode (md_c d) pc = .ok (.invokestatic idx, 3)) (cs : csN d idx z host n) (hs : SP g z As I J R Q0) (hn : As.length = n) (hst : st = As.reverse ++ rest) (hcat : (rest.map fun v => v.category).sum ≤ 8)
    (kk : ∀ (r : Option Value) (I' : pI) (J' : pJ) (R' : pR), Q0 r I' J' R' → WP g d (pc + 3) ls (r.toList ++ rest) I' J' R' Q) : WP g d pc ls st I J R Q := by
  intro p e s m as b2 mt c H lo la C
  have C0 := C
  obtain ⟨hx, hb, hl, hml, hre, hlk, hown, hts, hS, hP, hA⟩ := C
  obtain ⟨⟨cr, cd, cc, ci⟩, cl, cst⟩ := cs
  have ht : ∀ w ∈ wsL_law, w.before as s = true := fun w hw => hts w (List.mem_cons_of_mem _ hw)
  have cb : va_CN (md_rm d) s as (md_o d) idx (md_y z) host (md_c z) (md_n z) (md_r z) (md_w z) (md_rm z) 0 0 n := va_cnB n hts (md_good cc) rfl rfl rfl (hS.2.1 _ cl) (ht _ ci) cd cr
  have hrun := va_runSN (As := As) (rest := rest) (g := F0 m pc la st) (below := b2) (e := e) (locs := lo) (cells := 0) (slots := 0) (meth := mt) ⟨hx, hb, hml, hown, hts⟩ hs ⟨cb, ht _ cst, trivial⟩
    ⟨SP_blind, fun U hU hW => ⟨rfl, by rw [hU]; exact hP, hS.warmA hW hU hA⟩⟩ rfl hn hl.1 hst (lv_room hcat) h ⟨Nat.le_refl _, Nat.le_refl _⟩
  exact WP_back C0 hrun kk
/-- a call that changes nothing and answers v -/
def pq (v : Value) (I : pI) (J : pJ) (R : pR) : Post := fun r I' J' R' => r = some v ∧ I' = I ∧ J' = J ∧ R' = R
/-- a call that answers nothing and leaves the pool so -/
def pu (I : pI) (J : pJ) (R : pR) : Post := fun r I' J' R' => r = none ∧ I' = I ∧ J' = J ∧ R' = R
theorem pu_to {I2 : pI} {J2 : pJ} {R2 : pR} {P : List Value → pI → pJ → pR → Prop} (h : P rest I2 J2 R2) : ∀ (r : Option Value) (I' : pI) (J' : pJ) (R' : pR), pu I2 J2 R2 r I' J' R' → P (r.toList ++ rest) I' J' R' := by
  rintro r I' J' R' ⟨rfl, rfl, rfl, rfl⟩
  exact h
theorem WP_callV0 (h : decode (md_c d) pc = .ok (.invokevirtual idx, 3)) (cs : csV d idx z k 0) (hb : g_is g b k) (hs : SP g z [.ref b] I J R Q0) (hc : (rest.map fun v => v.category).sum ≤ 8) (kk : ∀ (r : Option Value) (I' : pI) (J' : pJ) (R' : pR), Q0 r I' J' R' → WP g d (pc + 3) ls (r.toList ++ rest) I' J' R' Q) : WP g d pc ls (.ref b :: rest) I J R Q :=
  WP_callV (As := []) h cs hb hs rfl rfl hc kk
theorem WP_callV1 {v1 : Value} (h : decode (md_c d) pc = .ok (.invokevirtual idx, 3)) (cs : csV d idx z k 1) (hb : g_is g b k) (hs : SP g z [.ref b, v1] I J R Q0) (hc : (rest.map fun v => v.category).sum ≤ 8) (kk : ∀ (r : Option Value) (I' : pI) (J' : pJ) (R' : pR), Q0 r I' J' R' → WP g d (pc + 3) ls (r.toList ++ rest) I' J' R' Q) : WP g d pc ls (v1 :: .ref b :: rest) I J R Q :=
  WP_callV (As := [v1]) h cs hb hs rfl rfl hc kk
theorem WP_callS1 {v1 : Value} (h : decode (md_c d) pc = .ok (.invokestatic idx, 3)) (cs : csS d idx z 1) (hs : SP g z [v1] I J R Q0) (hc : (rest.map fun v => v.category).sum ≤ 8) (kk : ∀ (r : Option Value) (I' : pI) (J' : pJ) (R' : pR), Q0 r I' J' R' → WP g d (pc + 3) ls (r.toList ++ rest) I' J' R' Q) : WP g d pc ls (v1 :: rest) I J R Q :=
  WP_callS (As := [v1]) h cs hs rfl rfl hc kk
theorem WP_callV2 {v1 v2 : Value} (h : decode (md_c d) pc = .ok (.invokevirtual idx, 3)) (cs : csV d idx z k 2) (hb : g_is g b k) (hs : SP g z [.ref b, v1, v2] I J R Q0) (hc : (rest.map fun v => v.category).sum ≤ 8) (kk : ∀ (r : Option Value) (I' : pI) (J' : pJ) (R' : pR), Q0 r I' J' R' → WP g d (pc + 3) ls (r.toList ++ rest) I' J' R' Q) : WP g d pc ls (v2 :: v1 :: .ref b :: rest) I J R Q :=
  WP_callV (As := [v1, v2]) h cs hb hs rfl rfl hc kk
theorem WP_callS2 {v1 v2 : Value} (h : decode (md_c d) pc = .ok (.invokestatic idx, 3)) (cs : csS d idx z 2) (hs : SP g z [v1, v2] I J R Q0) (hc : (rest.map fun v => v.category).sum ≤ 8) (kk : ∀ (r : Option Value) (I' : pI) (J' : pJ) (R' : pR), Q0 r I' J' R' → WP g d (pc + 3) ls (r.toList ++ rest) I' J' R' Q) : WP g d pc ls (v2 :: v1 :: rest) I J R Q :=
  WP_callS (As := [v1, v2]) h cs hs rfl rfl hc kk
theorem WP_callS2u {I2 : pI} {J2 : pJ} {R2 : pR} {v1 v2 : Value} (h : decode (md_c d) pc = .ok (.invokestatic idx, 3)) (cs : csS d idx z 2) (hs : SP g z [v1, v2] I J R (pu I2 J2 R2)) (hc : (rest.map fun v => v.category).sum ≤ 8) (kk : WP g d (pc + 3) ls rest I2 J2 R2 Q) : WP g d pc ls (v2 :: v1 :: rest) I J R Q :=
  WP_callS (As := [v1, v2]) h cs hs rfl rfl hc (pu_to (P := fun st I J R => WP g d (pc + 3) ls st I J R Q) kk)
theorem WP_callN2 {v1 v2 : Value} (h : decode (md_c d) pc = .ok (.invokestatic idx, 3)) {host : String} (cs : csN d idx z host 2) (hs : SP g z [v1, v2] I J R Q0) (hc : (rest.map fun v => v.category).sum ≤ 8) (kk : ∀ (r : Option Value) (I' : pI) (J' : pJ) (R' : pR), Q0 r I' J' R' → WP g d (pc + 3) ls (r.toList ++ rest) I' J' R' Q) : WP g d pc ls (v2 :: v1 :: rest) I J R Q :=
  WP_callN (As := [v1, v2]) h cs hs rfl rfl hc kk
theorem WP_callV3 {v1 v2 v3 : Value} (h : decode (md_c d) pc = .ok (.invokevirtual idx, 3)) (cs : csV d idx z k 3) (hb : g_is g b k) (hs : SP g z [.ref b, v1, v2, v3] I J R Q0) (hc : (rest.map fun v => v.category).sum ≤ 8) (kk : ∀ (r : Option Value) (I' : pI) (J' : pJ) (R' : pR), Q0 r I' J' R' → WP g d (pc + 3) ls (r.toList ++ rest) I' J' R' Q) : WP g d pc ls (v3 :: v2 :: v1 :: .ref b :: rest) I J R Q :=
  WP_callV (As := [v1, v2, v3]) h cs hb hs rfl rfl hc kk
theorem WP_callS3 {v1 v2 v3 : Value} (h : decode (md_c d) pc = .ok (.invokestatic idx, 3)) (cs : csS d idx z 3) (hs : SP g z [v1, v2, v3] I J R Q0) (hc : (rest.map fun v => v.category).sum ≤ 8) (kk : ∀ (r : Option Value) (I' : pI) (J' : pJ) (R' : pR), Q0 r I' J' R' → WP g d (pc + 3) ls (r.toList ++ rest) I' J' R' Q) : WP g d pc ls (v3 :: v2 :: v1 :: rest) I J R Q :=
  WP_callS (As := [v1, v2, v3]) h cs hs rfl rfl hc kk
theorem WP_callV4 {v1 v2 v3 v4 : Value} (h : decode (md_c d) pc = .ok (.invokevirtual idx, 3)) (cs : csV d idx z k 4) (hb : g_is g b k) (hs : SP g z [.ref b, v1, v2, v3, v4] I J R Q0) (hc : (rest.map fun v => v.category).sum ≤ 8) (kk : ∀ (r : Option Value) (I' : pI) (J' : pJ) (R' : pR), Q0 r I' J' R' → WP g d (pc + 3) ls (r.toList ++ rest) I' J' R' Q) : WP g d pc ls (v4 :: v3 :: v2 :: v1 :: .ref b :: rest) I J R Q :=
  WP_callV (As := [v1, v2, v3, v4]) h cs hb hs rfl rfl hc kk
theorem WP_callV5 {v1 v2 v3 v4 v5 : Value} (h : decode (md_c d) pc = .ok (.invokevirtual idx, 3)) (cs : csV d idx z k 5) (hb : g_is g b k) (hs : SP g z [.ref b, v1, v2, v3, v4, v5] I J R Q0) (hc : (rest.map fun v => v.category).sum ≤ 8) (kk : ∀ (r : Option Value) (I' : pI) (J' : pJ) (R' : pR), Q0 r I' J' R' → WP g d (pc + 3) ls (r.toList ++ rest) I' J' R' Q) : WP g d pc ls (v5 :: v4 :: v3 :: v2 :: v1 :: .ref b :: rest) I J R Q :=
  WP_callV (As := [v1, v2, v3, v4, v5]) h cs hb hs rfl rfl hc kk
theorem WP_callV6 {v1 v2 v3 v4 v5 v6 : Value} (h : decode (md_c d) pc = .ok (.invokevirtual idx, 3)) (cs : csV d idx z k 6) (hb : g_is g b k) (hs : SP g z [.ref b, v1, v2, v3, v4, v5, v6] I J R Q0) (hc : (rest.map fun v => v.category).sum ≤ 8) (kk : ∀ (r : Option Value) (I' : pI) (J' : pJ) (R' : pR), Q0 r I' J' R' → WP g d (pc + 3) ls (r.toList ++ rest) I' J' R' Q) : WP g d pc ls (v6 :: v5 :: v4 :: v3 :: v2 :: v1 :: .ref b :: rest) I J R Q :=
  WP_callV (As := [v1, v2, v3, v4, v5, v6]) h cs hb hs rfl rfl hc kk
end Rules
section Sub
variable {g : GG} {d : MD} {pc : Nat} {ls ls' : List (Nat × Value)} {st : List Value} {I : pI} {J : pJ} {R : pR} {Q : Post}
/-- fewer locals are looked at -/
theorem WP_sub (h : ∀ q ∈ ls', lk ls q.1 = some q.2) (k : WP g d pc ls' st I J R Q) : WP g d pc ls st I J R Q :=
  fun p e s m a b mt c H lo la C => k p e s m a b mt c H lo la ⟨C.1, C.2.1, ⟨C.2.2.1.1, C.2.2.1.2.1, fun q hq => C.2.2.1.2.2 q (lk_mem (h q hq))⟩, C.2.2.2⟩
theorem fc {P : Nat × Value → Prop} {a : Nat × Value} {l : List (Nat × Value)} (h : P a) (t : ∀ q ∈ l, P q) : ∀ q ∈ a :: l, P q := List.forall_mem_cons.mpr ⟨h, t⟩
theorem fn {P : Nat × Value → Prop} : ∀ q ∈ ([] : List (Nat × Value)), P q := fun _ h => absurd h List.not_mem_nil
end Sub
