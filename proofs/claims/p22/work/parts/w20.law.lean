/-! THE LAW: two pools in one heap, the script beside them -/
abbrev LB : Type := Launch × va_G × (Nat → ClassId) × Nat × Nat × Nat × (Nat → Int32) × (Nat → Nat) × (Nat → Nat) × Option Nat
abbrev z_h (Z : LB) : Nat := Z.2.2.2.1
abbrev z_b (Z : LB) : Nat := Z.2.2.2.2.1
abbrev z_L (Z : LB) : Nat := Z.2.2.2.2.2.1
abbrev z_x (Z : LB) : Nat → Int32 := Z.2.2.2.2.2.2.1
abbrev z_k (Z : LB) : Nat → Nat := Z.2.2.2.2.2.2.2.1
abbrev z_v (Z : LB) : Nat → Nat := Z.2.2.2.2.2.2.2.2.1
abbrev z_f (Z : LB) : Option Nat := Z.2.2.2.2.2.2.2.2.2
abbrev z_S (Z : LB) : State → Prop := STR (z_k Z) (z_v Z) (z_f Z) (fun q => z_h Z ≤ q)
abbrev zX (Z : LB) : GB := (Z.1, Z.2.1, Z.2.2.1, kTX, nTX, z_h Z, z_S Z)
abbrev zM (Z : LB) : GB := (Z.1, Z.2.1, Z.2.2.1, kT, nT, z_h Z + 74, z_S Z)
abbrev gX (Z : LB) : GG := gk (zX Z) 74
abbrev gM (Z : LB) : GG := gk (zM Z) 49
abbrev YY : Type := (pI × pJ × pR) × (pI × pJ × pR)
abbrev mL : MD := (x, code, 4, ret, R_law, 0, 0)
def l_A (Z : LB) : Nat → Prop := fun q => z_h Z ≤ q
def l_C (Z : LB) (d : MD) (ls : List (Nat × Value)) (Y : YY) (p : Program) (s : State) (m : MethodId) (args : Array Value) (meth : Method) (c : Code) (H : Heap) (locs : List Loc) (la : Array Slot) : Prop :=
  p.tables.exec = Jvm.exec ∧ c.code = md_c d ∧ lv_has la (md_n d) ls ∧ c.maxLocals = md_n d ∧ meth.sig.returnType = ret ∧ meth.locks = false ∧ s.vm.findClass (md_o d) = some m.cls ∧ (∀ w ∈ wsL_law, w.before args s = true) ∧ g_S (gX Z) s ∧ va_X (z_b Z) (z_L Z) (z_x Z) s s.heap ∧ (z_b Z < s.heap.size ∧ s.heap.size = z_h Z) ∧ args = #[.ref (z_b Z)] ∧ g_P (gX Z) Y.1.1 Y.1.2.1 Y.1.2.2 H ∧ g_P (gM Z) Y.2.1 Y.2.2.1 Y.2.2.2 H ∧ va_S (l_A Z) s.heap H locs
def WL (Z : LB) (d : MD) (pc : Nat) (ls : List (Nat × Value)) (st : List Value) (Y : YY) : Prop :=
  ∀ (p : Program) (e : Env) (s : State) (m : MethodId) (args : Array Value) (below : List Frame) (meth : Method) (c : Code) (H : Heap) (locs : List Loc) (la : Array Slot), l_C Z d ls Y p s m args meth c H locs la →
    W p Z.1 e room_1 s m args below meth c H locs 123 27795 (lw_Z below args s) (F0 m pc la st)
theorem zc_M {Z : LB} : ZC (z_S Z) (z_h Z + 74) := ⟨fun s U h hW hk => STR_zc.1 s U h hW (fun a h1 h2 => hk a h1 (by omega)), STR_zc.2⟩
theorem gS_M {Z : LB} {s : State} (h : g_S (gX Z) s) : g_S (gM Z) s := ⟨h.1, h.2.1, fun a ha => gk_ge (B := zM Z) ha, h.2.2.2.1, zc_M⟩
theorem hz_X {Z : LB} : HZ (gX Z) (z_k Z) (z_v Z) (z_f Z) := fun s h => h
theorem hz_M {Z : LB} : HZ (gM Z) (z_k Z) (z_v Z) (z_f Z) := fun s h => STR.narrow h (fun q hq => Nat.le_trans (Nat.le_add_right _ _) hq)
section Rules
variable {Z : LB} {d : MD} {pc : Nat} {ls : List (Nat × Value)} {st : List Value} {Y : YY}
theorem WL_iconst {n : Int} (v : Int32) (h : decode (md_c d) pc = .ok (.iconst n, 1)) (hv : Int32.ofInt n = v) (k :  WL Z d (pc + 1) ls (.int v :: st) Y) :  WL Z d pc ls st Y :=
  fun p e s m a b mt c H lo la C => lv_iconst C.1 C.2.1 h hv (k p e s m a b mt c H lo la C)
theorem WL_bipush {n : Int} (v : Int32) (h : decode (md_c d) pc = .ok (.bipush n, 2)) (hv : (Int8.ofInt n).toInt32 = v) (k :  WL Z d (pc + 2) ls (.int v :: st) Y) :  WL Z d pc ls st Y :=
  fun p e s m a b mt c H lo la C => lv_bipush C.1 C.2.1 h hv (k p e s m a b mt c H lo la C)
theorem WL_goto {off : Int} (tgt : Nat) (h : decode (md_c d) pc = .ok (.goto off, 3)) (ht : (pc : Int) + off = (tgt : Int)) (k :  WL Z d tgt ls st Y) :  WL Z d pc ls st Y :=
  fun p e s m a b mt c H lo la C => lv_goto C.1 C.2.1 h ht (k p e s m a b mt c H lo la C)
theorem WL_iadd {x y : Int32} (h : decode (md_c d) pc = .ok (.iadd, 1)) (k :  WL Z d (pc + 1) ls (.int (x + y) :: st) Y) :  WL Z d pc ls (.int y :: .int x :: st) Y :=
  fun p e s m a b mt c H lo la C => lv_iadd C.1 C.2.1 h (k p e s m a b mt c H lo la C)
theorem WL_isub {x y : Int32} (h : decode (md_c d) pc = .ok (.isub, 1)) (k :  WL Z d (pc + 1) ls (.int (x - y) :: st) Y) :  WL Z d pc ls (.int y :: .int x :: st) Y :=
  fun p e s m a b mt c H lo la C => lv_isub C.1 C.2.1 h (k p e s m a b mt c H lo la C)
theorem WL_iand {x y : Int32} (h : decode (md_c d) pc = .ok (.iand, 1)) (k :  WL Z d (pc + 1) ls (.int (x &&& y) :: st) Y) :  WL Z d pc ls (.int y :: .int x :: st) Y :=
  fun p e s m a b mt c H lo la C => lv_iand C.1 C.2.1 h (k p e s m a b mt c H lo la C)
theorem WL_pop {v : Value} (h : decode (md_c d) pc = .ok (.pop, 1)) (hv : v.category = 1) (k :  WL Z d (pc + 1) ls (st) Y) :  WL Z d pc ls (v :: st) Y :=
  fun p e s m a b mt c H lo la C => lv_pop C.1 C.2.1 h hv (k p e s m a b mt c H lo la C)
theorem WL_icmp_eq {x y : Int32} {off : Int} (tgt : Nat) (h : decode (md_c d) pc = .ok (.if_icmp .eq off, 3)) (ht : (pc : Int) + off = (tgt : Int)) (kt : x = y →  WL Z d tgt ls st Y) (kf : ¬ x = y →  WL Z d (pc + 3) ls st Y) :  WL Z d pc ls (.int y :: .int x :: st) Y :=
  fun p e s m a b mt c H lo la C => lv_icmp_eq C.1 C.2.1 h ht (fun q => kt q p e s m a b mt c H lo la C) (fun q => kf q p e s m a b mt c H lo la C)
theorem WL_icmp_gt {x y : Int32} {off : Int} (tgt : Nat) (h : decode (md_c d) pc = .ok (.if_icmp .gt off, 3)) (ht : (pc : Int) + off = (tgt : Int)) (kt : y < x →  WL Z d tgt ls st Y) (kf : ¬ y < x →  WL Z d (pc + 3) ls st Y) :  WL Z d pc ls (.int y :: .int x :: st) Y :=
  fun p e s m a b mt c H lo la C => lv_icmp_gt C.1 C.2.1 h ht (fun q => kt q p e s m a b mt c H lo la C) (fun q => kf q p e s m a b mt c H lo la C)
theorem WL_iload_n {n : Fin 4} {x : Int32} (h : decode (md_c d) pc = .ok (.iload_n n, 1)) (hl : lk ls (n : Nat) = some (.int x)) (k :  WL Z d (pc + 1) ls (.int x :: st) Y) :  WL Z d pc ls st Y :=
  fun p e s m a b mt c H lo la C => lv_iload_n C.1 C.2.1 h rfl (lk_has hl C.2.2.1) (k p e s m a b mt c H lo la C)
theorem WL_aload_n {n : Fin 4} {x : Nat} (h : decode (md_c d) pc = .ok (.aload_n n, 1)) (hl : lk ls (n : Nat) = some (.ref x)) (k :  WL Z d (pc + 1) ls (.ref x :: st) Y) :  WL Z d pc ls st Y :=
  fun p e s m a b mt c H lo la C => lv_aload_n C.1 C.2.1 h rfl (lk_has hl C.2.2.1) (k p e s m a b mt c H lo la C)
theorem WL_iinc {i : Nat} {n : Int} {x : Int32} (h : decode (md_c d) pc = .ok (.iinc i n, 3)) (hl : lk ls i = some (.int x)) (hn : i < md_n d) {ls' : List (Nat × Value)} (he : sl1 ls i (.int (x + Int32.ofInt n)) = ls') (k :  WL Z d (pc + 3) ls' st Y) :  WL Z d pc ls st Y := by
  intro p e s m a b mt c H lo la C
  obtain ⟨q, hq⟩ := List.getElem?_of_mem (lk_mem hl)
  exact lv_iinc C.1 C.2.1 h C.2.2.1 hq rfl hn rfl (fun la2 hl2 => k p e s m a b mt c H lo la2 ⟨C.1, C.2.1, he ▸ sl1_has hl2, C.2.2.2⟩)
theorem WL_tabOut {dflt lo hi : Int} {offs : Array Int} {len : Nat} {x : Int32} (tgt : Nat) (h : decode (md_c d) pc = .ok (.tableswitch dflt lo hi offs, len)) (hx : x.toInt < lo ∨ hi < x.toInt) (ht : (pc : Int) + dflt = (tgt : Int)) (k :  WL Z d tgt ls st Y) :  WL Z d pc ls (.int x :: st) Y :=
  fun p e s m a b mt c H lo2 la C => lv_tableOut C.1 C.2.1 h hx ht (k p e s m a b mt c H lo2 la C)
theorem WL_tabIn {dflt lo hi : Int} {offs : Array Int} {len : Nat} {x : Int32} {off : Int} (tgt : Nat) (h : decode (md_c d) pc = .ok (.tableswitch dflt lo hi offs, len)) (h1 : ¬ x.toInt < lo) (h2 : ¬ hi < x.toInt) (ho : offs[(x.toInt - lo).toNat]? = some off) (ht : (pc : Int) + off = (tgt : Int)) (k :  WL Z d tgt ls st Y) :  WL Z d pc ls (.int x :: st) Y :=
  fun p e s m a b mt c H lo2 la C => lv_tableIn C.1 C.2.1 h h1 h2 ho ht (k p e s m a b mt c H lo2 la C)
/-- the switch, target by target -/
theorem WL_tab {dflt lo hi : Int} {offs : Array Int} {len : Nat} {x : Int32} (tgt : Nat) (h : decode (md_c d) pc = .ok (.tableswitch dflt lo hi offs, len)) (ht : (pc : Int) + dflt = (tgt : Int)) (hs : (offs.size : Int) = hi - lo + 1)
    (kd : x.toInt < lo ∨ hi < x.toInt →  WL Z d tgt ls st Y) (kk : ∀ (j : Nat) (off : Int), x.toInt = lo + j → offs[j]? = some off →  WL Z d ((pc : Int) + off).toNat ls st Y) (hp : ∀ off ∈ offs, 0 ≤ (pc : Int) + off) :  WL Z d pc ls (.int x :: st) Y := by
  by_cases h1 : x.toInt < lo
  · exact WL_tabOut tgt h (Or.inl h1) ht (kd (Or.inl h1))
  · by_cases h2 : hi < x.toInt
    · exact WL_tabOut tgt h (Or.inr h2) ht (kd (Or.inr h2))
    · have hj : (x.toInt - lo).toNat < offs.size := by omega
      have ho : offs[(x.toInt - lo).toNat]? = some offs[(x.toInt - lo).toNat] := Array.getElem?_eq_getElem hj
      have hq := hp _ (Array.getElem_mem hj)
      exact WL_tabIn _ h h1 h2 ho (by omega) (kk _ _ (by omega) ho)

theorem md_goodL {z : MD} (hz : Cond.code (md_y z) (md_c z) (md_n z) (md_r z) ∈ wsL_law) : GoodIn wsL_law (md_w z) := by
  intro w hw
  have hin : w ∈ wsL_law := by
    rcases List.mem_cons.mp hw with h | h
    · rw [h]; exact hz
    · exact h
  exact ⟨hin, good_of_word (List.all_eq_true.mp wsL_good w hin)⟩
theorem WL_sld {i : Int32} (h : decode (md_c d) pc = .ok (.iaload, 1)) (hi : vp_in i (z_L Z)) (k : WL Z d (pc + 1) ls (.int (z_x Z i.toNatClampNeg) :: st) Y) : WL Z d pc ls (.int i :: .ref (z_b Z) :: st) Y := by
  intro p e s m as b mt c H lo la C
  have C0 := C
  obtain ⟨hx, hb, hl, hml, hre, hlk, hown, hts, hS, hX, hbs, hargs, hPX, hPM, hA⟩ := C
  exact va_sld hx hb hX hbs.1 (fun q => by have q1 : z_h Z ≤ z_b Z := q; omega) hA hi h (k p e s m as b mt c H lo la C0)
theorem WL_slen (h : decode (md_c d) pc = .ok (.arraylength, 1)) (k : WL Z d (pc + 1) ls (.int (Int32.ofNat (z_L Z)) :: st) Y) : WL Z d pc ls (.ref (z_b Z) :: st) Y := by
  intro p e s m as b mt c H lo la C
  have C0 := C
  obtain ⟨hx, hb, hl, hml, hre, hlk, hown, hts, hS, hX, hbs, hargs, hPX, hPM, hA⟩ := C
  exact va_slen hx hb hX hbs.1 (fun q => by have q1 : z_h Z ≤ z_b Z := q; omega) hA h (k p e s m as b mt c H lo la C0)
theorem WL_ret (h : decode (md_c d) pc = .ok (.ireturn, 1)) (hd : md_c d = code) : WL Z d pc ls [.int 1] Y := by
  intro p e s m as b mt c H lo la C
  obtain ⟨hx, hb, hl, hml, hre, hlk, hown, hts, hS, hX, hbs, hargs, hPX, hPM, hA⟩ := C
  subst hargs
  rw [hd] at hb h
  refine va_forget (fun q hq => by have q1 : z_h Z ≤ q.base := hA.2.2 q hq; omega) (W.widen (k := 600000) (n := 7302250) (by decide) (by decide) ?_)
  exact lw_ret hx hb hre hlk h
def csW (d : MD) (idx : Nat) (y : MD) (k n : Nat) : Prop := ((md_f y + 1 ≤ room_1.frames ∧ 8 + (md_n y + 11) + md_q y ≤ room_1.locals) ∧ csZ y n) ∧ Cond.methodLink (md_o d) idx (md_y y) ∈ wsL_law ∧ Cond.instanceMethod (md_y y) ∈ wsL_law ∧ Cond.selects (pw_C k) (md_y y) (md_y y) ∈ wsL_law

theorem WL_callX {y : MD} {n idx : Nat} {As rest : List Value} {Q0 : Post} {a : Nat} (h : decode (md_c d) pc = .ok (.invokevirtual idx, 3)) (cs : csW d idx y 10 n) (ha : a = z_h Z + 0) (hs : SP (gX Z) y (.ref a :: As) Y.1.1 Y.1.2.1 Y.1.2.2 Q0) (hn : As.length = n) (hst : st = As.reverse ++ .ref a :: rest) (hcat : (rest.map fun v => v.category).sum ≤ 8)
    (kk : ∀ (r : Option Value) (I' : pI) (J' : pJ) (R' : pR), Q0 r I' J' R' → WL Z d (pc + 3) ls (r.toList ++ rest) ((I', J', R'), Y.2)) : WL Z d pc ls st Y := by
  subst ha
  intro p e s m as b2 mt c H lo la C
  obtain ⟨hx, hb, hl, hml, hre, hlk, hown, hts, hS, hX, hbs, hargs, hPX, hPM, hA⟩ := C
  obtain ⟨⟨cr, cd, cc, ci⟩, cl, cin, csel⟩ := cs
  have hP := hPX
  have hbk : g_is (gX Z) (z_h Z + 0) 10 := gk_is (B := zX Z) (i := 0) 10 (by decide) rfl
  obtain ⟨q0, hk⟩ := g_get (I := Y.1.1) (J := Y.1.2.1) (R := Y.1.2.2) hbk.1
  rw [g_F_obj hbk.2 (by decide)] at hk
  have cb : CallB room_1 s as (md_o d) idx (md_y y) (md_c y) (md_n y) (md_r y) (md_w y) (md_rm y) 0 0 n := callB_of n hts (md_goodL cc) rfl rfl rfl (hts _ ci) (hts _ cl) cd cr
  have hrun := va_runV (C := pw_C 10) (As := As) (rest := rest) (g := F0 m pc la st) (below := b2) (e := e) (locs := lo) (cells := 123) (slots := 27795) (meth := mt) ⟨hx, hb, hml, hown, hts⟩ hs ⟨cb, hts _ cin, hts _ csel⟩
    ⟨SP_blind, va_recv hS.1 hP.2 (pw_cl 10 (by decide)) hk, fun U hU hW => ⟨rfl, by rw [hU]; exact hP, hS.warm hW (fun a h1 h2 => by rw [hU]; exact hA.2.1 a h1 (fun q => by have q1 : z_h Z ≤ a := q; omega))⟩⟩ rfl hn hl.1 hst (lv_room hcat) h (by decide)
  intro T hT X
  obtain ⟨v, st₀, t, T', L, h0, X', hL, e1, e2, ⟨⟨r, I', J', R', hv, hq, hP1⟩, hz, hk1⟩, stp⟩ := hrun T hT X
  cases hv
  rw [h0] at hz hk1
  have hP2 : g_P (gM Z) Y.2.1 Y.2.2.1 Y.2.2.2 t.heap := by
    refine ⟨hPM.1, hPM.2.kept fun k q hq2 => ?_⟩
    have hlt := (hPM.2 k q hq2).lt
    refine hk1 q.1 hlt (fun hin => ?_)
    have h1 : q.1 ∈ g_L (gM Z) := (g_apart hPM.1 _).2 k q hq2
    have h2 := gk_lt h1
    have h3 := gk_ge h1
    have h4 := gk_lt hin
    have h5 := gk_ge hin
    have h6 : z_h Z + 74 ≤ q.1 := h3; have h7 : q.1 < z_h Z + 74 := h4
    omega
  obtain ⟨t2, a1, b1⟩ := kk v I' J' R' hq p e s m as b2 mt c T'.heap (lo ++ L) la ⟨hx, hb, hl, hml, hre, hlk, hown, hts, hS, hX, hbs, hargs, by rw [e1]; exact hP1, by rw [e1]; exact hP2,
    ⟨Nat.le_trans hA.1 (by rw [e1]; exact hz), fun q h1 h2 => by rw [e1, hk1 q (Nat.lt_of_lt_of_le h1 hA.1) (fun h => h2 (gk_ge h))]; exact hA.2.1 q h1 h2, fun q hq => by
      rcases List.mem_append.mp hq with h | h
      · exact hA.2.2 q h
      · have h := hL q h
        exact gk_ge h⟩⟩ T' rfl X'
  exact ⟨t2, stp t2 a1, b1⟩

theorem WL_callM {y : MD} {n idx : Nat} {As rest : List Value} {Q0 : Post} {a : Nat} (h : decode (md_c d) pc = .ok (.invokevirtual idx, 3)) (cs : csW d idx y 11 n) (ha : a = z_h Z + 74 + 0) (hs : SP (gM Z) y (.ref a :: As) Y.2.1 Y.2.2.1 Y.2.2.2 Q0) (hn : As.length = n) (hst : st = As.reverse ++ .ref a :: rest) (hcat : (rest.map fun v => v.category).sum ≤ 8)
    (kk : ∀ (r : Option Value) (I' : pI) (J' : pJ) (R' : pR), Q0 r I' J' R' → WL Z d (pc + 3) ls (r.toList ++ rest) (Y.1, (I', J', R'))) : WL Z d pc ls st Y := by
  subst ha
  intro p e s m as b2 mt c H lo la C
  obtain ⟨hx, hb, hl, hml, hre, hlk, hown, hts, hS, hX, hbs, hargs, hPX, hPM, hA⟩ := C
  obtain ⟨⟨cr, cd, cc, ci⟩, cl, cin, csel⟩ := cs
  have hP := hPM
  have hbk : g_is (gM Z) (z_h Z + 74 + 0) 11 := gk_is (B := zM Z) (i := 0) 11 (by decide) rfl
  obtain ⟨q0, hk⟩ := g_get (I := Y.2.1) (J := Y.2.2.1) (R := Y.2.2.2) hbk.1
  rw [g_F_obj hbk.2 (by decide)] at hk
  have cb : CallB room_1 s as (md_o d) idx (md_y y) (md_c y) (md_n y) (md_r y) (md_w y) (md_rm y) 0 0 n := callB_of n hts (md_goodL cc) rfl rfl rfl (hts _ ci) (hts _ cl) cd cr
  have hrun := va_runV (C := pw_C 11) (As := As) (rest := rest) (g := F0 m pc la st) (below := b2) (e := e) (locs := lo) (cells := 123) (slots := 27795) (meth := mt) ⟨hx, hb, hml, hown, hts⟩ hs ⟨cb, hts _ cin, hts _ csel⟩
    ⟨SP_blind, va_recv hS.1 hP.2 (pw_cl 11 (by decide)) hk, fun U hU hW => ⟨rfl, by rw [hU]; exact hP, (gS_M hS).warm hW (fun a h1 h2 => by rw [hU]; exact hA.2.1 a h1 (fun q => by have q1 : z_h Z ≤ a := q; omega))⟩⟩ rfl hn hl.1 hst (lv_room hcat) h (by decide)
  intro T hT X
  obtain ⟨v, st₀, t, T', L, h0, X', hL, e1, e2, ⟨⟨r, I', J', R', hv, hq, hP1⟩, hz, hk1⟩, stp⟩ := hrun T hT X
  cases hv
  rw [h0] at hz hk1
  have hP2 : g_P (gX Z) Y.1.1 Y.1.2.1 Y.1.2.2 t.heap := by
    refine ⟨hPX.1, hPX.2.kept fun k q hq2 => ?_⟩
    have hlt := (hPX.2 k q hq2).lt
    refine hk1 q.1 hlt (fun hin => ?_)
    have h1 : q.1 ∈ g_L (gX Z) := (g_apart hPX.1 _).2 k q hq2
    have h2 := gk_lt h1
    have h3 := gk_ge h1
    have h4 := gk_lt hin
    have h5 := gk_ge hin
    have h6 : z_h Z + 74 ≤ q.1 := h5; have h7 : q.1 < z_h Z + 74 := h2
    omega
  obtain ⟨t2, a1, b1⟩ := kk v I' J' R' hq p e s m as b2 mt c T'.heap (lo ++ L) la ⟨hx, hb, hl, hml, hre, hlk, hown, hts, hS, hX, hbs, hargs, by rw [e1]; exact hP2, by rw [e1]; exact hP1,
    ⟨Nat.le_trans hA.1 (by rw [e1]; exact hz), fun q h1 h2 => by rw [e1, hk1 q (Nat.lt_of_lt_of_le h1 hA.1) (fun h => h2 (Nat.le_trans (Nat.le_add_right _ _) (gk_ge h)))]; exact hA.2.1 q h1 h2, fun q hq => by
      rcases List.mem_append.mp hq with h | h
      · exact hA.2.2 q h
      · have h := hL q h
        exact Nat.le_trans (Nat.le_add_right _ _) (gk_ge h)⟩⟩ T' rfl X'
  exact ⟨t2, stp t2 a1, b1⟩
theorem WL_callX0 {y : MD} {idx : Nat} {rest : List Value} {Q0 : Post} (h : decode (md_c d) pc = .ok (.invokevirtual idx, 3)) (cs : csW d idx y 10 0) (hs : SP (gX Z) y [.ref (z_h Z + 0)] Y.1.1 Y.1.2.1 Y.1.2.2 Q0) (hcat : (rest.map fun v => v.category).sum ≤ 8)
    (kk : ∀ (r : Option Value) (I' : pI) (J' : pJ) (R' : pR), Q0 r I' J' R' → WL Z d (pc + 3) ls (r.toList ++ rest) ((I', J', R'), Y.2)) : WL Z d pc ls (.ref (z_h Z + 0) :: rest) Y :=
  WL_callX (As := []) h cs rfl hs rfl rfl hcat kk
theorem WL_callM0 {y : MD} {idx : Nat} {rest : List Value} {Q0 : Post} (h : decode (md_c d) pc = .ok (.invokevirtual idx, 3)) (cs : csW d idx y 11 0) (hs : SP (gM Z) y [.ref (z_h Z + 74 + 0)] Y.2.1 Y.2.2.1 Y.2.2.2 Q0) (hcat : (rest.map fun v => v.category).sum ≤ 8)
    (kk : ∀ (r : Option Value) (I' : pI) (J' : pJ) (R' : pR), Q0 r I' J' R' → WL Z d (pc + 3) ls (r.toList ++ rest) (Y.1, (I', J', R'))) : WL Z d pc ls (.ref (z_h Z + 74 + 0) :: rest) Y :=
  WL_callM (As := []) h cs rfl hs rfl rfl hcat kk
theorem WL_callX1 {y : MD} {idx : Nat} {rest : List Value} {Q0 : Post} {v1 : Value} (h : decode (md_c d) pc = .ok (.invokevirtual idx, 3)) (cs : csW d idx y 10 1) (hs : SP (gX Z) y [.ref (z_h Z + 0), v1] Y.1.1 Y.1.2.1 Y.1.2.2 Q0) (hcat : (rest.map fun v => v.category).sum ≤ 8)
    (kk : ∀ (r : Option Value) (I' : pI) (J' : pJ) (R' : pR), Q0 r I' J' R' → WL Z d (pc + 3) ls (r.toList ++ rest) ((I', J', R'), Y.2)) : WL Z d pc ls (v1 :: .ref (z_h Z + 0) :: rest) Y :=
  WL_callX (As := [v1]) h cs rfl hs rfl rfl hcat kk
theorem WL_callM1 {y : MD} {idx : Nat} {rest : List Value} {Q0 : Post} {v1 : Value} (h : decode (md_c d) pc = .ok (.invokevirtual idx, 3)) (cs : csW d idx y 11 1) (hs : SP (gM Z) y [.ref (z_h Z + 74 + 0), v1] Y.2.1 Y.2.2.1 Y.2.2.2 Q0) (hcat : (rest.map fun v => v.category).sum ≤ 8)
    (kk : ∀ (r : Option Value) (I' : pI) (J' : pJ) (R' : pR), Q0 r I' J' R' → WL Z d (pc + 3) ls (r.toList ++ rest) (Y.1, (I', J', R'))) : WL Z d pc ls (v1 :: .ref (z_h Z + 74 + 0) :: rest) Y :=
  WL_callM (As := [v1]) h cs rfl hs rfl rfl hcat kk
theorem WL_callX2 {y : MD} {idx : Nat} {rest : List Value} {Q0 : Post} {v1 v2 : Value} (h : decode (md_c d) pc = .ok (.invokevirtual idx, 3)) (cs : csW d idx y 10 2) (hs : SP (gX Z) y [.ref (z_h Z + 0), v1, v2] Y.1.1 Y.1.2.1 Y.1.2.2 Q0) (hcat : (rest.map fun v => v.category).sum ≤ 8)
    (kk : ∀ (r : Option Value) (I' : pI) (J' : pJ) (R' : pR), Q0 r I' J' R' → WL Z d (pc + 3) ls (r.toList ++ rest) ((I', J', R'), Y.2)) : WL Z d pc ls (v2 :: v1 :: .ref (z_h Z + 0) :: rest) Y :=
  WL_callX (As := [v1, v2]) h cs rfl hs rfl rfl hcat kk
theorem WL_callM2 {y : MD} {idx : Nat} {rest : List Value} {Q0 : Post} {v1 v2 : Value} (h : decode (md_c d) pc = .ok (.invokevirtual idx, 3)) (cs : csW d idx y 11 2) (hs : SP (gM Z) y [.ref (z_h Z + 74 + 0), v1, v2] Y.2.1 Y.2.2.1 Y.2.2.2 Q0) (hcat : (rest.map fun v => v.category).sum ≤ 8)
    (kk : ∀ (r : Option Value) (I' : pI) (J' : pJ) (R' : pR), Q0 r I' J' R' → WL Z d (pc + 3) ls (r.toList ++ rest) (Y.1, (I', J', R'))) : WL Z d pc ls (v2 :: v1 :: .ref (z_h Z + 74 + 0) :: rest) Y :=
  WL_callM (As := [v1, v2]) h cs rfl hs rfl rfl hcat kk
theorem WL_callX3 {y : MD} {idx : Nat} {rest : List Value} {Q0 : Post} {v1 v2 v3 : Value} (h : decode (md_c d) pc = .ok (.invokevirtual idx, 3)) (cs : csW d idx y 10 3) (hs : SP (gX Z) y [.ref (z_h Z + 0), v1, v2, v3] Y.1.1 Y.1.2.1 Y.1.2.2 Q0) (hcat : (rest.map fun v => v.category).sum ≤ 8)
    (kk : ∀ (r : Option Value) (I' : pI) (J' : pJ) (R' : pR), Q0 r I' J' R' → WL Z d (pc + 3) ls (r.toList ++ rest) ((I', J', R'), Y.2)) : WL Z d pc ls (v3 :: v2 :: v1 :: .ref (z_h Z + 0) :: rest) Y :=
  WL_callX (As := [v1, v2, v3]) h cs rfl hs rfl rfl hcat kk
theorem WL_callM3 {y : MD} {idx : Nat} {rest : List Value} {Q0 : Post} {v1 v2 v3 : Value} (h : decode (md_c d) pc = .ok (.invokevirtual idx, 3)) (cs : csW d idx y 11 3) (hs : SP (gM Z) y [.ref (z_h Z + 74 + 0), v1, v2, v3] Y.2.1 Y.2.2.1 Y.2.2.2 Q0) (hcat : (rest.map fun v => v.category).sum ≤ 8)
    (kk : ∀ (r : Option Value) (I' : pI) (J' : pJ) (R' : pR), Q0 r I' J' R' → WL Z d (pc + 3) ls (r.toList ++ rest) (Y.1, (I', J', R'))) : WL Z d pc ls (v3 :: v2 :: v1 :: .ref (z_h Z + 74 + 0) :: rest) Y :=
  WL_callM (As := [v1, v2, v3]) h cs rfl hs rfl rfl hcat kk
theorem WL_callX4 {y : MD} {idx : Nat} {rest : List Value} {Q0 : Post} {v1 v2 v3 v4 : Value} (h : decode (md_c d) pc = .ok (.invokevirtual idx, 3)) (cs : csW d idx y 10 4) (hs : SP (gX Z) y [.ref (z_h Z + 0), v1, v2, v3, v4] Y.1.1 Y.1.2.1 Y.1.2.2 Q0) (hcat : (rest.map fun v => v.category).sum ≤ 8)
    (kk : ∀ (r : Option Value) (I' : pI) (J' : pJ) (R' : pR), Q0 r I' J' R' → WL Z d (pc + 3) ls (r.toList ++ rest) ((I', J', R'), Y.2)) : WL Z d pc ls (v4 :: v3 :: v2 :: v1 :: .ref (z_h Z + 0) :: rest) Y :=
  WL_callX (As := [v1, v2, v3, v4]) h cs rfl hs rfl rfl hcat kk
theorem WL_callM4 {y : MD} {idx : Nat} {rest : List Value} {Q0 : Post} {v1 v2 v3 v4 : Value} (h : decode (md_c d) pc = .ok (.invokevirtual idx, 3)) (cs : csW d idx y 11 4) (hs : SP (gM Z) y [.ref (z_h Z + 74 + 0), v1, v2, v3, v4] Y.2.1 Y.2.2.1 Y.2.2.2 Q0) (hcat : (rest.map fun v => v.category).sum ≤ 8)
    (kk : ∀ (r : Option Value) (I' : pI) (J' : pJ) (R' : pR), Q0 r I' J' R' → WL Z d (pc + 3) ls (r.toList ++ rest) (Y.1, (I', J', R'))) : WL Z d pc ls (v4 :: v3 :: v2 :: v1 :: .ref (z_h Z + 74 + 0) :: rest) Y :=
  WL_callM (As := [v1, v2, v3, v4]) h cs rfl hs rfl rfl hcat kk
theorem WL_callX5 {y : MD} {idx : Nat} {rest : List Value} {Q0 : Post} {v1 v2 v3 v4 v5 : Value} (h : decode (md_c d) pc = .ok (.invokevirtual idx, 3)) (cs : csW d idx y 10 5) (hs : SP (gX Z) y [.ref (z_h Z + 0), v1, v2, v3, v4, v5] Y.1.1 Y.1.2.1 Y.1.2.2 Q0) (hcat : (rest.map fun v => v.category).sum ≤ 8)
    (kk : ∀ (r : Option Value) (I' : pI) (J' : pJ) (R' : pR), Q0 r I' J' R' → WL Z d (pc + 3) ls (r.toList ++ rest) ((I', J', R'), Y.2)) : WL Z d pc ls (v5 :: v4 :: v3 :: v2 :: v1 :: .ref (z_h Z + 0) :: rest) Y :=
  WL_callX (As := [v1, v2, v3, v4, v5]) h cs rfl hs rfl rfl hcat kk
theorem WL_callM5 {y : MD} {idx : Nat} {rest : List Value} {Q0 : Post} {v1 v2 v3 v4 v5 : Value} (h : decode (md_c d) pc = .ok (.invokevirtual idx, 3)) (cs : csW d idx y 11 5) (hs : SP (gM Z) y [.ref (z_h Z + 74 + 0), v1, v2, v3, v4, v5] Y.2.1 Y.2.2.1 Y.2.2.2 Q0) (hcat : (rest.map fun v => v.category).sum ≤ 8)
    (kk : ∀ (r : Option Value) (I' : pI) (J' : pJ) (R' : pR), Q0 r I' J' R' → WL Z d (pc + 3) ls (r.toList ++ rest) (Y.1, (I', J', R'))) : WL Z d pc ls (v5 :: v4 :: v3 :: v2 :: v1 :: .ref (z_h Z + 74 + 0) :: rest) Y :=
  WL_callM (As := [v1, v2, v3, v4, v5]) h cs rfl hs rfl rfl hcat kk
theorem WL_callX6 {y : MD} {idx : Nat} {rest : List Value} {Q0 : Post} {v1 v2 v3 v4 v5 v6 : Value} (h : decode (md_c d) pc = .ok (.invokevirtual idx, 3)) (cs : csW d idx y 10 6) (hs : SP (gX Z) y [.ref (z_h Z + 0), v1, v2, v3, v4, v5, v6] Y.1.1 Y.1.2.1 Y.1.2.2 Q0) (hcat : (rest.map fun v => v.category).sum ≤ 8)
    (kk : ∀ (r : Option Value) (I' : pI) (J' : pJ) (R' : pR), Q0 r I' J' R' → WL Z d (pc + 3) ls (r.toList ++ rest) ((I', J', R'), Y.2)) : WL Z d pc ls (v6 :: v5 :: v4 :: v3 :: v2 :: v1 :: .ref (z_h Z + 0) :: rest) Y :=
  WL_callX (As := [v1, v2, v3, v4, v5, v6]) h cs rfl hs rfl rfl hcat kk
theorem WL_callM6 {y : MD} {idx : Nat} {rest : List Value} {Q0 : Post} {v1 v2 v3 v4 v5 v6 : Value} (h : decode (md_c d) pc = .ok (.invokevirtual idx, 3)) (cs : csW d idx y 11 6) (hs : SP (gM Z) y [.ref (z_h Z + 74 + 0), v1, v2, v3, v4, v5, v6] Y.2.1 Y.2.2.1 Y.2.2.2 Q0) (hcat : (rest.map fun v => v.category).sum ≤ 8)
    (kk : ∀ (r : Option Value) (I' : pI) (J' : pJ) (R' : pR), Q0 r I' J' R' → WL Z d (pc + 3) ls (r.toList ++ rest) (Y.1, (I', J', R'))) : WL Z d pc ls (v6 :: v5 :: v4 :: v3 :: v2 :: v1 :: .ref (z_h Z + 74 + 0) :: rest) Y :=
  WL_callM (As := [v1, v2, v3, v4, v5, v6]) h cs rfl hs rfl rfl hcat kk
theorem WL_callX7 {y : MD} {idx : Nat} {rest : List Value} {Q0 : Post} {v1 v2 v3 v4 v5 v6 v7 : Value} (h : decode (md_c d) pc = .ok (.invokevirtual idx, 3)) (cs : csW d idx y 10 7) (hs : SP (gX Z) y [.ref (z_h Z + 0), v1, v2, v3, v4, v5, v6, v7] Y.1.1 Y.1.2.1 Y.1.2.2 Q0) (hcat : (rest.map fun v => v.category).sum ≤ 8)
    (kk : ∀ (r : Option Value) (I' : pI) (J' : pJ) (R' : pR), Q0 r I' J' R' → WL Z d (pc + 3) ls (r.toList ++ rest) ((I', J', R'), Y.2)) : WL Z d pc ls (v7 :: v6 :: v5 :: v4 :: v3 :: v2 :: v1 :: .ref (z_h Z + 0) :: rest) Y :=
  WL_callX (As := [v1, v2, v3, v4, v5, v6, v7]) h cs rfl hs rfl rfl hcat kk
theorem WL_callM7 {y : MD} {idx : Nat} {rest : List Value} {Q0 : Post} {v1 v2 v3 v4 v5 v6 v7 : Value} (h : decode (md_c d) pc = .ok (.invokevirtual idx, 3)) (cs : csW d idx y 11 7) (hs : SP (gM Z) y [.ref (z_h Z + 74 + 0), v1, v2, v3, v4, v5, v6, v7] Y.2.1 Y.2.2.1 Y.2.2.2 Q0) (hcat : (rest.map fun v => v.category).sum ≤ 8)
    (kk : ∀ (r : Option Value) (I' : pI) (J' : pJ) (R' : pR), Q0 r I' J' R' → WL Z d (pc + 3) ls (r.toList ++ rest) (Y.1, (I', J', R'))) : WL Z d pc ls (v7 :: v6 :: v5 :: v4 :: v3 :: v2 :: v1 :: .ref (z_h Z + 74 + 0) :: rest) Y :=
  WL_callM (As := [v1, v2, v3, v4, v5, v6, v7]) h cs rfl hs rfl rfl hcat kk
end Rules
