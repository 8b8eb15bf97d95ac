/-! MAKING: a pool that grows cell by cell from an address on; all addresses are told by numbers -/
abbrev GB : Type := Launch × va_G × (Nat → ClassId) × List Nat × List Nat × Nat × (State → Prop)
abbrev b_b (B : GB) : Nat := B.2.2.2.2.2.1
abbrev b_Z (B : GB) : State → Prop := B.2.2.2.2.2.2
abbrev b_k (B : GB) : List Nat := B.2.2.2.1
abbrev b_n (B : GB) : List Nat := B.2.2.2.2.1
abbrev gk (B : GB) (k : Nat) : GG := (B.1, B.2.1, B.2.2.1, List.range' (b_b B) k, fun a => (b_k B).getD (a - b_b B) 0, fun a => (b_n B).getD (a - b_b B) 0, b_b B, b_Z B)
theorem gk_mem {B : GB} {k i : Nat} (hi : i < k) : b_b B + i ∈ g_L (gk B k) := List.mem_range'_1.mpr ⟨Nat.le_add_right _ _, Nat.add_lt_add_left hi _⟩
theorem gk_lt {B : GB} {k a : Nat} (h : a ∈ g_L (gk B k)) : a < b_b B + k := (List.mem_range'_1.mp h).2
theorem gk_ge {B : GB} {k a : Nat} (h : a ∈ g_L (gk B k)) : b_b B ≤ a := (List.mem_range'_1.mp h).1
theorem gk_is {B : GB} {k i : Nat} (kd : Nat) (hi : i < k) (hk : (b_k B)[i]? = some kd) : g_is (gk B k) (b_b B + i) kd := by
  refine ⟨gk_mem hi, ?_⟩
  show (b_k B).getD (b_b B + i - b_b B) 0 = kd
  rw [Nat.add_sub_cancel_left, List.getD_eq_getElem?_getD, hk]
  rfl
theorem gk_n {B : GB} {k i : Nat} (n : Nat) (hk : (b_n B)[i]? = some n) : g_n (gk B k) (b_b B + i) = n := by
  show (b_n B).getD (b_b B + i - b_b B) 0 = n
  rw [Nat.add_sub_cancel_left, List.getD_eq_getElem?_getD, hk]
  rfl
theorem gk_ad {B : GB} {k i : Nat} (hi : i < k) : ad (gk B k) i = b_b B + i := by
  show (List.range' (b_b B) k).getD i 0 = b_b B + i
  rw [List.getD_eq_getElem?_getD, List.getElem?_range' (by omega)]
  simp
def n_A (B : GB) : Nat → Prop := fun q => b_b B ≤ q
/-- rows not made yet hold nothing -/
def Zk (B : GB) (k : Nat) (I : pI) (J : pJ) (R : pR) : Prop := ∀ a, b_b B + k ≤ a → (∀ q, I a q = 0) ∧ (∀ q, J a q = 0) ∧ (∀ q, R a q = none)
abbrev nd_rm (d : MD) (mc ms : Nat) : Room := { frames := md_f d, cells := mc, slots := ms, locals := md_q d }
abbrev N3 : Type := Nat × Nat × Nat
def n_C (B : GB) (kc cs : Nat) (d : MD) (ls : List (Nat × Value)) (I : pI) (J : pJ) (R : pR) (p : Program) (s : State) (m : MethodId) (args : Array Value) (meth : Method) (c : Code) (H : Heap) (locs : List Loc) (la : Array Slot) : Prop :=
  p.tables.exec = Jvm.exec ∧ c.code = md_c d ∧ lv_has la (md_n d) ls ∧ c.maxLocals = md_n d ∧ meth.sig.returnType = md_r d ∧ meth.locks = false ∧ s.vm.findClass (md_o d) = some m.cls ∧ (∀ w ∈ md_w d, w.before args s = true) ∧ g_S (gk B kc) s ∧ g_P (gk B kc) I J R H ∧ va_S (n_A B) s.heap H locs ∧ Zk B kc I J R ∧ s.heap.size + cs = b_b B + kc ∧ meth.name = "<init>" ∧ va_AO RX4 s
/-- the end of a making: z = (cells of the pool at the end, cells made, slots made) -/
def n_Q (B : GB) (k1 : Nat) (Q : pI → pJ → pR → Prop) : Array Value → State → Outcome → State → Prop := fun _ st oc t => (∃ (I : pI) (J : pJ) (R : pR), oc = .returned none ∧ Q I J R ∧ g_P (gk B k1) I J R t.heap) ∧ va_F (n_A B) st t
def WN (B : GB) (d : MD) (z : N3) (kc cs ss : Nat) (pc : Nat) (ls : List (Nat × Value)) (st : List Value) (I : pI) (J : pJ) (R : pR) (Q : pI → pJ → pR → Prop) : Prop :=
  ∀ (p : Program) (e : Env) (s : State) (m : MethodId) (args : Array Value) (below : List Frame) (meth : Method) (c : Code) (H : Heap) (locs : List Loc) (la : Array Slot), n_C B kc cs d ls I J R p s m args meth c H locs la →
    W p B.1 e (nd_rm d z.2.1 z.2.2) s m args below meth c H locs cs ss (MQ below (n_Q B z.1 Q) args s z.2.1 z.2.2 (n_A B)) (F0 m pc la st)
def n_Pre (B : GB) (k0 : Nat) (as : List Value) (I : pI) (J : pJ) (R : pR) : Array Value → State → Prop := fun v U => v = as.toArray ∧ g_P (gk B k0) I J R U.heap ∧ Zk B k0 I J R ∧ U.heap.size = b_b B + k0 ∧ g_S (gk B k0) U ∧ va_AO RX4 U
def SN (B : GB) (d : MD) (k0 : Nat) (z : N3) (as : List Value) (I : pI) (J : pJ) (R : pR) (Q : pI → pJ → pR → Prop) : Prop :=
  Met B.1 (md_y d) (md_w d) (nd_rm d z.2.1 z.2.2) (n_Pre B k0 as I J R) (n_Q B z.1 Q) z.2.1 z.2.2 (n_A B)
theorem n_blind {B : GB} {k0 : Nat} {as : List Value} {I : pI} {J : pJ} {R : pR} : FrameBlind (n_Pre B k0 as I J R) := fun a U f mk q => ⟨q.1, q.2.1, q.2.2.1, q.2.2.2.1, q.2.2.2.2.1.same rfl rfl, va_AO.moved (Vm.Alike.refl _) q.2.2.2.2.2⟩
theorem SN_of {B : GB} {d : MD} {k0 : Nat} {z : N3} {as : List Value} {I : pI} {J : pJ} {R : pR} {Q : pI → pJ → pR → Prop} (hy : plainName (md_y d).cls = true ∧ md_o d = (md_y d).cls ∧ (md_y d).name = "<init>") (hn : (lg_sl as).length ≤ md_n d) (h : WN B d z k0 0 0 0 (lv_args 0 as) [] I J R Q) : SN B d k0 z as I J R Q := by
  refine Met.ofW (cc := md_c d) (maxL := md_n d) (ret := md_r d) hy.1 rfl ?_
  intro p e s m args below meth c s₁ B0 hml hv
  obtain ⟨rfl, hP, hZ, hsz, hS, hAO⟩ := hv
  have hts := atoms_spec (ws := md_w d) B0.pre
  have hown : s.vm.findClass (md_o d) = some m.cls := by rw [hy.2.1]; exact findClass_of_methodNamed B0.named
  have hnm : meth.name = "<init>" := (name_of_methodNamed B0.named B0.method).1.trans hy.2.2
  have hl := lv_entry as (n := md_n d) hn
  rw [lg_entry_eq]
  exact h p e s m _ below meth c s.heap [] _ ⟨B0.exec, B0.bytes, hl, hml, B0.returns, B0.notSynchronized, hown, hts, hS, hP, va_S.rf, hZ, by omega, hnm, hAO⟩
/-- the pool's size is the heap's -/
theorem n_size {B : GB} {kc cs ss : Nat} {I : pI} {J : pJ} {R : pR} {p : Program} {l : Launch} {e : Env} {Rm : Room} {s : State} {m : MethodId} {args : Array Value} {below : List Frame} {meth : Method} {c : Code} {T : State} {locs : List Loc} (X : Stand p l e Rm s m args below meth c T locs cs ss) (hP : g_P (gk B (kc + 1)) I J R T.heap) (hs : s.heap.size + cs = b_b B + (kc + 1)) : T.heap.size = b_b B + (kc + 1) := by
  have h1 : T.heap.size ≤ s.heap.size + cs := X.same.2.2.1
  obtain ⟨q, hq⟩ := g_get (g := gk B (kc + 1)) (I := I) (J := J) (R := R) (gk_mem (i := kc) (Nat.lt_succ_self kc))
  have h2 := (hP.2 q _ hq).lt
  have h3 : b_b B + kc < T.heap.size := h2
  omega
theorem n_sz {B : GB} {kc cs ss : Nat} {d : MD} {ls : List (Nat × Value)} {I : pI} {J : pJ} {R : pR} {p : Program} {l : Launch} {e : Env} {Rm : Room} {s : State} {m : MethodId} {args : Array Value} {below : List Frame} {meth : Method} {c : Code} {H : Heap} {locs : List Loc} {la : Array Slot} {Qs : State → Prop} {f : JFrame} (C : n_C B (kc + 1) cs d ls I J R p s m args meth c H locs la) (k : H.size = b_b B + (kc + 1) → W p l e Rm s m args below meth c H locs cs ss Qs f) : W p l e Rm s m args below meth c H locs cs ss Qs f := by
  intro T hT X
  obtain ⟨-, -, -, -, -, -, -, -, -, hP, -, -, hsz, -⟩ := C
  have hz : T.heap.size = b_b B + (kc + 1) := n_size X (by rw [hT]; exact hP) hsz
  exact k (by rw [← hT]; exact hz) T hT X
theorem g_S.any {B : GB} {k k' : Nat} {s : State} (h : g_S (gk B k) s) : g_S (gk B k') s := by
  exact ⟨h.1, h.2.1, fun a ha => gk_ge ha, h.2.2.2.1, h.2.2.2.2⟩
theorem ra_at {s : State} {cA c1 : ClassId} (at0 : ArrayType) (h1 : s.vm.findClass ("[" ++ (newarray.typeOf at0).toString) = some cA) (h2 : va_RA s c1 (newarray.typeOf at0)) : cA = c1 := by
  cases at0 <;> exact Option.some.inj (h1.symm.trans h2)
section Rules
variable {B : GB} {d : MD} {z : N3} {kc cs ss : Nat} {pc : Nat} {ls : List (Nat × Value)} {st : List Value} {I : pI} {J : pJ} {R : pR} {Q : pI → pJ → pR → Prop}
theorem WN_iconst {n : Int} (v : Int32) (h : decode (md_c d) pc = .ok (.iconst n, 1)) (hv : Int32.ofInt n = v) (k :  WN B d z kc cs ss (pc + 1) ls (.int v :: st) I J R Q) :  WN B d z kc cs ss pc ls st I J R Q :=
  fun p e s m a b mt c H lo la C => lv_iconst C.1 C.2.1 h hv (k p e s m a b mt c H lo la C)
theorem WN_bipush {n : Int} (v : Int32) (h : decode (md_c d) pc = .ok (.bipush n, 2)) (hv : (Int8.ofInt n).toInt32 = v) (k :  WN B d z kc cs ss (pc + 2) ls (.int v :: st) I J R Q) :  WN B d z kc cs ss pc ls st I J R Q :=
  fun p e s m a b mt c H lo la C => lv_bipush C.1 C.2.1 h hv (k p e s m a b mt c H lo la C)
theorem WN_sipush {n : Int} (v : Int32) (h : decode (md_c d) pc = .ok (.sipush n, 3)) (hv : (Int16.ofInt n).toInt32 = v) (k :  WN B d z kc cs ss (pc + 3) ls (.int v :: st) I J R Q) :  WN B d z kc cs ss pc ls st I J R Q :=
  fun p e s m a b mt c H lo la C => lv_sipush C.1 C.2.1 h hv (k p e s m a b mt c H lo la C)
theorem WN_goto {off : Int} (tgt : Nat) (h : decode (md_c d) pc = .ok (.goto off, 3)) (ht : (pc : Int) + off = (tgt : Int)) (k :  WN B d z kc cs ss tgt ls st I J R Q) :  WN B d z kc cs ss pc ls st I J R Q :=
  fun p e s m a b mt c H lo la C => lv_goto C.1 C.2.1 h ht (k p e s m a b mt c H lo la C)
theorem WN_iadd {x y : Int32} (h : decode (md_c d) pc = .ok (.iadd, 1)) (k :  WN B d z kc cs ss (pc + 1) ls (.int (x + y) :: st) I J R Q) :  WN B d z kc cs ss pc ls (.int y :: .int x :: st) I J R Q :=
  fun p e s m a b mt c H lo la C => lv_iadd C.1 C.2.1 h (k p e s m a b mt c H lo la C)
theorem WN_dup {v : Value} (h : decode (md_c d) pc = .ok (.dup, 1)) (hv : v.category = 1) (k :  WN B d z kc cs ss (pc + 1) ls (v :: v :: st) I J R Q) :  WN B d z kc cs ss pc ls (v :: st) I J R Q :=
  fun p e s m a b mt c H lo la C => lv_dup C.1 C.2.1 h hv (k p e s m a b mt c H lo la C)
theorem WN_icmp_ge {x y : Int32} {off : Int} (tgt : Nat) (h : decode (md_c d) pc = .ok (.if_icmp .ge off, 3)) (ht : (pc : Int) + off = (tgt : Int)) (kt : y ≤ x →  WN B d z kc cs ss tgt ls st I J R Q) (kf : ¬ y ≤ x →  WN B d z kc cs ss (pc + 3) ls st I J R Q) :  WN B d z kc cs ss pc ls (.int y :: .int x :: st) I J R Q :=
  fun p e s m a b mt c H lo la C => lv_icmp_ge C.1 C.2.1 h ht (fun q => kt q p e s m a b mt c H lo la C) (fun q => kf q p e s m a b mt c H lo la C)
theorem WN_iload_n {n : Fin 4} {x : Int32} (h : decode (md_c d) pc = .ok (.iload_n n, 1)) (hl : lk ls (n : Nat) = some (.int x)) (k :  WN B d z kc cs ss (pc + 1) ls (.int x :: st) I J R Q) :  WN B d z kc cs ss pc ls st I J R Q :=
  fun p e s m a b mt c H lo la C => lv_iload_n C.1 C.2.1 h rfl (lk_has hl C.2.2.1) (k p e s m a b mt c H lo la C)
theorem WN_istore_n {n : Fin 4} {x : Int32} (h : decode (md_c d) pc = .ok (.istore_n n, 1)) (hn : (n : Nat) < md_n d) {ls' : List (Nat × Value)} (he : sl1 ls (n : Nat) (.int x) = ls') (k :  WN B d z kc cs ss (pc + 1) ls' st I J R Q) :  WN B d z kc cs ss pc ls (.int x :: st) I J R Q :=
  fun p e s m a b mt c H lo la C => lv_istore_n C.1 C.2.1 h rfl C.2.2.1 hn rfl (fun la2 hl2 => k p e s m a b mt c H lo la2 ⟨C.1, C.2.1, he ▸ sl1_has hl2, C.2.2.2⟩)
theorem WN_aload_n {n : Fin 4} {x : Nat} (h : decode (md_c d) pc = .ok (.aload_n n, 1)) (hl : lk ls (n : Nat) = some (.ref x)) (k :  WN B d z kc cs ss (pc + 1) ls (.ref x :: st) I J R Q) :  WN B d z kc cs ss pc ls st I J R Q :=
  fun p e s m a b mt c H lo la C => lv_aload_n C.1 C.2.1 h rfl (lk_has hl C.2.2.1) (k p e s m a b mt c H lo la C)
theorem WN_iinc {i : Nat} {n : Int} {x : Int32} (h : decode (md_c d) pc = .ok (.iinc i n, 3)) (hl : lk ls i = some (.int x)) (hn : i < md_n d) {ls' : List (Nat × Value)} (he : sl1 ls i (.int (x + Int32.ofInt n)) = ls') (k :  WN B d z kc cs ss (pc + 3) ls' st I J R Q) :  WN B d z kc cs ss pc ls st I J R Q := by
  intro p e s m a b mt c H lo la C
  obtain ⟨q, hq⟩ := List.getElem?_of_mem (lk_mem hl)
  exact lv_iinc C.1 C.2.1 h C.2.2.1 hq rfl hn rfl (fun la2 hl2 => k p e s m a b mt c H lo la2 ⟨C.1, C.2.1, he ▸ sl1_has hl2, C.2.2.2⟩)

theorem WN_get {idx k q a : Nat} {v : Value} (h : decode (md_c d) pc = .ok (.getfield idx, 3)) (f : fl (md_o d) idx k q) (ha : g_is (gk B kc) a k) (hv : pw_v (pw_ty k q) (I a q) (J a q) (R a q) = v) (kk : WN B d z kc cs ss (pc + 3) ls (v :: st) I J R Q) : WN B d z kc cs ss pc ls (.ref a :: st) I J R Q := by
  intro p e s m as b mt c H lo la C
  have C0 := C
  obtain ⟨hx, hb, hl, hml, hr, hlk, hown, hts, hS, ⟨hn, hP⟩, hA, -⟩ := C
  obtain ⟨n, hk⟩ := g_get (I := I) (J := J) (R := R) ha.1
  have hk2 : (g_W (gk B kc) I J R)[n]? = some (a, .inr (k, pw_fs k I J R a)) := by rw [hk, g_F_obj ha.2 f.1]
  exact va_get (D := g_D (gk B kc)) hx hb hts (fun w hw => List.mem_cons_of_mem _ (pw_in k f.1 w hw)) hown hS.1 hP n hk2 (pw_cl k f.1) q f.2.1 (hts _ (List.mem_cons_of_mem _ f.2.2)) (fun _ h9 => h9) (by rw [pw_fs_get f.2.1, hv]) h (kk p e s m as b mt c H lo la C0)
theorem WN_getr {idx k q a b : Nat} (h : decode (md_c d) pc = .ok (.getfield idx, 3)) (f : fl (md_o d) idx k q) (ht : pw_v (pw_ty k q) = fun _ _ r => va_rf r) (ha : g_is (gk B kc) a k) (hb : R a q = some b) (kk : WN B d z kc cs ss (pc + 3) ls (.ref b :: st) I J R Q) : WN B d z kc cs ss pc ls (.ref a :: st) I J R Q :=
  WN_get h f ha (by rw [ht]; simp only [hb]; rfl) kk
theorem WN_put {idx k q a : Nat} {v : Value} {I' : pI} {J' : pJ} {R' : pR} (h : decode (md_c d) pc = .ok (.putfield idx, 3)) (f : fl (md_o d) idx k q) (hf : (pw_T k q).1 = md_o d) (ha : g_is (gk B kc) a k) (hn : narrow (pw_ty k q) v = v) (hfit : fits (pw_ty k q) v = true)
    (hv : pw_v (pw_ty k q) (I' a q) (J' a q) (R' a q) = v) (ho : ∀ z, z ≠ q → I' a z = I a z ∧ J' a z = J a z ∧ R' a z = R a z) (hoff : ∀ b, b ≠ a → I' b = I b ∧ J' b = J b ∧ R' b = R b)
    (kk : WN B d z kc cs ss (pc + 3) ls st I' J' R' Q) : WN B d z kc cs ss pc ls (v :: .ref a :: st) I J R Q := by
  intro p e s m as b mt c H lo la C
  obtain ⟨hx, hb, hl, hml, hr, hlk, hown, hts, hS, ⟨hnd, hP⟩, hA, hZ, hsz, hnm, hAO⟩ := C
  obtain ⟨n, hk⟩ := g_get (I := I) (J := J) (R := R) ha.1
  have hk2 : (g_W (gk B kc) I J R)[n]? = some (a, .inr (k, pw_fs k I J R a)) := by rw [hk, g_F_obj ha.2 f.1]
  have hD : va_D (n_A B) (g_W (gk B kc) I J R) := (g_apart hnd _).weaken (fun i q _ h => gk_ge h)
  have hw : (g_W (gk B kc) I J R).set n (a, .inr (k, (pw_fs k I J R a).set q v)) = g_W (gk B kc) I' J' R' := by
    refine g_set hnd ha.1 hk ?_ (fun b hb => g_F_off (hoff b hb).1 (hoff b hb).2.1 (hoff b hb).2.2)
    rw [g_F_obj ha.2 f.1, pw_fs_set f.2.1 hv ho]
  have hZ' : Zk B kc I' J' R' := fun x hx2 => by
    have hne : x ≠ a := by have := gk_lt ha.1; omega
    rw [(hoff x hne).1, (hoff x hne).2.1, (hoff x hne).2.2]
    exact hZ x hx2
  cases hfin : (pw_T k q).2.2.2 with
  | false =>
    refine va_put (D := g_D (gk B kc)) (A := n_A B) hx hb hts (fun w hw => List.mem_cons_of_mem _ (pw_in k f.1 w hw)) (pw_ty k) (pw_tyok k f.1) (pw_nm k f.1) hown hS.1 hP hD hA n hk2 (pw_cl k f.1) q f.2.1 (hts _ (List.mem_cons_of_mem _ f.2.2)) (fun _ h9 => h9) hfin (pw_tyok k f.1 q f.2.1) hn hfit (by rw [pw_fs_len]; exact f.2.1) h (fun H1 lo1 hP1 hD1 hS1 => ?_)
    rw [hw] at hP1
    exact kk p e s m as b mt c H1 lo1 la ⟨hx, hb, hl, hml, hr, hlk, hown, hts, hS, ⟨hnd, hP1⟩, hS1, hZ', hsz, hnm, hAO⟩
  | true =>
    refine va_putF (D := g_D (gk B kc)) (A := n_A B) hx hb hts (fun w hw => List.mem_cons_of_mem _ (pw_in k f.1 w hw)) (pw_ty k) (pw_tyok k f.1) (pw_nm k f.1) hown hS.1 hP hD hA n hk2 (pw_cl k f.1) q f.2.1 (hts _ (List.mem_cons_of_mem _ f.2.2)) (fun _ h9 => h9) hfin hnm hf (pw_tyok k f.1 q f.2.1) hn hfit (by rw [pw_fs_len]; exact f.2.1) h (fun H1 lo1 hP1 hD1 hS1 => ?_)
    rw [hw] at hP1
    exact kk p e s m as b mt c H1 lo1 la ⟨hx, hb, hl, hml, hr, hlk, hown, hts, hS, ⟨hnd, hP1⟩, hS1, hZ', hsz, hnm, hAO⟩
theorem WN_puti {idx k q a : Nat} {x : Int32} (h : decode (md_c d) pc = .ok (.putfield idx, 3)) (f : fl (md_o d) idx k q) (hf : (pw_T k q).1 = md_o d) (ht : pw_ty k q = .int) (ha : g_is (gk B kc) a k) (kk : WN B d z kc cs ss (pc + 3) ls st (pp I a q x) J R Q) : WN B d z kc cs ss pc ls (.int x :: .ref a :: st) I J R Q :=
  WN_put h f hf ha (by rw [ht]; rfl) (by rw [ht]; rfl) (by rw [ht, pp_self]; rfl) (fun z hz => ⟨pp_ne _ _ (Or.inr hz), rfl, rfl⟩) (fun b hb => ⟨pp_off _ _ hb, rfl, rfl⟩) kk
/-- references told so far: (cell, field, cell) -/
def RI (B : GB) (E : List (Nat × Nat × Nat)) (R : pR) : Prop := ∀ e ∈ E, R (b_b B + e.1) e.2.1 = some (b_b B + e.2.2)
theorem RI_pp {E : List (Nat × Nat × Nat)} {c q t : Nat} (h : RI B E R) (hf : (E.all fun e => !(e.1 == c && e.2.1 == q)) = true) : RI B ((c, q, t) :: E) (pp R (b_b B + c) q (some (b_b B + t))) := by
  intro e he
  rcases List.mem_cons.mp he with rfl | he
  · exact pp_self _ _ _ _
  · have h1 := List.all_eq_true.mp hf e he
    rw [pp_ne]
    · exact h e he
    · simp only [Bool.not_eq_true', Bool.and_eq_false_iff, beq_eq_false_iff_ne] at h1
      rcases h1 with h1 | h1
      · exact Or.inl (by omega)
      · exact Or.inr h1
theorem WN_putr {E : List (Nat × Nat × Nat)} {idx k q c t : Nat} (h : decode (md_c d) pc = .ok (.putfield idx, 3)) (f : fl (md_o d) idx k q) (hf : (pw_T k q).1 = md_o d) (ht : pw_v (pw_ty k q) = fun _ _ r => va_rf r) (hn : narrow (pw_ty k q) (.ref (b_b B + t)) = .ref (b_b B + t)) (hfit : fits (pw_ty k q) (.ref (b_b B + t)) = true) (hc : c < kc) (hkd : (b_k B)[c]? = some k) (hE : RI B E R) (hfr : (E.all fun e => !(e.1 == c && e.2.1 == q)) = true)
    (kk : ∀ R', RI B ((c, q, t) :: E) R' → WN B d z kc cs ss (pc + 3) ls st I J R' Q) : WN B d z kc cs ss pc ls (.ref (b_b B + t) :: .ref (b_b B + c) :: st) I J R Q :=
  WN_put h f hf (gk_is k hc hkd) hn hfit (by rw [ht, pp_self]; rfl) (fun z hz => ⟨rfl, rfl, pp_ne _ _ (Or.inr hz)⟩) (fun c hc => ⟨rfl, rfl, pp_off _ _ hc⟩) (kk _ (RI_pp hE hfr))
/-- the object's own super -/
theorem wl_obji : Cond.instanceMethod Lib.objectInit ∈ wsL_law ∧ Cond.code Lib.objectInit ⟨#[0xb1]⟩ 1 none ∈ wsL_law := by decide +kernel
theorem WN_obji {a idx : Nat} (h : decode (md_c d) pc = .ok (.invokespecial idx, 3)) (hl : Cond.methodLink (md_o d) idx Lib.objectInit ∈ wsL_law) (hR : 1 ≤ md_f d ∧ (st.map fun v => v.category).sum + 12 ≤ md_q d) (kk : WN B d z kc cs ss (pc + 3) ls st I J R Q) : WN B d z kc cs ss pc ls (.ref a :: st) I J R Q := by
  intro p e s m as b mt c H lo la C
  have ht : ∀ w ∈ wsL_law, w.before as s = true := fun w hw => C.2.2.2.2.2.2.2.1 w (List.mem_cons_of_mem _ hw)
  exact W.objInit (own := md_o d) C.1 C.2.1 C.2.2.2.2.2.2.1 (ht _ hl) (ht _ wl_obji.1) (ht _ wl_obji.2) rfl (C.2.2.1.1.trans C.2.2.2.1.symm) rfl h hR.1 (by show 2 * 0 + _ + 12 ≤ _; rw [Nat.mul_zero, Nat.zero_add]; exact hR.2) (kk p e s m as b mt c H lo la C)
/-- a new cell behind the pool -/
theorem n_push {E0 : va_E} {s : State} {H H1 : Heap} {lo : List Loc} (hP : g_P (gk B kc) I J R H) (hz : H.size = b_b B + kc) (he : g_F (gk B (kc + 1)) I J R (b_b B + kc) = E0) (hk : ∀ q, q < H.size → H1[q]? = H[q]?) (h1 : H1.size = H.size + 1) (hat : va_at (g_D (gk B kc)) vwCl (b_b B + kc, E0) H1) (hA : va_S (n_A B) s.heap H lo) : g_P (gk B (kc + 1)) I J R H1 ∧ va_S (n_A B) s.heap H1 lo := by
  refine ⟨⟨List.nodup_range' 1, ?_⟩, ⟨Nat.le_trans hA.1 (by omega), fun x h2 h3 => (hk x (Nat.lt_of_lt_of_le h2 hA.1)).trans (hA.2.1 x h2 h3), hA.2.2⟩⟩
  have hL : g_W (gk B (kc + 1)) I J R = g_W (gk B kc) I J R ++ [(b_b B + kc, E0)] := by
    show va_pl (List.range' (b_b B) (kc + 1)) _ = va_pl (List.range' (b_b B) kc) _ ++ _
    rw [List.range'_concat]
    simp only [va_pl, List.map_append, List.map_cons, List.map_nil, Nat.one_mul]
    rw [he]
    rfl
  rw [hL]
  refine va_P.app (hP.2.kept fun k x hx => hk x.1 ((hP.2 k x hx).lt)) (fun k x hx => ?_)
  have hz : k < 1 := (List.getElem?_eq_some_iff.mp hx).1
  rw [show k = 0 by omega] at hx
  cases hx
  exact hat
/-- a row's class by its number, type, contents -/
def nw_ok (at0 : ArrayType) (kd : Nat) : Prop := (Cond.arrayClass (newarray.typeOf at0) ∈ wsL_law) ∧ ((at0 = .byte ∧ kd = 12) ∨ (at0 = .int ∧ kd = 13) ∨ (at0 = .long ∧ kd = 14) ∨ (at0 = .boolean ∧ kd = 15))
theorem nw_bytes {at0 : ArrayType} {kd N : Nat} (hk : nw_ok at0 kd) (h : N ≤ 16384) : N * componentBytes (newarray.typeOf at0) ≤ 536870912 := by
  have h8 : componentBytes (newarray.typeOf at0) ≤ 8 := by
    rcases hk.2 with ⟨rfl, -⟩ | ⟨rfl, -⟩ | ⟨rfl, -⟩ | ⟨rfl, -⟩ <;> decide
  exact Nat.le_trans (Nat.mul_le_mul h h8) (by decide)
theorem WN_newa {at0 : ArrayType} {n : Int32} {N kd : Nat} (h : decode (md_c d) pc = .ok (.newarray at0, 2)) (hk : nw_ok at0 kd) (hkd : (b_k B)[kc + 1]? = some kd) (hnt : (b_n B)[kc + 1]? = some N) (hn : ¬ n < 0) (hN : n.toNatClampNeg = N) (hby : N ≤ 16384) (hr : cs + 1 ≤ z.2.1 ∧ ss + N ≤ z.2.2)
    (kk : WN B d z (kc + 2) (cs + 1) (ss + N) (pc + 2) ls (.ref (b_b B + (kc + 1)) :: st) I J R Q) : WN B d z (kc + 1) cs ss pc ls (.int n :: st) I J R Q := by
  intro p e s m as b mt c H lo la C
  refine n_sz C (fun hz => ?_)
  obtain ⟨hx, hb, hl, hml, hre, hlk, hown, hts, hS, hP, hA, hZ, hsz, hnm, hAO⟩ := C
  refine va_newaK hx hb (hts _ (List.mem_cons_of_mem _ hk.1)) rfl h rfl hn hN (nw_bytes hk hby) hr.1 hr.2 hz (fun H1 cA e1 z1 o1 hAr hNm => ?_)
  have hZ1 := hZ (b_b B + (kc + 1)) (Nat.le_refl _)
  have hKn : g_K (gk B (kc + 2)) (b_b B + (kc + 1)) = kd := (gk_is (B := B) (k := kc + 2) kd (by omega) hkd).2
  have hnn : g_n (gk B (kc + 2)) (b_b B + (kc + 1)) = N := gk_n N hnt
  have hI : I (b_b B + (kc + 1)) = fun _ => 0 := funext hZ1.1
  have hJ : J (b_b B + (kc + 1)) = fun _ => 0 := funext hZ1.2.1
  have fin : ∀ E0 : va_E, g_F (gk B (kc + 2)) I J R (b_b B + (kc + 1)) = E0 → va_at (g_D (gk B (kc + 1))) vwCl (b_b B + (kc + 1), E0) H1 → W p B.1 e (nd_rm d z.2.1 z.2.2) s m as b mt c H1 lo (cs + 1) (ss + N) (MQ b (n_Q B z.1 Q) as s z.2.1 z.2.2 (n_A B)) (F0 m (pc + 2) la (.ref (b_b B + (kc + 1)) :: st)) := by
    intro E0 he hat
    obtain ⟨hP1, hA1⟩ := n_push hP hz he (fun q hq => o1 q (by rw [← hz]; exact hq)) (by rw [z1, hz]) hat hA
    exact kk p e s m as b mt c H1 lo la ⟨hx, hb, hl, hml, hre, hlk, hown, hts, hS.any, hP1, hA1, fun a ha => hZ a (by omega), by omega, hnm, hAO⟩
  rcases hk.2 with ⟨rfl, rfl⟩ | ⟨rfl, rfl⟩ | ⟨rfl, rfl⟩ | ⟨rfl, rfl⟩
  · have hc : cA = g_cy (gk B kc) 12 := ra_at .byte hNm (hS.1.2 0 _ rfl).2
    refine fin _ (g_F_int hKn (Or.inl rfl)) ?_
    show H1[_]? = some (vp_cell _ _)
    rw [hnn, hI, e1, hc]
    rfl
  · have hc : cA = g_cy (gk B kc) 13 := ra_at .int hNm (hS.1.2 1 _ rfl).2
    refine fin _ (g_F_int hKn (Or.inr (Or.inl rfl))) ?_
    show H1[_]? = some (vp_cell _ _)
    rw [hnn, hI, e1, hc]
    rfl
  · have hc : cA = g_cy (gk B kc) 14 := ra_at .long hNm (hS.1.2 2 _ rfl).2
    refine fin _ (g_F_long hKn) ?_
    show H1[_]? = some (vp_cell _ _)
    rw [hnn, hJ, e1, hc]
    rfl
  · have hc : cA = g_cy (gk B kc) 15 := ra_at .boolean hNm (hS.1.2 3 _ rfl).2
    refine fin _ (g_F_int hKn (Or.inr (Or.inr rfl))) ?_
    show H1[_]? = some (vp_cell _ _)
    rw [hnn, hI, e1, hc]
    rfl

theorem WN_newaQ {at0 : ArrayType} {n : Int32} {N kd k1 k2 c2 s2 : Nat} (kc : Nat) (hq : kc + 1 = k1 ∧ kc + 2 = k2 ∧ cs + 1 = c2 ∧ ss + N = s2) (h : decode (md_c d) pc = .ok (.newarray at0, 2)) (hk : nw_ok at0 kd) (hkd : (b_k B)[k1]? = some kd) (hnt : (b_n B)[k1]? = some N) (hn : ¬ n < 0) (hN : n.toNatClampNeg = N) (hr : N ≤ 16384 ∧ c2 ≤ z.2.1 ∧ s2 ≤ z.2.2)
    (kk : WN B d z k2 c2 s2 (pc + 2) ls (.ref (b_b B + k1) :: st) I J R Q) : WN B d z k1 cs ss pc ls (.int n :: st) I J R Q := by
  obtain ⟨rfl, rfl, rfl, rfl⟩ := hq
  exact WN_newa h hk hkd hnt hn hN hr.1 hr.2 kk
def nc_ok (own : String) (idx kd : Nat) : Prop := kd < 12 ∧ Cond.classLink own idx (pw_C kd) ∈ wsL_law ∧ Cond.instantiable (pw_C kd) (pw_N kd) ∈ wsL_law ∧ Cond.initialized (pw_C kd) ∈ wsL_law
def okTy (ty : FieldType) : Bool := match ty with
  | .int => true | .long => true | .boolean => true | .byte => true | .object _ => true | .array _ => true | _ => false
theorem okTy_v {ty : FieldType} (h : okTy ty = true) : defaultValue ty = pw_v ty 0 0 none := by
  cases ty <;> first | rfl | (simp [okTy] at h)
theorem okTy_all : ∀ k, k < 12 → ∀ j, j < pw_N k → okTy (pw_ty k j) = true := pw_12 (by decide +kernel) (by decide +kernel) (by decide +kernel) (by decide +kernel) (by decide +kernel) (by decide +kernel) (by decide +kernel) (by decide +kernel) (by decide +kernel) (by decide +kernel) (by decide +kernel) (by decide +kernel)
theorem n_born {a kd : Nat} {T : State} {as : Array Value} {H1 : Heap} {kC : Class} (hk : kd < 12) (hI : I a = fun _ => 0) (hJ : J a = fun _ => 0) (hR : R a = fun _ => none) (hts : ∀ w ∈ md_w d, w.before as T = true) (hS : g_S (gk B kc) T) (hkC : T.vm.classes[(g_D (gk B kc)).1 kd]? = some kC) (e1 : H1[a]? = some (blank ((g_D (gk B kc)).1 kd) kC)) : va_at (g_D (gk B kc)) vwCl (a, .inr (kd, pw_fs kd I J R a)) H1 := by
  refine ⟨_, pw_cl kd hk, (u_born (pw_ty kd) hts (fun w hw => List.mem_cons_of_mem _ (pw_in kd hk w hw)) (hS.1.1 kd _ (pw_cl kd hk)) hkC e1 (pw_tyok kd hk)).to (fun j hj => ?_)⟩
  show defaultValue (pw_ty kd j) = vp_V (pw_fs kd I J R a) j
  unfold vp_V
  rw [List.getD_eq_getElem?_getD, pw_fs_get hj, hI, hJ, hR]
  exact okTy_v (okTy_all kd hk j hj)
theorem WN_new {idx kd N k1 k2 c2 s2 : Nat} (kc : Nat) (hq : kc + 1 = k1 ∧ kc + 2 = k2 ∧ cs + 1 = c2 ∧ ss + N = s2 ∧ pw_N kd = N) (h : decode (md_c d) pc = .ok (.new idx, 3)) (hk : nc_ok (md_o d) idx kd) (hkd : (b_k B)[k1]? = some kd) (hr : c2 ≤ z.2.1 ∧ s2 ≤ z.2.2)
    (kk : WN B d z k2 c2 s2 (pc + 3) ls (.ref (b_b B + k1) :: st) I J R Q) : WN B d z k1 cs ss pc ls st I J R Q := by
  obtain ⟨rfl, rfl, rfl, rfl, rfl⟩ := hq
  intro p e s m as b mt c H lo la C
  refine n_sz C (fun hz => ?_)
  obtain ⟨hx, hb, hl, hml, hre, hlk, hown, hts, hS, hP, hA, hZ, hsz, hnm, hAO⟩ := C
  have ht : ∀ w ∈ wsL_law, w.before as s = true := fun w hw => hts w (List.mem_cons_of_mem _ hw)
  refine W.newcK hx hb hown (ht _ hk.2.1) (ht _ hk.2.2.1) (ht _ hk.2.2.2) rfl h hr.1 hr.2 (hS.1.1 kd _ (pw_cl kd hk.1)).2.1 hz (fun H1 kC hkC e1 z1 o1 => ?_)
  have hZ1 := hZ (b_b B + (kc + 1)) (Nat.le_refl _)
  have hKn : g_K (gk B (kc + 2)) (b_b B + (kc + 1)) = kd := (gk_is (B := B) (k := kc + 2) kd (by omega) hkd).2
  obtain ⟨hP1, hA1⟩ := n_push hP hz (g_F_obj hKn hk.1) (fun q hq => o1 q (by rw [← hz]; exact hq)) (by rw [z1, hz]) (n_born (kc := kc + 1) hk.1 (funext hZ1.1) (funext hZ1.2.1) (funext hZ1.2.2) hts hS hkC e1) hA
  exact kk p e s m as b mt c H1 lo la ⟨hx, hb, hl, hml, hre, hlk, hown, hts, hS.any, hP1, hA1, fun a ha => hZ a (by omega), by omega, hnm, hAO⟩
theorem WN_anew {n : Int32} {idx N k1 k2 c2 s2 : Nat} (kc : Nat) (hq : kc + 1 = k1 ∧ kc + 2 = k2 ∧ cs + 1 = c2 ∧ ss + N = s2) (h : decode (md_c d) pc = .ok (.anewarray idx, 3)) (hk : Cond.classLink (md_o d) idx RX4 ∈ wsL_law) (hkd : (b_k B)[k1]? = some 16) (hnt : (b_n B)[k1]? = some N) (hn : ¬ n < 0) (hN : n.toNatClampNeg = N) (hr : N ≤ 16384 ∧ c2 ≤ z.2.1 ∧ s2 ≤ z.2.2)
    (kk : WN B d z k2 c2 s2 (pc + 3) ls (.ref (b_b B + k1) :: st) I J R Q) : WN B d z k1 cs ss pc ls (.int n :: st) I J R Q := by
  obtain ⟨rfl, rfl, rfl, rfl⟩ := hq
  subst hN
  intro p e s m as b mt c H lo la C
  refine n_sz C (fun hz => ?_)
  obtain ⟨hx, hb, hl, hml, hre, hlk, hown, hts, hS, hP, hA, hZ, hsz, hnm, hAO⟩ := C
  refine W.anew (C := RX4) hx hb hown (hts _ (List.mem_cons_of_mem _ hk)) hAO.use rfl h rfl hn (by omega) hr.2.1 hr.2.2 (fun cA kA comp h1 h2 h3 h4 => ?_)
  obtain ⟨kA', comp', -, -, -, h5⟩ := (hS.1.2 4 _ rfl).2
  have hc : cA = g_cy (gk B kc) 16 := Option.some.inj (h1.symm.trans h5)
  have hZ1 := hZ (b_b B + (kc + 1)) (Nat.le_refl _)
  have hKn : g_K (gk B (kc + 2)) (b_b B + (kc + 1)) = 16 := (gk_is (B := B) (k := kc + 2) 16 (by omega) hkd).2
  have hnn : g_n (gk B (kc + 2)) (b_b B + (kc + 1)) = n.toNatClampNeg := gk_n _ hnt
  have hR : R (b_b B + (kc + 1)) = fun _ => none := funext hZ1.2.2
  obtain ⟨hP1, hA1⟩ := n_push (H1 := H.push { cls := cA, slots := Array.replicate n.toNatClampNeg .null, vm := .none }) hP hz (g_F_ref hKn) (fun q hq => by rw [Array.getElem?_push, if_neg (Nat.ne_of_lt hq)]) (by simp) (by
    show (H.push _)[_]? = some (vp_cell _ _)
    rw [hnn, hR, ← hz, Array.getElem?_push_size, arrV_new, hc]
    rfl) hA
  rw [hz]
  exact kk p e s m as b mt c _ lo la ⟨hx, hb, hl, hml, hre, hlk, hown, hts, hS.any, hP1, hA1, fun a ha => hZ a (by omega), by omega, hnm, hAO⟩
theorem WN_iast {a : Nat} {i x : Int32} (h : decode (md_c d) pc = .ok (.iastore, 1)) (ha : g_is (gk B kc) a 13) (hi : vp_in i (g_n (gk B kc) a)) (kk : WN B d z kc cs ss (pc + 1) ls st (pp I a i.toNatClampNeg x) J R Q) : WN B d z kc cs ss pc ls (.int x :: .int i :: .ref a :: st) I J R Q := by
  intro p e s m as b mt c H lo la C
  obtain ⟨hx, hb, hl, hml, hr, hlk, hown, hts, hS, ⟨hnd, hP⟩, hA, hZ, hsz, hnm, hAO⟩ := C
  obtain ⟨n, hk0⟩ := g_get (I := I) (J := J) (R := R) ha.1
  have hk := hk0
  rw [g_F_int ha.2 (Or.inr (Or.inl rfl))] at hk
  have hD : va_D (n_A B) (g_W (gk B kc) I J R) := (g_apart hnd _).weaken (fun i q _ h => gk_ge h)
  refine va_iast hx hb hS.1 hP hD hA n 1 hk rfl hi h (fun H1 lo1 hP1 hD1 hS1 => ?_)
  have hw : (g_W (gk B kc) I J R).set n (a, .inl (g_cy (gk B kc) 13, g_n (gk B kc) a, .inl (upd (I a) i.toNatClampNeg x))) = g_W (gk B kc) (pp I a i.toNatClampNeg x) J R :=
    g_set hnd ha.1 hk0 (by rw [g_F_int ha.2 (Or.inr (Or.inl rfl)), pp_rowI]) (fun b hb => g_F_off (pp_off _ _ hb) rfl rfl)
  have hP2 : va_P (g_D (gk B kc)) vwCl (g_W (gk B kc) (pp I a i.toNatClampNeg x) J R) H1 := hw ▸ hP1
  exact kk p e s m as b mt c H1 lo1 la ⟨hx, hb, hl, hml, hr, hlk, hown, hts, hS, ⟨hnd, hP2⟩, hS1, fun x hx2 => by
    have hne : x ≠ a := by have := gk_lt ha.1; omega
    rw [pp_off _ _ hne]
    exact hZ x hx2, hsz, hnm, hAO⟩
theorem WN_aast {E : List (Nat × Nat × Nat)} {c0 t q : Nat} {i : Int32} (h : decode (md_c d) pc = .ok (.aastore, 1)) (hc : c0 < kc ∧ t < kc) (hkc : (b_k B)[c0]? = some 16) (hkt : (b_k B)[t]? = some 4) (hi : vp_in i (g_n (gk B kc) (b_b B + c0))) (hiq : i.toNatClampNeg = q) (hE : RI B E R) (hfr : (E.all fun e => !(e.1 == c0 && e.2.1 == q)) = true)
    (kk : ∀ R', RI B ((c0, q, t) :: E) R' → WN B d z kc cs ss (pc + 1) ls st I J R' Q) : WN B d z kc cs ss pc ls (.ref (b_b B + t) :: .int i :: .ref (b_b B + c0) :: st) I J R Q := by
  subst hiq
  intro p e s m as b mt c H lo la C
  obtain ⟨hx, hb, hl, hml, hr, hlk, hown, hts, hS, ⟨hnd, hP⟩, hA, hZ, hsz, hnm, hAO⟩ := C
  have ha := gk_is (B := B) 16 hc.1 hkc
  have hv := gk_is (B := B) 4 hc.2 hkt
  obtain ⟨n, hk0⟩ := g_get (I := I) (J := J) (R := R) ha.1
  obtain ⟨n2, hk2⟩ := g_get (I := I) (J := J) (R := R) hv.1
  have hk := hk0
  rw [g_F_ref ha.2] at hk
  rw [g_F_obj hv.2 (by decide)] at hk2
  have hD : va_D (n_A B) (g_W (gk B kc) I J R) := (g_apart hnd _).weaken (fun i q _ h => gk_ge h)
  refine va_astq hx hb hS.1 hP hD hA n 4 n2 4 hk rfl hk2 (pw_cl 4 (by decide)) hi h (fun H1 lo1 hP1 hD1 hS1 => ?_)
  have hw : (g_W (gk B kc) I J R).set n (b_b B + c0, .inl (g_cy (gk B kc) 16, g_n (gk B kc) (b_b B + c0), .inr (.inr (.inr (.inr (va_up (R (b_b B + c0)) i.toNatClampNeg (some (b_b B + t)))))))) = g_W (gk B kc) I J (pp R (b_b B + c0) i.toNatClampNeg (some (b_b B + t))) :=
    g_set hnd ha.1 hk0 (by
      rw [g_F_ref ha.2]
      congr 7
      funext k
      rw [pp_at]
      rfl) (fun b hb => g_F_off rfl rfl (pp_off _ _ hb))
  have hP2 : va_P (g_D (gk B kc)) vwCl (g_W (gk B kc) I J (pp R (b_b B + c0) i.toNatClampNeg (some (b_b B + t)))) H1 := hw ▸ hP1
  exact kk _ (RI_pp hE hfr) p e s m as b mt c H1 lo1 la ⟨hx, hb, hl, hml, hr, hlk, hown, hts, hS, ⟨hnd, hP2⟩, hS1, fun x hx2 => by
    have hne : x ≠ b_b B + c0 := by have := gk_lt ha.1; omega
    rw [pp_off _ _ hne]
    exact hZ x hx2, hsz, hnm, hAO⟩
theorem WN_zk (k : Zk B kc I J R → WN B d z kc cs ss pc ls st I J R Q) : WN B d z kc cs ss pc ls st I J R Q :=
  fun p e s m a b mt c H lo la C => k C.2.2.2.2.2.2.2.2.2.2.2.1 p e s m a b mt c H lo la C
theorem WN_vret (h : decode (md_c d) pc = .ok (.return_, 1)) (hr : md_r d = none) (hz : z = (kc, cs, ss)) (hq : Zk B kc I J R → Q I J R) : WN B d z kc cs ss pc ls [] I J R Q := by
  subst hz
  intro p e s m as b mt c H lo la ⟨hx, hb, hl, hml, hre, hlk, hown, hts, hS, hP, hA, hZ, hsz, hnm, hAO⟩
  exact W.vret hx hb (hre.trans hr) (fun t ht hW => ⟨⟨I, J, R, rfl, hq hZ, by rw [ht]; exact hP⟩, hA.F ht⟩) hA.2.2 h hlk
/-- a constructor's call -/
def csI (d : MD) (idx : Nat) (y : MD) (n : Nat) : Prop := csB d y n ∧ Cond.methodLink (md_o d) idx (md_y y) ∈ wsL_law ∧ (md_y y).name = "<init>" ∧ Cond.instanceMethod (md_y y) ∈ wsL_law ∧ md_r y = none
theorem WN_init {y : MD} {zz : N3} {a n idx k1 k2 c2 s2 : Nat} {As rest : List Value} {Q0 : pI → pJ → pR → Prop} (kc : Nat) (hq : kc + 1 = k1 ∧ zz = (k2, c2 - cs, s2 - ss) ∧ cs + zz.2.1 = c2 ∧ ss + zz.2.2 = s2 ∧ k1 + zz.2.1 = k2) (h : decode (md_c d) pc = .ok (.invokespecial idx, 3)) (cs0 : csI d idx y n) (hs : SN B y k1 zz (.ref a :: As) I J R Q0) (hn : As.length = n) (hst : st = As.reverse ++ .ref a :: rest) (hcat : (rest.map fun v => v.category).sum ≤ 8) (hr : c2 ≤ z.2.1 ∧ s2 ≤ z.2.2) (hZq : ∀ I' J' R', Q0 I' J' R' → Zk B k2 I' J' R')
    (kk : ∀ I' J' R', Q0 I' J' R' → WN B d z k2 c2 s2 (pc + 3) ls rest I' J' R' Q) : WN B d z k1 cs ss pc ls st I J R Q := by
  obtain ⟨k9, c9, s9⟩ := zz
  obtain ⟨rfl, h9, rfl, rfl, h8⟩ := hq
  obtain rfl : k9 = k2 := congrArg (fun q => q.1) h9
  intro p e s m as b2 mt c H lo la C T hT X
  obtain ⟨hx, hb, hl, hml, hre, hlk, hown, hts, hS, hP, hA, hZ, hsz, hnm, hAO⟩ := C
  obtain ⟨⟨cr, cd, cc, ci⟩, cl, cn, cin, cret⟩ := cs0
  have hz : H.size = b_b B + (kc + 1) := by rw [← hT]; exact n_size X (by rw [hT]; exact hP) hsz
  have ht : ∀ w ∈ wsL_law, w.before as s = true := fun w hw => hts w (List.mem_cons_of_mem _ hw)
  have cb : CallB (nd_rm d z.2.1 z.2.2) s as (md_o d) idx (md_y y) (md_c y) (md_n y) (md_r y) (md_w y) (nd_rm y c9 s9) c9 s9 n := callB_of n hts (md_good cc) rfl rfl rfl (ht _ ci) (ht _ cl) cd cr
  rw [cret] at cb
  have hrun := va_runI (b := a) (As := As) (rest := rest) (g := F0 m pc la st) (below := b2) (e := e) (locs := lo) (cells := cs) (slots := ss) (meth := mt) (H := H) ⟨hx, hb, hml, hown, hts⟩ hs ⟨cb, cn, ht _ cin⟩
    ⟨n_blind, fun U hU hW => ⟨rfl, by rw [hU]; exact hP, hZ, by rw [hU]; exact hz, hS.warm hW (fun q h1 h2 => by rw [hU]; exact hA.2.1 q h1 (Nat.not_le.mpr h2)), va_AO.moved hW.alike hAO⟩⟩ rfl hn hl.1 hst (lv_room hcat) h hr
  obtain ⟨v, st₀, t, T', L, h0, X', hL, e1, e2, ⟨⟨I', J', R', hv, hq0, hP1⟩, hz1, hk1⟩, stp⟩ := hrun T hT X
  cases hv
  rw [h0] at hz1 hk1
  obtain ⟨t2, a1, b1⟩ := kk I' J' R' hq0 p e s m as b2 mt c T'.heap (lo ++ L) la ⟨hx, hb, hl, hml, hre, hlk, hown, hts, hS.any, by rw [e1]; exact hP1,
    ⟨Nat.le_trans hA.1 (by rw [e1]; exact hz1), fun q h1 h2 => by rw [e1, hk1 q (Nat.lt_of_lt_of_le h1 hA.1) h2]; exact hA.2.1 q h1 h2, fun q hq => by
      rcases List.mem_append.mp hq with h | h
      · exact hA.2.2 q h
      · exact hL q h⟩, hZq I' J' R' hq0, by omega, hnm, hAO⟩ T' rfl X'
  exact ⟨t2, stp t2 a1, b1⟩
/-- a method's call, then the end -/
theorem WN_callret {y : MD} {k a idx : Nat} {Q0 : Post} (h : decode (md_c d) pc = .ok (.invokevirtual idx, 3)) (hd : decode (md_c d) (pc + 3) = .ok (.return_, 1)) (hret : md_r d = none) (cs0 : csV d idx y k 0) (hbk : g_is (gk B kc) a k) (hs : SP (gk B kc) y [.ref a] I J R Q0) (hz : z = (kc, cs, ss))
    (kk : Zk B kc I J R → ∀ r I' J' R', Q0 r I' J' R' → r = none ∧ Q I' J' R') : WN B d z kc cs ss pc ls [.ref a] I J R Q := by
  subst hz
  intro p e s m as b2 mt c H lo la C T hT X
  obtain ⟨hx, hb, hl, hml, hre, hlk, hown, hts, hS, ⟨hnd, hP⟩, hA, hZ, hsz, hnm, hAO⟩ := C
  obtain ⟨⟨cr, cd, cc, ci⟩, cl, ck, cC, cin, csel⟩ := cs0
  obtain ⟨q0, hk⟩ := g_get (I := I) (J := J) (R := R) hbk.1
  rw [g_F_obj hbk.2 ck] at hk
  have ht : ∀ w ∈ wsL_law, w.before as s = true := fun w hw => hts w (List.mem_cons_of_mem _ hw)
  have cb : CallB (nd_rm d cs ss) s as (md_o d) idx (md_y y) (md_c y) (md_n y) (md_r y) (md_w y) (md_rm y) 0 0 0 := callB_of 0 hts (md_good cc) rfl rfl rfl (ht _ ci) (ht _ cl) cd cr
  have hrun := va_runV (C := pw_C k) (As := []) (rest := []) (g := F0 m pc la [.ref a]) (below := b2) (e := e) (locs := lo) (cells := cs) (slots := ss) (meth := mt) ⟨hx, hb, hml, hown, hts⟩ hs ⟨cb, ht _ cin, ht _ csel⟩
    ⟨SP_blind, va_recv hS.1 hP (pw_cl k ck) hk, fun U hU hW => ⟨rfl, by rw [hU]; exact ⟨hnd, hP⟩, hS.warm hW (fun q h1 h2 => by rw [hU]; exact hA.2.1 q h1 (Nat.not_le.mpr h2))⟩⟩ rfl rfl hl.1 rfl (lv_room (by decide)) h ⟨Nat.le_refl _, Nat.le_refl _⟩
  obtain ⟨v, st₀, t, T', L, h0, X', hL, e1, e2, ⟨⟨r, I', J', R', hv, hq0, hP1⟩, hz1, hk1⟩, stp⟩ := hrun T hT X
  cases hv
  rw [h0] at hz1 hk1
  obtain ⟨rfl, hq2⟩ := kk hZ v I' J' R' hq0
  have hA2 : va_S (n_A B) s.heap T'.heap (lo ++ L) := ⟨Nat.le_trans hA.1 (by rw [e1]; exact hz1), fun q h1 h2 => by rw [e1, hk1 q (Nat.lt_of_lt_of_le h1 hA.1) (fun h => h2 (gk_ge h))]; exact hA.2.1 q h1 h2, fun q hq => by
      rcases List.mem_append.mp hq with h | h
      · exact hA.2.2 q h
      · exact gk_ge (hL q h)⟩
  obtain ⟨t2, a1, b1⟩ := W.vret (Qc := n_Q B kc Q) (free := n_A B) hx hb (hre.trans hret) (fun t' ht' hW => ⟨⟨I', J', R', rfl, hq2, by rw [ht', e1]; exact hP1⟩, hA2.F ht'⟩) hA2.2.2 hd hlk T' rfl X'
  exact ⟨t2, stp t2 a1, b1⟩
end Rules
