/-! A METHOD, AND WHAT IT COMES TO FROM A PLACE ON: WP (of a frame), SP (of a call) -/
abbrev MD : Type := MethodName × ByteArray × Nat × Option FieldType × String × Nat × Nat
abbrev md_y (d : MD) : MethodName := d.1
abbrev md_c (d : MD) : ByteArray := d.2.1
abbrev md_n (d : MD) : Nat := d.2.2.1
abbrev md_r (d : MD) : Option FieldType := d.2.2.2.1
abbrev md_o (d : MD) : String := d.2.2.2.2.1
abbrev md_f (d : MD) : Nat := d.2.2.2.2.2.1
abbrev md_q (d : MD) : Nat := d.2.2.2.2.2.2
abbrev md_rm (d : MD) : Room := { frames := md_f d, cells := 0, slots := 0, locals := md_q d }
abbrev md_w (d : MD) : List Cond := Cond.code (md_y d) (md_c d) (md_n d) (md_r d) :: wsL_law
/-- what the tables say of the classes, the rows and the nest's calls -/
def ZC (Z : State → Prop) (b : Nat) : Prop := (∀ s U : State, Z s → s.WarmedH U.vm → (∀ a, a < s.heap.size → a < b → U.heap[a]? = s.heap[a]?) → Z U) ∧ (∀ s U : State, Z s → s.vm = U.vm → s.heap = U.heap → Z U)
def g_S (g : GG) (s : State) : Prop := va_K (g_D g) vwCl (g_t g) s ∧ (∀ w ∈ nestW, va_Nw w s) ∧ (∀ a, a ∈ g_L g → g_b g ≤ a) ∧ g_Z g s ∧ ZC (g_Z g) (g_b g)
theorem g_S.warm {g : GG} {s U : State} (h : g_S g s) (hW : s.WarmedH U.vm) (hk : ∀ a, a < s.heap.size → a < g_b g → U.heap[a]? = s.heap[a]?) : g_S g U := by
  refine ⟨va_K.moved hW.alike h.1, fun w hw => ?_, h.2.2.1, h.2.2.2.2.1 s U h.2.2.2.1 hW hk, h.2.2.2.2⟩
  have h1 := h.2.1 w hw
  obtain ⟨a, i, x, b, rfl⟩ := nestW_form w hw
  exact va_Nw.warmM hW h1
theorem g_S.warmA {g : GG} {s U : State} {H : Heap} {lo : List Loc} (h : g_S g s) (hW : s.WarmedH U.vm) (hU : U.heap = H) (hA : va_S (g_A g) s.heap H lo) : g_S g U :=
  h.warm hW (fun a h1 h2 => by rw [hU]; exact hA.2.1 a h1 (fun ha => absurd (h.2.2.1 a ha) (Nat.not_le.mpr h2)))
theorem g_S.same {g : GG} {s U : State} (h : g_S g s) (e : s.vm = U.vm) (eh : s.heap = U.heap) : g_S g U := by
  refine ⟨va_K.moved (by rw [e]; exact Vm.Alike.refl U.vm) h.1, fun w hw => ?_, h.2.2.1, h.2.2.2.2.2 s U h.2.2.2.1 e eh, h.2.2.2.2⟩
  have h1 := h.2.1 w hw
  obtain ⟨a, i, x, b, rfl⟩ := nestW_form w hw
  exact va_Nw.same rfl e h1
abbrev Post : Type := Option Value → pI → pJ → pR → Prop
def g_Q (g : GG) (Q : Post) : Array Value → State → Outcome → State → Prop := fun _ st oc t => (∃ (r : Option Value) (I : pI) (J : pJ) (R : pR), oc = .returned r ∧ Q r I J R ∧ g_P g I J R t.heap) ∧ va_F (g_A g) st t
def g_C (g : GG) (d : MD) (ls : List (Nat × Value)) (I : pI) (J : pJ) (R : pR) (p : Program) (s : State) (m : MethodId) (args : Array Value) (meth : Method) (c : Code) (H : Heap) (locs : List Loc) (la : Array Slot) : Prop :=
  p.tables.exec = Jvm.exec ∧ c.code = md_c d ∧ lv_has la (md_n d) ls ∧ c.maxLocals = md_n d ∧ meth.sig.returnType = md_r d ∧ meth.locks = false ∧ s.vm.findClass (md_o d) = some m.cls ∧ (∀ w ∈ md_w d, w.before args s = true) ∧ g_S g s ∧ g_P g I J R H ∧ va_S (g_A g) s.heap H locs
def WP (g : GG) (d : MD) (pc : Nat) (ls : List (Nat × Value)) (st : List Value) (I : pI) (J : pJ) (R : pR) (Q : Post) : Prop :=
  ∀ (p : Program) (e : Env) (s : State) (m : MethodId) (args : Array Value) (below : List Frame) (meth : Method) (c : Code) (H : Heap) (locs : List Loc) (la : Array Slot), g_C g d ls I J R p s m args meth c H locs la →
    W p (g_l g) e (md_rm d) s m args below meth c H locs 0 0 (MQ below (g_Q g Q) args s 0 0 (g_A g)) (F0 m pc la st)
def SP (g : GG) (d : MD) (as : List Value) (I : pI) (J : pJ) (R : pR) (Q : Post) : Prop :=
  Met (g_l g) (md_y d) (md_w d) (md_rm d) (fun v U => v = as.toArray ∧ g_P g I J R U.heap ∧ g_S g U) (g_Q g Q) 0 0 (g_A g)
theorem SP_of {g : GG} {d : MD} {as : List Value} {I : pI} {J : pJ} {R : pR} {Q : Post} (hy : plainName (md_y d).cls = true ∧ md_o d = (md_y d).cls) (hn : (lg_sl as).length ≤ md_n d) (h : WP g d 0 (lv_args 0 as) [] I J R Q) : SP g d as I J R Q := by
  refine Met.ofW (cc := md_c d) (maxL := md_n d) (ret := md_r d) hy.1 rfl ?_
  intro p e s m args below meth c s₁ B hml hv
  obtain ⟨rfl, hP, hS⟩ := hv
  have hts := atoms_spec (ws := md_w d) B.pre
  have hown : s.vm.findClass (md_o d) = some m.cls := by rw [hy.2]; exact findClass_of_methodNamed B.named
  have hl := lv_entry as (n := md_n d) hn
  rw [lg_entry_eq]
  exact h p e s m _ below meth c s.heap [] _ ⟨B.exec, B.bytes, hl, hml, B.returns, B.notSynchronized, hown, hts, hS, hP, va_S.rf⟩
/-- a local's value; a local is written (the list stays in the order of the places) -/
def lk : List (Nat × Value) → Nat → Option Value
  | [], _ => none
  | q :: l, i => if q.1 == i then some q.2 else lk l i
def li (i : Nat) (v : Value) : List (Nat × Value) → List (Nat × Value)
  | [] => [(i, v)]
  | q :: l => if q.1 < i then q :: li i v l else (i, v) :: q :: l
def sl1 (ls : List (Nat × Value)) (i : Nat) (v : Value) : List (Nat × Value) := li i v (ls.filter (fun q => !(q.1 == i) && !(q.1 + 1 == i && q.2.category == 2)))
def sl2 (ls : List (Nat × Value)) (i : Nat) (v : Value) : List (Nat × Value) := li i v (ls.filter (fun q => !(q.1 == i) && (!(q.1 == i + 1) && !(q.1 + 1 == i && q.2.category == 2))))
theorem lk_mem : ∀ {ls : List (Nat × Value)} {i : Nat} {v : Value}, lk ls i = some v → (i, v) ∈ ls
  | [], _, _, h => by cases h
  | q :: l, i, v, h => by
    unfold lk at h
    split at h
    · rename_i hq
      have e1 : q.1 = i := by simpa using hq
      have e2 : q.2 = v := Option.some.inj h
      have e : q = (i, v) := Prod.ext e1 e2
      rw [e]
      exact List.mem_cons_self
    · exact List.mem_cons_of_mem _ (lk_mem h)
theorem lk_has {la : Array Slot} {n : Nat} {ls : List (Nat × Value)} {i : Nat} {v : Value} (h : lk ls i = some v) (hl : lv_has la n ls) : la[i]? = some (.val v) := hl.2.2 (i, v) (lk_mem h)
theorem li_mem : ∀ {l : List (Nat × Value)} {i : Nat} {v : Value} {q : Nat × Value}, q ∈ li i v l → q = (i, v) ∨ q ∈ l
  | [], i, v, q, h => by simpa [li] using h
  | z :: l, i, v, q, h => by
    unfold li at h
    split at h
    · rcases List.mem_cons.mp h with h | h
      · exact Or.inr (h ▸ List.mem_cons_self)
      · rcases li_mem h with h | h
        · exact Or.inl h
        · exact Or.inr (List.mem_cons_of_mem _ h)
    · rcases List.mem_cons.mp h with h | h
      · exact Or.inl h
      · exact Or.inr h
theorem li_has {la : Array Slot} {n i : Nat} {v : Value} {l : List (Nat × Value)} (h : lv_has la n ((i, v) :: l)) : lv_has la n (li i v l) :=
  ⟨h.1, h.2.1, fun q hq => by
    rcases li_mem hq with e | e
    · exact h.2.2 q (e ▸ List.mem_cons_self)
    · exact h.2.2 q (List.mem_cons_of_mem _ e)⟩
theorem sl1_has {la : Array Slot} {n i : Nat} {v : Value} {ls : List (Nat × Value)} (h : lv_has la n ((i, v) :: ls.filter (fun q => !(q.1 == i) && !(q.1 + 1 == i && q.2.category == 2)))) : lv_has la n (sl1 ls i v) := li_has h
theorem sl2_has {la : Array Slot} {n i : Nat} {v : Value} {ls : List (Nat × Value)} (h : lv_has la n ((i, v) :: ls.filter (fun q => !(q.1 == i) && (!(q.1 == i + 1) && !(q.1 + 1 == i && q.2.category == 2))))) : lv_has la n (sl2 ls i v) := li_has h
section Rules
variable {g : GG} {d : MD} {pc : Nat} {ls : List (Nat × Value)} {st : List Value} {I : pI} {J : pJ} {R : pR} {Q : Post}
theorem WP_iconst {n : Int} (v : Int32) (h : decode (md_c d) pc = .ok (.iconst n, 1)) (hv : Int32.ofInt n = v) (k : WP g d (pc + 1) ls (.int v :: st) I J R Q) : WP g d pc ls st I J R Q :=
  fun p e s m a b mt c H lo la C => lv_iconst C.1 C.2.1 h hv (k p e s m a b mt c H lo la C)
theorem WP_bipush {n : Int} (v : Int32) (h : decode (md_c d) pc = .ok (.bipush n, 2)) (hv : (Int8.ofInt n).toInt32 = v) (k : WP g d (pc + 2) ls (.int v :: st) I J R Q) : WP g d pc ls st I J R Q :=
  fun p e s m a b mt c H lo la C => lv_bipush C.1 C.2.1 h hv (k p e s m a b mt c H lo la C)
theorem WP_sipush {n : Int} (v : Int32) (h : decode (md_c d) pc = .ok (.sipush n, 3)) (hv : (Int16.ofInt n).toInt32 = v) (k : WP g d (pc + 3) ls (.int v :: st) I J R Q) : WP g d pc ls st I J R Q :=
  fun p e s m a b mt c H lo la C => lv_sipush C.1 C.2.1 h hv (k p e s m a b mt c H lo la C)
theorem WP_lconst {n : Fin 2} (v : Int64) (h : decode (md_c d) pc = .ok (.lconst n, 1)) (hv : Int64.ofNat (n : Nat) = v) (k : WP g d (pc + 1) ls (.long v :: st) I J R Q) : WP g d pc ls st I J R Q :=
  fun p e s m a b mt c H lo la C => lv_lconst C.1 C.2.1 h hv (k p e s m a b mt c H lo la C)
theorem WP_ldc {i : Nat} (v : Int32) (h : decode (md_c d) pc = .ok (.ldc i, 2)) (hw : Cond.constant (md_o d) i v ∈ wsL_law) (k : WP g d (pc + 2) ls (.int v :: st) I J R Q) : WP g d pc ls st I J R Q :=
  fun p e s m a b mt c H lo la C => lv_ldc C.1 C.2.1 C.2.2.2.2.2.2.1 (C.2.2.2.2.2.2.2.1 _ (List.mem_cons_of_mem _ hw)) h (k p e s m a b mt c H lo la C)
theorem WP_ldcw {i : Nat} (v : Int32) (h : decode (md_c d) pc = .ok (.ldc_w i, 3)) (hw : Cond.constant (md_o d) i v ∈ wsL_law) (k : WP g d (pc + 3) ls (.int v :: st) I J R Q) : WP g d pc ls st I J R Q :=
  fun p e s m a b mt c H lo la C => lv_ldcw C.1 C.2.1 C.2.2.2.2.2.2.1 (C.2.2.2.2.2.2.2.1 _ (List.mem_cons_of_mem _ hw)) h (k p e s m a b mt c H lo la C)
theorem WP_ldc2 {i : Nat} (v : Int64) (h : decode (md_c d) pc = .ok (.ldc2_w i, 3)) (hw : Cond.constantLong (md_o d) i v ∈ wsL_law) (k : WP g d (pc + 3) ls (.long v :: st) I J R Q) : WP g d pc ls st I J R Q :=
  fun p e s m a b mt c H lo la C => lv_ldc2 C.1 C.2.1 C.2.2.2.2.2.2.1 (C.2.2.2.2.2.2.2.1 _ (List.mem_cons_of_mem _ hw)) h (k p e s m a b mt c H lo la C)
theorem WP_goto {off : Int} (tgt : Nat) (h : decode (md_c d) pc = .ok (.goto off, 3)) (ht : (pc : Int) + off = (tgt : Int)) (k : WP g d tgt ls st I J R Q) : WP g d pc ls st I J R Q :=
  fun p e s m a b mt c H lo la C => lv_goto C.1 C.2.1 h ht (k p e s m a b mt c H lo la C)
theorem WP_iadd {x y : Int32} (h : decode (md_c d) pc = .ok (.iadd, 1)) (k : WP g d (pc + 1) ls (.int (x + y) :: st) I J R Q) : WP g d pc ls (.int y :: .int x :: st) I J R Q :=
  fun p e s m a b mt c H lo la C => lv_iadd C.1 C.2.1 h (k p e s m a b mt c H lo la C)
theorem WP_isub {x y : Int32} (h : decode (md_c d) pc = .ok (.isub, 1)) (k : WP g d (pc + 1) ls (.int (x - y) :: st) I J R Q) : WP g d pc ls (.int y :: .int x :: st) I J R Q :=
  fun p e s m a b mt c H lo la C => lv_isub C.1 C.2.1 h (k p e s m a b mt c H lo la C)
theorem WP_imul {x y : Int32} (h : decode (md_c d) pc = .ok (.imul, 1)) (k : WP g d (pc + 1) ls (.int (x * y) :: st) I J R Q) : WP g d pc ls (.int y :: .int x :: st) I J R Q :=
  fun p e s m a b mt c H lo la C => lv_imul C.1 C.2.1 h (k p e s m a b mt c H lo la C)
theorem WP_iand {x y : Int32} (h : decode (md_c d) pc = .ok (.iand, 1)) (k : WP g d (pc + 1) ls (.int (x &&& y) :: st) I J R Q) : WP g d pc ls (.int y :: .int x :: st) I J R Q :=
  fun p e s m a b mt c H lo la C => lv_iand C.1 C.2.1 h (k p e s m a b mt c H lo la C)
theorem WP_ior {x y : Int32} (h : decode (md_c d) pc = .ok (.ior, 1)) (k : WP g d (pc + 1) ls (.int (x ||| y) :: st) I J R Q) : WP g d pc ls (.int y :: .int x :: st) I J R Q :=
  fun p e s m a b mt c H lo la C => lv_ior C.1 C.2.1 h (k p e s m a b mt c H lo la C)
theorem WP_ishl {x y : Int32} (h : decode (md_c d) pc = .ok (.ishl, 1)) (k : WP g d (pc + 1) ls (.int (x <<< (y &&& 31)) :: st) I J R Q) : WP g d pc ls (.int y :: .int x :: st) I J R Q :=
  fun p e s m a b mt c H lo la C => lv_ishl C.1 C.2.1 h (k p e s m a b mt c H lo la C)
theorem WP_ishr {x y : Int32} (h : decode (md_c d) pc = .ok (.ishr, 1)) (k : WP g d (pc + 1) ls (.int (x >>> (y &&& 31)) :: st) I J R Q) : WP g d pc ls (.int y :: .int x :: st) I J R Q :=
  fun p e s m a b mt c H lo la C => lv_ishr C.1 C.2.1 h (k p e s m a b mt c H lo la C)
theorem WP_idiv {x y : Int32} (h : decode (md_c d) pc = .ok (.idiv, 1)) (hne : ¬ y = 0) (k : WP g d (pc + 1) ls (.int (x / y) :: st) I J R Q) : WP g d pc ls (.int y :: .int x :: st) I J R Q :=
  fun p e s m a b mt c H lo la C => lv_idiv C.1 C.2.1 h hne (k p e s m a b mt c H lo la C)
theorem WP_irem {x y : Int32} (h : decode (md_c d) pc = .ok (.irem, 1)) (hne : ¬ y = 0) (k : WP g d (pc + 1) ls (.int (x - x / y * y) :: st) I J R Q) : WP g d pc ls (.int y :: .int x :: st) I J R Q :=
  fun p e s m a b mt c H lo la C => lv_irem C.1 C.2.1 h hne (k p e s m a b mt c H lo la C)
theorem WP_ladd {x y : Int64} (h : decode (md_c d) pc = .ok (.ladd, 1)) (k : WP g d (pc + 1) ls (.long (x + y) :: st) I J R Q) : WP g d pc ls (.long y :: .long x :: st) I J R Q :=
  fun p e s m a b mt c H lo la C => lv_ladd C.1 C.2.1 h (k p e s m a b mt c H lo la C)
theorem WP_lsub {x y : Int64} (h : decode (md_c d) pc = .ok (.lsub, 1)) (k : WP g d (pc + 1) ls (.long (x - y) :: st) I J R Q) : WP g d pc ls (.long y :: .long x :: st) I J R Q :=
  fun p e s m a b mt c H lo la C => lv_lsub C.1 C.2.1 h (k p e s m a b mt c H lo la C)
theorem WP_lmul {x y : Int64} (h : decode (md_c d) pc = .ok (.lmul, 1)) (k : WP g d (pc + 1) ls (.long (x * y) :: st) I J R Q) : WP g d pc ls (.long y :: .long x :: st) I J R Q :=
  fun p e s m a b mt c H lo la C => lv_lmul C.1 C.2.1 h (k p e s m a b mt c H lo la C)
theorem WP_land {x y : Int64} (h : decode (md_c d) pc = .ok (.land, 1)) (k : WP g d (pc + 1) ls (.long (x &&& y) :: st) I J R Q) : WP g d pc ls (.long y :: .long x :: st) I J R Q :=
  fun p e s m a b mt c H lo la C => lv_land C.1 C.2.1 h (k p e s m a b mt c H lo la C)
theorem WP_lor {x y : Int64} (h : decode (md_c d) pc = .ok (.lor, 1)) (k : WP g d (pc + 1) ls (.long (x ||| y) :: st) I J R Q) : WP g d pc ls (.long y :: .long x :: st) I J R Q :=
  fun p e s m a b mt c H lo la C => lv_lor C.1 C.2.1 h (k p e s m a b mt c H lo la C)
theorem WP_ldiv {x y : Int64} (h : decode (md_c d) pc = .ok (.ldiv, 1)) (hne : ¬ y = 0) (k : WP g d (pc + 1) ls (.long (x / y) :: st) I J R Q) : WP g d pc ls (.long y :: .long x :: st) I J R Q :=
  fun p e s m a b mt c H lo la C => lv_ldiv C.1 C.2.1 h hne (k p e s m a b mt c H lo la C)
theorem WP_lushr {x : Int64} {y : Int32} (h : decode (md_c d) pc = .ok (.lushr, 1)) (k : WP g d (pc + 1) ls (.long (x.toUInt64 >>> (y.toInt64.toUInt64 &&& Int64.toUInt64 63)).toInt64 :: st) I J R Q) : WP g d pc ls (.int y :: .long x :: st) I J R Q :=
  fun p e s m a b mt c H lo la C => lv_lushr C.1 C.2.1 h rfl (k p e s m a b mt c H lo la C)
theorem WP_lshl {x : Int64} {y : Int32} (h : decode (md_c d) pc = .ok (.lshl, 1)) (k : WP g d (pc + 1) ls (.long (x <<< (y.toInt64 &&& 63)) :: st) I J R Q) : WP g d pc ls (.int y :: .long x :: st) I J R Q :=
  fun p e s m a b mt c H lo la C => lv_lshl C.1 C.2.1 h rfl (k p e s m a b mt c H lo la C)
theorem WP_i2l {x : Int32} (h : decode (md_c d) pc = .ok (.i2l, 1)) (k : WP g d (pc + 1) ls (.long x.toInt64 :: st) I J R Q) : WP g d pc ls (.int x :: st) I J R Q :=
  fun p e s m a b mt c H lo la C => lv_i2l C.1 C.2.1 h rfl (k p e s m a b mt c H lo la C)
theorem WP_l2i {x : Int64} (h : decode (md_c d) pc = .ok (.l2i, 1)) (k : WP g d (pc + 1) ls (.int x.toInt32 :: st) I J R Q) : WP g d pc ls (.long x :: st) I J R Q :=
  fun p e s m a b mt c H lo la C => lv_l2i C.1 C.2.1 h rfl (k p e s m a b mt c H lo la C)
theorem WP_i2b {x : Int32} (h : decode (md_c d) pc = .ok (.i2b, 1)) (k : WP g d (pc + 1) ls (.int x.toInt8.toInt32 :: st) I J R Q) : WP g d pc ls (.int x :: st) I J R Q :=
  fun p e s m a b mt c H lo la C => lv_i2b C.1 C.2.1 h rfl (k p e s m a b mt c H lo la C)
theorem WP_i2c {x : Int32} (h : decode (md_c d) pc = .ok (.i2c, 1)) (k : WP g d (pc + 1) ls (.int (x.toUInt32 % 65536).toInt32 :: st) I J R Q) : WP g d pc ls (.int x :: st) I J R Q :=
  fun p e s m a b mt c H lo la C => lv_i2c C.1 C.2.1 h rfl (k p e s m a b mt c H lo la C)
theorem WP_lcmp {x y : Int64} (h : decode (md_c d) pc = .ok (.lcmp, 1)) (k : WP g d (pc + 1) ls (.int (lg_cmp x y) :: st) I J R Q) : WP g d pc ls (.long y :: .long x :: st) I J R Q :=
  fun p e s m a b mt c H lo la C => W.lcmp C.1 C.2.1 h (k p e s m a b mt c H lo la C)
theorem WP_dup {v : Value} (h : decode (md_c d) pc = .ok (.dup, 1)) (hv : v.category = 1) (k : WP g d (pc + 1) ls (v :: v :: st) I J R Q) : WP g d pc ls (v :: st) I J R Q :=
  fun p e s m a b mt c H lo la C => lv_dup C.1 C.2.1 h hv (k p e s m a b mt c H lo la C)
theorem WP_pop {v : Value} (h : decode (md_c d) pc = .ok (.pop, 1)) (hv : v.category = 1) (k : WP g d (pc + 1) ls (st) I J R Q) : WP g d pc ls (v :: st) I J R Q :=
  fun p e s m a b mt c H lo la C => lv_pop C.1 C.2.1 h hv (k p e s m a b mt c H lo la C)
theorem WP_dup2 {v w : Value} (h : decode (md_c d) pc = .ok (.dup2, 1)) (hv : v.category = 1) (hw : w.category = 1) (k : WP g d (pc + 1) ls (v :: w :: v :: w :: st) I J R Q) : WP g d pc ls (v :: w :: st) I J R Q :=
  fun p e s m a b mt c H lo la C => lv_dup2_11 C.1 C.2.1 h hv hw (k p e s m a b mt c H lo la C)
theorem WP_pop2l {v : Value} (h : decode (md_c d) pc = .ok (.pop2, 1)) (hv : v.category = 2) (k : WP g d (pc + 1) ls (st) I J R Q) : WP g d pc ls (v :: st) I J R Q :=
  fun p e s m a b mt c H lo la C => lv_pop2_2 C.1 C.2.1 h hv (k p e s m a b mt c H lo la C)
theorem WP_if_eq {x : Int32} {off : Int} (tgt : Nat) (h : decode (md_c d) pc = .ok (.ifCond .eq off, 3)) (ht : (pc : Int) + off = (tgt : Int)) (kt : x = 0 → WP g d tgt ls st I J R Q) (kf : ¬ x = 0 → WP g d (pc + 3) ls st I J R Q) : WP g d pc ls (.int x :: st) I J R Q :=
  fun p e s m a b mt c H lo la C => lv_if_eq C.1 C.2.1 h ht (fun q => kt q p e s m a b mt c H lo la C) (fun q => kf q p e s m a b mt c H lo la C)
theorem WP_if_ne {x : Int32} {off : Int} (tgt : Nat) (h : decode (md_c d) pc = .ok (.ifCond .ne off, 3)) (ht : (pc : Int) + off = (tgt : Int)) (kt : ¬ x = 0 → WP g d tgt ls st I J R Q) (kf : x = 0 → WP g d (pc + 3) ls st I J R Q) : WP g d pc ls (.int x :: st) I J R Q :=
  fun p e s m a b mt c H lo la C => lv_if_ne C.1 C.2.1 h ht (fun q => kt q p e s m a b mt c H lo la C) (fun q => kf q p e s m a b mt c H lo la C)
theorem WP_if_lt {x : Int32} {off : Int} (tgt : Nat) (h : decode (md_c d) pc = .ok (.ifCond .lt off, 3)) (ht : (pc : Int) + off = (tgt : Int)) (kt : x < 0 → WP g d tgt ls st I J R Q) (kf : ¬ x < 0 → WP g d (pc + 3) ls st I J R Q) : WP g d pc ls (.int x :: st) I J R Q :=
  fun p e s m a b mt c H lo la C => lv_if_lt C.1 C.2.1 h ht (fun q => kt q p e s m a b mt c H lo la C) (fun q => kf q p e s m a b mt c H lo la C)
theorem WP_if_ge {x : Int32} {off : Int} (tgt : Nat) (h : decode (md_c d) pc = .ok (.ifCond .ge off, 3)) (ht : (pc : Int) + off = (tgt : Int)) (kt : 0 ≤ x → WP g d tgt ls st I J R Q) (kf : ¬ 0 ≤ x → WP g d (pc + 3) ls st I J R Q) : WP g d pc ls (.int x :: st) I J R Q :=
  fun p e s m a b mt c H lo la C => lv_if_ge C.1 C.2.1 h ht (fun q => kt q p e s m a b mt c H lo la C) (fun q => kf q p e s m a b mt c H lo la C)
theorem WP_if_gt {x : Int32} {off : Int} (tgt : Nat) (h : decode (md_c d) pc = .ok (.ifCond .gt off, 3)) (ht : (pc : Int) + off = (tgt : Int)) (kt : 0 < x → WP g d tgt ls st I J R Q) (kf : ¬ 0 < x → WP g d (pc + 3) ls st I J R Q) : WP g d pc ls (.int x :: st) I J R Q :=
  fun p e s m a b mt c H lo la C => lv_if_gt C.1 C.2.1 h ht (fun q => kt q p e s m a b mt c H lo la C) (fun q => kf q p e s m a b mt c H lo la C)
theorem WP_if_le {x : Int32} {off : Int} (tgt : Nat) (h : decode (md_c d) pc = .ok (.ifCond .le off, 3)) (ht : (pc : Int) + off = (tgt : Int)) (kt : x ≤ 0 → WP g d tgt ls st I J R Q) (kf : ¬ x ≤ 0 → WP g d (pc + 3) ls st I J R Q) : WP g d pc ls (.int x :: st) I J R Q :=
  fun p e s m a b mt c H lo la C => lv_if_le C.1 C.2.1 h ht (fun q => kt q p e s m a b mt c H lo la C) (fun q => kf q p e s m a b mt c H lo la C)
theorem WP_icmp_eq {x y : Int32} {off : Int} (tgt : Nat) (h : decode (md_c d) pc = .ok (.if_icmp .eq off, 3)) (ht : (pc : Int) + off = (tgt : Int)) (kt : x = y → WP g d tgt ls st I J R Q) (kf : ¬ x = y → WP g d (pc + 3) ls st I J R Q) : WP g d pc ls (.int y :: .int x :: st) I J R Q :=
  fun p e s m a b mt c H lo la C => lv_icmp_eq C.1 C.2.1 h ht (fun q => kt q p e s m a b mt c H lo la C) (fun q => kf q p e s m a b mt c H lo la C)
theorem WP_icmp_ne {x y : Int32} {off : Int} (tgt : Nat) (h : decode (md_c d) pc = .ok (.if_icmp .ne off, 3)) (ht : (pc : Int) + off = (tgt : Int)) (kt : ¬ x = y → WP g d tgt ls st I J R Q) (kf : x = y → WP g d (pc + 3) ls st I J R Q) : WP g d pc ls (.int y :: .int x :: st) I J R Q :=
  fun p e s m a b mt c H lo la C => lv_icmp_ne C.1 C.2.1 h ht (fun q => kt q p e s m a b mt c H lo la C) (fun q => kf q p e s m a b mt c H lo la C)
theorem WP_icmp_lt {x y : Int32} {off : Int} (tgt : Nat) (h : decode (md_c d) pc = .ok (.if_icmp .lt off, 3)) (ht : (pc : Int) + off = (tgt : Int)) (kt : x < y → WP g d tgt ls st I J R Q) (kf : ¬ x < y → WP g d (pc + 3) ls st I J R Q) : WP g d pc ls (.int y :: .int x :: st) I J R Q :=
  fun p e s m a b mt c H lo la C => lv_icmp_lt C.1 C.2.1 h ht (fun q => kt q p e s m a b mt c H lo la C) (fun q => kf q p e s m a b mt c H lo la C)
theorem WP_icmp_ge {x y : Int32} {off : Int} (tgt : Nat) (h : decode (md_c d) pc = .ok (.if_icmp .ge off, 3)) (ht : (pc : Int) + off = (tgt : Int)) (kt : y ≤ x → WP g d tgt ls st I J R Q) (kf : ¬ y ≤ x → WP g d (pc + 3) ls st I J R Q) : WP g d pc ls (.int y :: .int x :: st) I J R Q :=
  fun p e s m a b mt c H lo la C => lv_icmp_ge C.1 C.2.1 h ht (fun q => kt q p e s m a b mt c H lo la C) (fun q => kf q p e s m a b mt c H lo la C)
theorem WP_icmp_gt {x y : Int32} {off : Int} (tgt : Nat) (h : decode (md_c d) pc = .ok (.if_icmp .gt off, 3)) (ht : (pc : Int) + off = (tgt : Int)) (kt : y < x → WP g d tgt ls st I J R Q) (kf : ¬ y < x → WP g d (pc + 3) ls st I J R Q) : WP g d pc ls (.int y :: .int x :: st) I J R Q :=
  fun p e s m a b mt c H lo la C => lv_icmp_gt C.1 C.2.1 h ht (fun q => kt q p e s m a b mt c H lo la C) (fun q => kf q p e s m a b mt c H lo la C)
theorem WP_icmp_le {x y : Int32} {off : Int} (tgt : Nat) (h : decode (md_c d) pc = .ok (.if_icmp .le off, 3)) (ht : (pc : Int) + off = (tgt : Int)) (kt : x ≤ y → WP g d tgt ls st I J R Q) (kf : ¬ x ≤ y → WP g d (pc + 3) ls st I J R Q) : WP g d pc ls (.int y :: .int x :: st) I J R Q :=
  fun p e s m a b mt c H lo la C => lv_icmp_le C.1 C.2.1 h ht (fun q => kt q p e s m a b mt c H lo la C) (fun q => kf q p e s m a b mt c H lo la C)
theorem WP_iload_n {n : Fin 4} {x : Int32} (h : decode (md_c d) pc = .ok (.iload_n n, 1)) (hl : lk ls (n : Nat) = some (.int x)) (k : WP g d (pc + 1) ls (.int x :: st) I J R Q) : WP g d pc ls st I J R Q :=
  fun p e s m a b mt c H lo la C => lv_iload_n C.1 C.2.1 h rfl (lk_has hl C.2.2.1) (k p e s m a b mt c H lo la C)
theorem WP_iload {i : Nat} {x : Int32} (h : decode (md_c d) pc = .ok (.iload i, 2)) (hl : lk ls i = some (.int x)) (k : WP g d (pc + 2) ls (.int x :: st) I J R Q) : WP g d pc ls st I J R Q :=
  fun p e s m a b mt c H lo la C => lv_iload C.1 C.2.1 h (lk_has hl C.2.2.1) (k p e s m a b mt c H lo la C)
theorem WP_istore_n {n : Fin 4} {x : Int32} (h : decode (md_c d) pc = .ok (.istore_n n, 1)) (hn : (n : Nat) < md_n d) {ls' : List (Nat × Value)} (he : sl1 ls (n : Nat) (.int x) = ls') (k : WP g d (pc + 1) ls' st I J R Q) : WP g d pc ls (.int x :: st) I J R Q :=
  fun p e s m a b mt c H lo la C => lv_istore_n C.1 C.2.1 h rfl C.2.2.1 hn rfl (fun la2 hl2 => k p e s m a b mt c H lo la2 ⟨C.1, C.2.1, he ▸ sl1_has hl2, C.2.2.2⟩)
theorem WP_istore {i : Nat} {x : Int32} (h : decode (md_c d) pc = .ok (.istore i, 2)) (hn : i < md_n d) {ls' : List (Nat × Value)} (he : sl1 ls i (.int x) = ls') (k : WP g d (pc + 2) ls' st I J R Q) : WP g d pc ls (.int x :: st) I J R Q :=
  fun p e s m a b mt c H lo la C => lv_istore C.1 C.2.1 h C.2.2.1 hn rfl (fun la2 hl2 => k p e s m a b mt c H lo la2 ⟨C.1, C.2.1, he ▸ sl1_has hl2, C.2.2.2⟩)
theorem WP_lload_n {n : Fin 4} {x : Int64} (h : decode (md_c d) pc = .ok (.lload_n n, 1)) (hl : lk ls (n : Nat) = some (.long x)) (k : WP g d (pc + 1) ls (.long x :: st) I J R Q) : WP g d pc ls st I J R Q :=
  fun p e s m a b mt c H lo la C => lv_lload_n C.1 C.2.1 h rfl (lk_has hl C.2.2.1) (k p e s m a b mt c H lo la C)
theorem WP_lload {i : Nat} {x : Int64} (h : decode (md_c d) pc = .ok (.lload i, 2)) (hl : lk ls i = some (.long x)) (k : WP g d (pc + 2) ls (.long x :: st) I J R Q) : WP g d pc ls st I J R Q :=
  fun p e s m a b mt c H lo la C => lv_lload C.1 C.2.1 h (lk_has hl C.2.2.1) (k p e s m a b mt c H lo la C)
theorem WP_lstore_n {n : Fin 4} {x : Int64} (h : decode (md_c d) pc = .ok (.lstore_n n, 1)) (hn : (n : Nat) + 1 < md_n d) {ls' : List (Nat × Value)} (he : sl2 ls (n : Nat) (.long x) = ls') (k : WP g d (pc + 1) ls' st I J R Q) : WP g d pc ls (.long x :: st) I J R Q :=
  fun p e s m a b mt c H lo la C => lv_lstore_n C.1 C.2.1 h rfl C.2.2.1 hn rfl (fun la2 hl2 => k p e s m a b mt c H lo la2 ⟨C.1, C.2.1, he ▸ sl2_has hl2, C.2.2.2⟩)
theorem WP_lstore {i : Nat} {x : Int64} (h : decode (md_c d) pc = .ok (.lstore i, 2)) (hn : i + 1 < md_n d) {ls' : List (Nat × Value)} (he : sl2 ls i (.long x) = ls') (k : WP g d (pc + 2) ls' st I J R Q) : WP g d pc ls (.long x :: st) I J R Q :=
  fun p e s m a b mt c H lo la C => lv_lstore C.1 C.2.1 h C.2.2.1 hn rfl (fun la2 hl2 => k p e s m a b mt c H lo la2 ⟨C.1, C.2.1, he ▸ sl2_has hl2, C.2.2.2⟩)
theorem WP_aload_n {n : Fin 4} {x : Nat} (h : decode (md_c d) pc = .ok (.aload_n n, 1)) (hl : lk ls (n : Nat) = some (.ref x)) (k : WP g d (pc + 1) ls (.ref x :: st) I J R Q) : WP g d pc ls st I J R Q :=
  fun p e s m a b mt c H lo la C => lv_aload_n C.1 C.2.1 h rfl (lk_has hl C.2.2.1) (k p e s m a b mt c H lo la C)
theorem WP_aload {i : Nat} {x : Nat} (h : decode (md_c d) pc = .ok (.aload i, 2)) (hl : lk ls i = some (.ref x)) (k : WP g d (pc + 2) ls (.ref x :: st) I J R Q) : WP g d pc ls st I J R Q :=
  fun p e s m a b mt c H lo la C => lv_aload C.1 C.2.1 h (lk_has hl C.2.2.1) (k p e s m a b mt c H lo la C)
theorem WP_astore_n {n : Fin 4} {x : Nat} (h : decode (md_c d) pc = .ok (.astore_n n, 1)) (hn : (n : Nat) < md_n d) {ls' : List (Nat × Value)} (he : sl1 ls (n : Nat) (.ref x) = ls') (k : WP g d (pc + 1) ls' st I J R Q) : WP g d pc ls (.ref x :: st) I J R Q :=
  fun p e s m a b mt c H lo la C => lv_astore_n C.1 C.2.1 h rfl C.2.2.1 hn rfl (fun la2 hl2 => k p e s m a b mt c H lo la2 ⟨C.1, C.2.1, he ▸ sl1_has hl2, C.2.2.2⟩)
theorem WP_astore {i : Nat} {x : Nat} (h : decode (md_c d) pc = .ok (.astore i, 2)) (hn : i < md_n d) {ls' : List (Nat × Value)} (he : sl1 ls i (.ref x) = ls') (k : WP g d (pc + 2) ls' st I J R Q) : WP g d pc ls (.ref x :: st) I J R Q :=
  fun p e s m a b mt c H lo la C => lv_astore C.1 C.2.1 h C.2.2.1 hn rfl (fun la2 hl2 => k p e s m a b mt c H lo la2 ⟨C.1, C.2.1, he ▸ sl1_has hl2, C.2.2.2⟩)
theorem WP_iinc {i : Nat} {n : Int} {x : Int32} (h : decode (md_c d) pc = .ok (.iinc i n, 3)) (hl : lk ls i = some (.int x)) (hn : i < md_n d) {ls' : List (Nat × Value)} (he : sl1 ls i (.int (x + Int32.ofInt n)) = ls') (k : WP g d (pc + 3) ls' st I J R Q) : WP g d pc ls st I J R Q := by
  intro p e s m a b mt c H lo la C
  obtain ⟨q, hq⟩ := List.getElem?_of_mem (lk_mem hl)
  exact lv_iinc C.1 C.2.1 h C.2.2.1 hq rfl hn rfl (fun la2 hl2 => k p e s m a b mt c H lo la2 ⟨C.1, C.2.1, he ▸ sl1_has hl2, C.2.2.2⟩)
end Rules
