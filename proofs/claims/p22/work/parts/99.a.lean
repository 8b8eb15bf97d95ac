/-! floorMod by 7 of any int: 0 to 6 -/
theorem xor7n {a : Int32} (h : a.toInt < 0) : ¬ 0 ≤ a ^^^ 7 := by
  rw [le32]
  have e : (a ^^^ 7).toInt = (a.toBitVec ^^^ 7#32).toInt := rfl
  have m1 : a.toBitVec.msb = true := by rw [BitVec.msb_eq_toInt]; exact decide_eq_true h
  have m2 : (a.toBitVec ^^^ 7#32).msb = true := by rw [BitVec.msb_xor, m1]; rfl
  rw [BitVec.msb_eq_toInt] at m2
  have m3 := of_decide_eq_true m2
  have z : (0 : Int32).toInt = 0 := rfl
  rw [e, z]
  omega
theorem rem7n {a : Int32} (h : a.toInt < 0) : (a - a / 7 * 7).toInt = a.toInt + 7 * ((- a.toInt) / 7) := by
  have r := rng a
  have z : (7 : Int32).toInt = 7 := rfl
  have e1 : (a / 7).toInt = - ((- a.toInt) / 7) := by
    rw [Int32.toInt_div, z, show a.toInt.tdiv 7 = - ((- a.toInt) / 7) by
      have k := Int.neg_tdiv (- a.toInt) 7
      rw [Int.neg_neg] at k
      rw [k, Int.tdiv_eq_ediv_of_nonneg (by omega)]]
    exact bm32 (by omega) (by omega)
  have e2 : (a / 7 * 7).toInt = - ((- a.toInt) / 7) * 7 := by
    rw [im, e1, z]
    · rw [e1, z]; omega
    · rw [e1, z]; omega
  rw [is', e2]
  · omega
  · rw [e2]; omega
  · rw [e2]; omega
def fn_spec : Spec where
  pre := .and (.code yJ9_floorMod_7cf53 cJ9_floorMod_7cf53 3 (some .int)) (.and (.count 2) (.and (.isInt (.arg 0)) (.and (.isInt (.arg 1)) (.and (.eq (.arg 1) (.int 7)) (.le (.arg 0) (.int (-1)))))))
  post := .and .returned (.and (.isInt .result) (.and (.le (.int 0) .result) (.le .result (.int 6))))
  changes := some []
def fn_v (a : Int32) : Int32 := if a - a / 7 * 7 = 0 then a - a / 7 * 7 else a - a / 7 * 7 + 7
theorem fn_b {a : Int32} (h : a.toInt < 0) : 0 ≤ (fn_v a).toInt ∧ (fn_v a).toInt ≤ 6 := by
  have e := rem7n h
  unfold fn_v
  split
  · rename_i q
    have : (a - a / 7 * 7).toInt = 0 := by rw [q]; rfl
    omega
  · rename_i q
    have q2 : ¬ (a - a / 7 * 7).toInt = 0 := fun z => q ((eq32 _ 0).mpr z)
    have z : (7 : Int32).toInt = 7 := rfl
    rw [ia (by rw [z]; omega) (by rw [z]; omega), z]
    omega
set_option maxHeartbeats 4000000 in
theorem fn_loose (l : Launch) : MeetsLoose l yJ9_floorMod_7cf53 fn_spec := by
  refine MeetsLoose.of_body_ov (code := cJ9_floorMod_7cf53) (maxLocals := 3) (ret := some .int) fm_noRow ?_ ?_
  · intro args s h
    simp only [fn_spec, Cond.before_and, Bool.and_eq_true] at h
    exact h.1
  · intro p e s m args below meth c s₁ B
    have hpre := B.pre
    simp only [fn_spec, Cond.before_and, Bool.and_eq_true] at hpre
    obtain ⟨a, b, rfl⟩ := Cond.two_ints hpre.2.1 hpre.2.2.1 hpre.2.2.2.1
    have hb7 : b = 7 := by
      have h := hpre.2.2.2.2.1
      simpa [Cond.before, Cond.holds, Cond.value, Term.eval] using h
    subst hb7
    have ha : a ≤ -1 := by
      have h := hpre.2.2.2.2.2
      simpa [Cond.before, Cond.holds, Cond.value, Term.eval] using h
    have han : a.toInt < 0 := by
      rw [le32] at ha
      have z : (-1 : Int32).toInt = -1 := rfl
      omega
    have hxor : ¬ 0 ≤ a ^^^ 7 := xor7n han
    have hloc : argsToLocals #[.int a, .int 7] 3 = #[.val (.int a), .val (.int 7), .unset] := rfl
    obtain ⟨fs, hfs⟩ := handOver_isSome (s := s₁) (some (.int (fn_v a))) B.hears₁
    have hb := fn_b han
    have z0 : (0 : Int32) ≤ fn_v a := (le32 _ _).mpr hb.1
    have z6 : fn_v a ≤ (6 : Int32) := (le32 _ _).mpr hb.2
    refine ⟨s₁.setFrames fs, .returned (some (.int (fn_v a))), ?_, B.here.running, B.ended hfs (by intro h; cases h), ?_, State.sameBut_nil.mpr ?_⟩
    · unfold entryFrame; rw [hloc]
      refine Steps.instrAtOv (c := _) (by simpa using B.here) ?_
      simp [jvm, wpRun, exec, B.here.top, B.exec, B.bytes, dJ9_floorMod_7cf53_0]
      refine Steps.instrAtOv (c := _) (by simpa using B.here) ?_
      simp [jvm, wpRun, exec, B.here.top, B.exec, B.bytes, dJ9_floorMod_7cf53_1]
      refine Steps.instrAtOv (c := _) (by simpa using B.here) ?_
      simp [jvm, wpRun, exec, B.here.top, B.exec, B.bytes, dJ9_floorMod_7cf53_2]
      refine Steps.instrAtOv (c := _) (by simpa using B.here) ?_
      simp [jvm, wpRun, exec, B.here.top, B.exec, B.bytes, dJ9_floorMod_7cf53_3, storeLocals, storeSelf, setAt, Value.category]
      refine Steps.instrAtOv (c := _) (by simpa using B.here) ?_
      simp [jvm, wpRun, exec, B.here.top, B.exec, B.bytes, dJ9_floorMod_7cf53_4]
      refine Steps.instrAtOv (c := _) (by simpa using B.here) ?_
      simp [jvm, wpRun, exec, B.here.top, B.exec, B.bytes, dJ9_floorMod_7cf53_5]
      refine Steps.instrAtOv (c := _) (by simpa using B.here) ?_
      simp [jvm, wpRun, exec, B.here.top, B.exec, B.bytes, dJ9_floorMod_7cf53_6]
      refine Steps.instrAtOv (c := _) (by simpa using B.here) ?_
      simp [jvm, wpRun, exec, B.here.top, B.exec, B.bytes, dJ9_floorMod_7cf53_7, ifCond.holds, hxor]
      refine Steps.instrAtOv (c := _) (by simpa using B.here) ?_
      simp [jvm, wpRun, exec, B.here.top, B.exec, B.bytes, dJ9_floorMod_7cf53_10]
      by_cases hr : a - a / 7 * 7 = 0
      · have hv : fn_v a = a - a / 7 * 7 := by unfold fn_v; rw [if_pos hr]
        rw [hv] at hfs
        refine Steps.instrAtOv (c := _) (by simpa using B.here) ?_
        simp [jvm, wpRun, exec, B.here.top, B.exec, B.bytes, dJ9_floorMod_7cf53_11, ifCond.holds, hr]
        refine Steps.instrAtOv (c := _) (by simpa using B.here) ?_
        simp [jvm, wpRun, exec, B.here.top, B.exec, B.bytes, dJ9_floorMod_7cf53_18]
        refine Steps.instrAtOv (c := _) (by simpa using B.here) ?_
        simp [jvm, wpRun, exec, B.here.top, B.exec, B.bytes, dJ9_floorMod_7cf53_19, B.method₁, B.returns, narrow]
        intro acts
        rw [hr] at hfs
        rw [ret_to B.frames₁ B.method₁ B.notSynchronized rfl rfl hfs]
        exact Steps.refl _
      · have hv : fn_v a = a - a / 7 * 7 + 7 := by unfold fn_v; rw [if_neg hr]
        rw [hv] at hfs
        refine Steps.instrAtOv (c := _) (by simpa using B.here) ?_
        simp [jvm, wpRun, exec, B.here.top, B.exec, B.bytes, dJ9_floorMod_7cf53_11, ifCond.holds, hr]
        refine Steps.instrAtOv (c := _) (by simpa using B.here) ?_
        simp [jvm, wpRun, exec, B.here.top, B.exec, B.bytes, dJ9_floorMod_7cf53_14]
        refine Steps.instrAtOv (c := _) (by simpa using B.here) ?_
        simp [jvm, wpRun, exec, B.here.top, B.exec, B.bytes, dJ9_floorMod_7cf53_15]
        refine Steps.instrAtOv (c := _) (by simpa using B.here) ?_
        simp [jvm, wpRun, exec, B.here.top, B.exec, B.bytes, dJ9_floorMod_7cf53_16]
        refine Steps.instrAtOv (c := _) (by simpa using B.here) ?_
        simp [jvm, wpRun, exec, B.here.top, B.exec, B.bytes, dJ9_floorMod_7cf53_17, B.method₁, B.returns, narrow]
        intro acts
        rw [ret_to B.frames₁ B.method₁ B.notSynchronized rfl rfl hfs]
        exact Steps.refl _
    · simp [fn_spec, Cond.after, Cond.holds, Cond.value, Term.eval, z0, z6]
    · rw [State.frames_setFrames _ B.cur₁, B.back]
section FM
variable {p : Program} {l : Launch} {e : Env} {R : Room} {s : State} {m : MethodId} {args : Array Value} {below : List Frame} {meth : Method} {c : Code} {T : State} {locs : List Loc} {cells slots : Nat}
set_option maxHeartbeats 4000000 in
theorem fn_V (X : Stand p l e R s m args below meth c T locs cells slots) (hexec : p.tables.exec = Jvm.exec) {own : String} {index : Nat} (hown : s.vm.findClass own = some m.cls)
    (hlink : (Cond.methodLink own index yJ9_floorMod_7cf53).before args s = true) (hstat : (Cond.static yJ9_floorMod_7cf53).before args s = true) (hinit : (Cond.initialized "java/lang/Math").before args s = true)
    (hcode : (Cond.code yJ9_floorMod_7cf53 cJ9_floorMod_7cf53 3 (some .int)).before args s = true)
    {g : JFrame} (hg : g.method = m) (hsize : g.locals.size = c.maxLocals) {a : Int32} (ha : a ≤ -1) {rest : List Value} (hstack : g.stack = .int 7 :: .int a :: rest) (hdg : decode c.code g.pc = .ok (.invokestatic index, 3))
    (hframes : 1 ≤ R.frames) (hlocals : 2 * g.monitorRoom + (rest.map fun v => v.category).sum + 14 ≤ R.locals) (hcells : cells ≤ R.cells) (hslots : slots ≤ R.slots) :
    ∃ (vm' : Vm) (r : Int32), (0 ≤ r ∧ r ≤ 6) ∧ Stand p l e R s m args below meth c (T.setVm vm') locs cells slots ∧
      ∀ target, Steps p.tables e below ((T.setVm vm').setTop { g with pc := g.pc + 3, stack := .int r :: rest }) target → Steps p.tables e below (T.setTop g) target := by
  obtain ⟨v, T', X', ⟨first, t, hpost⟩, hstep⟩ := X.staticByContractV hexec hown hlink hstat hinit hcode (by decide)
    (fn_loose l)
    rfl rfl rfl rfl
    (fun args' first o s₂ h => by
      cases o with
      | returned r => exact ⟨r, rfl⟩
      | threw y =>
        have hz : fn_spec.post.value args' first (some (.threw y)) s₂ [] = some true := by simpa [Cond.after, Cond.holds] using h
        exact absurd hz va_nvRet)
    hg hsize (argsL := [.int a, .int 7]) (rest := rest)
    (fun sig hs => by
      have h : parseMethodDescriptor "(II)I" = some { parameters := [.int, .int], returnType := some .int } := by decide +kernel
      rw [show yJ9_floorMod_7cf53.desc = "(II)I" from rfl, h] at hs
      rw [← Option.some.inj hs]; rfl)
    hstack hdg
    (fun vm' hW => by
      simp only [fn_spec, Cond.before_and, Bool.and_eq_true]
      refine ⟨?_, rfl, rfl, rfl, by simp [Cond.before, Cond.holds, Cond.value, Term.eval], by simpa [Cond.before, Cond.holds, Cond.value, Term.eval] using ha⟩
      have q := hcode
      rw [← Cond.code_setVm hW.alike] at q
      simp only [Cond.before, Cond.holds, Cond.value, State.methodNamed?, State.vm_setVm] at q ⊢
      exact q)
    (by show 0 + 1 ≤ R.frames; omega) (by show 2 * g.monitorRoom + (rest.map fun v => v.category).sum + (3 + 11) + 0 ≤ R.locals; omega) (by show cells + 0 ≤ R.cells; omega) (by show slots + 0 ≤ R.slots; omega)
  have key : ∃ r : Int32, v = some (.int r) ∧ 0 ≤ r ∧ r ≤ 6 := by
    rcases v with _ | w
    · simp [fn_spec, Cond.after, Cond.holds, Cond.value, Term.eval] at hpost
    · cases w <;> simp [fn_spec, Cond.after, Cond.holds, Cond.value, Term.eval] at hpost
      rename_i r
      by_cases h0 : (0 : Int32) ≤ r
      · by_cases h6 : r ≤ 6
        · exact ⟨r, rfl, h0, h6⟩
        · simp [h0, h6] at hpost
      · simp [h0] at hpost
  obtain ⟨r, rfl, h0, h6⟩ := key
  exact ⟨T', r, ⟨h0, h6⟩, X', fun target h => hstep target h⟩
end FM
theorem WQ_floorMod {g : GG} {d : MD} {pc idx : Nat} {ls : List (Nat × Value)} {st : List Value} {I : pI} {J : pJ} {R : pR} {Q : Post} {a b : Int32} (h : decode (md_c d) pc = .ok (.invokestatic idx, 3)) (hl : Cond.methodLink (md_o d) idx yJ9_floorMod_7cf53 ∈ wsL_law) (hR : 1 ≤ md_f d ∧ (st.map fun v => v.category).sum + 14 ≤ md_q d) (hb : b.toInt = 7) (k : ∀ v : Int32, 0 ≤ v.toInt → v.toInt ≤ 6 → WP g d (pc + 3) ls (.int v :: st) I J R Q) : WP g d pc ls (.int b :: .int a :: st) I J R Q := by
  obtain rfl : b = 7 := (eq32 b 7).mpr hb
  by_cases ha : 0 ≤ a
  · have ha2 := (le32 0 a).mp ha
    have z : (0 : Int32).toInt = 0 := rfl
    have z7 : (7 : Int32).toInt = 7 := rfl
    have e := ir (x := a) (y := 7) (by omega) (by decide)
    rw [z7] at e
    exact WP_floorMod h hl hR ha (k _ (by omega) (by omega))
  · have ha2 : a ≤ -1 := by
      rw [le32] at ha ⊢
      have z : (0 : Int32).toInt = 0 := rfl
      have z1 : (-1 : Int32).toInt = -1 := rfl
      omega
    intro p e s m as b mt c H lo la C
    have ht : ∀ w ∈ wsL_law, w.before as s = true := fun w hw => C.2.2.2.2.2.2.2.1 w (List.mem_cons_of_mem _ hw)
    intro T hT X
    obtain ⟨vm', r, hr, X', stp⟩ := fn_V X C.1 C.2.2.2.2.2.2.1 (ht _ hl) (ht _ tJ9_floorMod_7cf53) (ht _ zJ9_floorMod_7cf53.2.2) (ht _ zJ9_floorMod_7cf53.2.1) (g := F0 m pc la (.int 7 :: .int a :: st)) rfl (by rw [C.2.2.2.1]; exact C.2.2.1.1) ha2 (rest := st) rfl (by rw [C.2.1]; exact h) hR.1 (by show 2 * 0 + _ + 14 ≤ md_q d; omega) (Nat.le_refl _) (Nat.le_refl _)
    obtain ⟨t, a1, b1⟩ := k r ((le32 _ _).mp hr.1) ((le32 _ _).mp hr.2) p e s m as b mt c H lo la C (T.setVm vm') hT X'
    exact ⟨t, stp t a1, b1⟩
