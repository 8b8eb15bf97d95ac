/-! Math.floorMod: java/lang/Math is no plain name, so its body is walked by the loose form -/
def fm_spec : Spec where
  pre := .and (.code yJ9_floorMod_7cf53 cJ9_floorMod_7cf53 3 (some .int)) (.and (.count 2) (.and (.isInt (.arg 0)) (.and (.isInt (.arg 1)) (.and (.eq (.arg 1) (.int 7)) (.le (.int 0) (.arg 0))))))
  post := .and .returned (.eq .result (.sub (.arg 0) (.mul (.div (.arg 0) (.int 7)) (.int 7))))
  changes := some []
theorem fm_noRow0 : (NativeRow.find? natives yJ9_floorMod_7cf53.cls yJ9_floorMod_7cf53.name yJ9_floorMod_7cf53.desc).isNone = true := by decide +kernel
theorem fm_noRow (p : Program) : NativeRow.find? p.tables.natives yJ9_floorMod_7cf53.cls yJ9_floorMod_7cf53.name yJ9_floorMod_7cf53.desc = none := by
  cases p <;> exact Option.isNone_iff_eq_none.mp fm_noRow0
set_option maxHeartbeats 4000000 in
theorem fm_loose (l : Launch) : MeetsLoose l yJ9_floorMod_7cf53 fm_spec := by
  refine MeetsLoose.of_body_ov (code := cJ9_floorMod_7cf53) (maxLocals := 3) (ret := some .int) fm_noRow ?_ ?_
  · intro args s h
    simp only [fm_spec, Cond.before_and, Bool.and_eq_true] at h
    exact h.1
  · intro p e s m args below meth c s₁ B
    have hpre := B.pre
    simp only [fm_spec, Cond.before_and, Bool.and_eq_true] at hpre
    obtain ⟨a, b, rfl⟩ := Cond.two_ints hpre.2.1 hpre.2.2.1 hpre.2.2.2.1
    have hb7 : b = 7 := by
      have h := hpre.2.2.2.2.1
      simpa [Cond.before, Cond.holds, Cond.value, Term.eval] using h
    subst hb7
    have ha : 0 ≤ a := by
      have h := hpre.2.2.2.2.2
      simpa [Cond.before, Cond.holds, Cond.value, Term.eval] using h
    have hxor : 0 ≤ a ^^^ 7 := xor7 (by rw [le32] at ha; exact ha)
    have hloc : argsToLocals #[.int a, .int 7] 3 = #[.val (.int a), .val (.int 7), .unset] := rfl
    obtain ⟨fs, hfs⟩ := handOver_isSome (s := s₁) (some (.int (a - a / 7 * 7))) B.hears₁
    refine ⟨s₁.setFrames fs, .returned (some (.int (a - a / 7 * 7))), ?_, B.here.running, B.ended hfs (by intro h; cases h), ?_, State.sameBut_nil.mpr ?_⟩
    · unfold entryFrame; rw [hloc]
      refine Steps.instrAtOv (c := _) (by simpa using B.here) ?_
      simp [jvm, wpRun, exec, B.here.top, B.exec, B.bytes, dJ9_floorMod_7cf53_0]
      refine Steps.instrAtOv (c := _) (by simpa using B.here) ?_
      simp [jvm, wpRun, exec, B.here.top, B.exec, B.bytes, dJ9_floorMod_7cf53_1]
      refine Steps.instrAtOv (c := _) (by simpa using B.here) ?_
      simp [jvm, wpRun, exec, B.here.top, B.exec, B.bytes, dJ9_floorMod_7cf53_2]
      refine Steps.instrAtOv (c := _) (by simpa using B.here) ?_
      simp [jvm, wpRun, exec, B.here.top, B.exec, B.bytes, dJ9_floorMod_7cf53_3, storeLocals, storeSelf, setAt, Value.category]
      refine Steps.instrAtOv (c := _) (by simpa using B.here) ?_
      simp [jvm, wpRun, exec, B.here.top, B.exec, B.bytes, dJ9_floorMod_7cf53_4]
      refine Steps.instrAtOv (c := _) (by simpa using B.here) ?_
      simp [jvm, wpRun, exec, B.here.top, B.exec, B.bytes, dJ9_floorMod_7cf53_5]
      refine Steps.instrAtOv (c := _) (by simpa using B.here) ?_
      simp [jvm, wpRun, exec, B.here.top, B.exec, B.bytes, dJ9_floorMod_7cf53_6]
      refine Steps.instrAtOv (c := _) (by simpa using B.here) ?_
      simp [jvm, wpRun, exec, B.here.top, B.exec, B.bytes, dJ9_floorMod_7cf53_7, ifCond.holds, hxor]
      refine Steps.instrAtOv (c := _) (by simpa using B.here) ?_
      simp [jvm, wpRun, exec, B.here.top, B.exec, B.bytes, dJ9_floorMod_7cf53_18]
      refine Steps.instrAtOv (c := _) (by simpa using B.here) ?_
      simp [jvm, wpRun, exec, B.here.top, B.exec, B.bytes, dJ9_floorMod_7cf53_19, B.method₁, B.returns, narrow]
      intro acts
      rw [ret_to B.frames₁ B.method₁ B.notSynchronized rfl rfl hfs]
      exact Steps.refl _
    · simp [fm_spec, Cond.after, Cond.holds, Cond.value, Term.eval]
    · rw [State.frames_setFrames _ B.cur₁, B.back]
section FM
variable {p : Program} {l : Launch} {e : Env} {R : Room} {s : State} {m : MethodId} {args : Array Value} {below : List Frame} {meth : Method} {c : Code} {T : State} {locs : List Loc} {cells slots : Nat}
set_option maxHeartbeats 4000000 in
theorem fm_V (X : Stand p l e R s m args below meth c T locs cells slots) (hexec : p.tables.exec = Jvm.exec) {own : String} {index : Nat} (hown : s.vm.findClass own = some m.cls)
    (hlink : (Cond.methodLink own index yJ9_floorMod_7cf53).before args s = true) (hstat : (Cond.static yJ9_floorMod_7cf53).before args s = true) (hinit : (Cond.initialized "java/lang/Math").before args s = true)
    (hcode : (Cond.code yJ9_floorMod_7cf53 cJ9_floorMod_7cf53 3 (some .int)).before args s = true)
    {g : JFrame} (hg : g.method = m) (hsize : g.locals.size = c.maxLocals) {a : Int32} (ha : 0 ≤ a) {rest : List Value} (hstack : g.stack = .int 7 :: .int a :: rest) (hdg : decode c.code g.pc = .ok (.invokestatic index, 3))
    (hframes : 1 ≤ R.frames) (hlocals : 2 * g.monitorRoom + (rest.map fun v => v.category).sum + 14 ≤ R.locals) (hcells : cells ≤ R.cells) (hslots : slots ≤ R.slots) :
    ∃ vm', Stand p l e R s m args below meth c (T.setVm vm') locs cells slots ∧
      ∀ target, Steps p.tables e below ((T.setVm vm').setTop { g with pc := g.pc + 3, stack := .int (a - a / 7 * 7) :: rest }) target → Steps p.tables e below (T.setTop g) target := by
  obtain ⟨v, T', X', ⟨first, t, hpost⟩, hstep⟩ := X.staticByContractV hexec hown hlink hstat hinit hcode (by decide)
    (fm_loose l)
    rfl rfl rfl rfl
    (fun args' first o s₂ h => by
      cases o with
      | returned r => exact ⟨r, rfl⟩
      | threw y =>
        have hz : fm_spec.post.value args' first (some (.threw y)) s₂ [] = some true := by simpa [Cond.after, Cond.holds] using h
        exact absurd hz va_nvRet)
    hg hsize (argsL := [.int a, .int 7]) (rest := rest)
    (fun sig hs => by
      have h : parseMethodDescriptor "(II)I" = some { parameters := [.int, .int], returnType := some .int } := by decide +kernel
      rw [show yJ9_floorMod_7cf53.desc = "(II)I" from rfl, h] at hs
      rw [← Option.some.inj hs]; rfl)
    hstack hdg
    (fun vm' hW => by
      simp only [fm_spec, Cond.before_and, Bool.and_eq_true]
      refine ⟨?_, rfl, rfl, rfl, by simp [Cond.before, Cond.holds, Cond.value, Term.eval], by simpa [Cond.before, Cond.holds, Cond.value, Term.eval] using ha⟩
      have q := hcode
      rw [← Cond.code_setVm hW.alike] at q
      simp only [Cond.before, Cond.holds, Cond.value, State.methodNamed?, State.vm_setVm] at q ⊢
      exact q)
    (by show 0 + 1 ≤ R.frames; omega) (by show 2 * g.monitorRoom + (rest.map fun v => v.category).sum + (3 + 11) + 0 ≤ R.locals; omega) (by show cells + 0 ≤ R.cells; omega) (by show slots + 0 ≤ R.slots; omega)
  refine ⟨T', X', fun target h => hstep target ?_⟩
  obtain rfl : v = some (.int (a - a / 7 * 7)) := by
    rcases v with _ | w
    · simp [fm_spec, Cond.after, Cond.holds, Cond.value, Term.eval] at hpost
    · cases w <;> simp [fm_spec, Cond.after, Cond.holds, Cond.value, Term.eval] at hpost
      first | (simp [hpost]; done) | (rename_i r; by_cases hr : r = a - a / 7 * 7 <;> simp [hr] at hpost ⊢)
  exact h
end FM
theorem WP_floorMod {g : GG} {d : MD} {pc idx : Nat} {ls : List (Nat × Value)} {st : List Value} {I : pI} {J : pJ} {R : pR} {Q : Post} {a : Int32} (h : decode (md_c d) pc = .ok (.invokestatic idx, 3)) (hl : Cond.methodLink (md_o d) idx yJ9_floorMod_7cf53 ∈ wsL_law) (hR : 1 ≤ md_f d ∧ (st.map fun v => v.category).sum + 14 ≤ md_q d) (ha : 0 ≤ a) (k : WP g d (pc + 3) ls (.int (a - a / 7 * 7) :: st) I J R Q) : WP g d pc ls (.int 7 :: .int a :: st) I J R Q := by
  intro p e s m as b mt c H lo la C
  have ht : ∀ w ∈ wsL_law, w.before as s = true := fun w hw => C.2.2.2.2.2.2.2.1 w (List.mem_cons_of_mem _ hw)
  intro T hT X
  obtain ⟨vm', X', stp⟩ := fm_V X C.1 C.2.2.2.2.2.2.1 (ht _ hl) (ht _ tJ9_floorMod_7cf53) (ht _ zJ9_floorMod_7cf53.2.2) (ht _ zJ9_floorMod_7cf53.2.1) (g := F0 m pc la (.int 7 :: .int a :: st)) rfl (by rw [C.2.2.2.1]; exact C.2.2.1.1) ha (rest := st) rfl (by rw [C.2.1]; exact h) hR.1 (by show 2 * 0 + _ + 14 ≤ md_q d; omega) (Nat.le_refl _) (Nat.le_refl _)
  obtain ⟨t, a1, b1⟩ := k p e s m as b mt c H lo la C (T.setVm vm') hT X'
  exact ⟨t, stp t a1, b1⟩
