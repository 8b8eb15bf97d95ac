/-! floorMod by 7 of any int: 0 to 6 -/
theorem xor7n {a : Int32} (h : a.toInt < 0) : ¬ 0 ≤ a ^^^ 7 := by
  rw [le32]
  have e : (a ^^^ 7).toInt = (a.toBitVec ^^^ 7#32).toInt := rfl
  have m1 : a.toBitVec.msb = true := by rw [BitVec.msb_eq_toInt]; exact decide_eq_true h
  have m2 : (a.toBitVec ^^^ 7#32).msb = true := by rw [BitVec.msb_xor, m1]; rfl
  rw [BitVec.msb_eq_toInt] at m2
  have m3 := of_decide_eq_true m2
  have z : (0 : Int32).toInt = 0 := rfl
  rw [e, z]
  omega
theorem rem7n {a : Int32} (h : a.toInt < 0) : (a - a / 7 * 7).toInt = a.toInt + 7 * ((- a.toInt) / 7) := by
  have r := rng a
  have z : (7 : Int32).toInt = 7 := rfl
  have e1 : (a / 7).toInt = - ((- a.toInt) / 7) := by
    rw [Int32.toInt_div, z, show a.toInt.tdiv 7 = - ((- a.toInt) / 7) by
      have k := Int.neg_tdiv (- a.toInt) 7
      rw [Int.neg_neg] at k
      rw [k, Int.tdiv_eq_ediv_of_nonneg (by omega)]]
    exact bm32 (by omega) (by omega)
  have e2 : (a / 7 * 7).toInt = - ((- a.toInt) / 7) * 7 := by
    rw [im, e1, z]
    · rw [e1, z]; omega
    · rw [e1, z]; omega
  rw [is', e2]
  · omega
  · rw [e2]; omega
  · rw [e2]; omega
def fn_spec : Spec where
  pre := .and (.code yJ9_floorMod_7cf53 cJ9_floorMod_7cf53 3 (some .int)) (.and (.count 2) (.and (.isInt (.arg 0)) (.and (.isInt (.arg 1)) (.and (.eq (.arg 1) (.int 7)) (.le (.arg 0) (.int (-1)))))))
  post := .and .returned (.and (.isInt .result) (.and (.le (.int 0) .result) (.le .result (.int 6))))
  changes := some []
def fn_v (a : Int32) : Int32 := if a - a / 7 * 7 = 0 then a - a / 7 * 7 else a - a / 7 * 7 + 7
theorem fn_b {a : Int32} (h : a.toInt < 0) : 0 ≤ (fn_v a).toInt ∧ (fn_v a).toInt ≤ 6 := by
  have e := rem7n h
  unfold fn_v
  split
  · rename_i q
    have : (a - a / 7 * 7).toInt = 0 := by rw [q]; rfl
    omega
  · rename_i q
    have q2 : ¬ (a - a / 7 * 7).toInt = 0 := fun z => q ((eq32 _ 0).mpr z)
    have z : (7 : Int32).toInt = 7 := rfl
    rw [ia (by rw [z]; omega) (by rw [z]; omega), z]
    omega
set_option maxHeartbeats 4000000 in
theorem fn_loose (l : Launch) : MeetsLoose l yJ9_floorMod_7cf53 fn_spec := by
  refine MeetsLoose.of_body_ov (code := cJ9_floorMod_7cf53) (maxLocals := 3) (ret := some .int) fm_noRow ?_ ?_
  · intro args s h
    simp only [fn_spec, Cond.before_and, Bool.and_eq_true] at h
    exact h.1
  · intro p e s m args below meth c s₁ B
    have hpre := B.pre
    simp only [fn_spec, Cond.before_and, Bool.and_eq_true] at hpre
    obtain ⟨a, b, rfl⟩ := Cond.two_ints hpre.2.1 hpre.2.2.1 hpre.2.2.2.1
    have hb7 : b = 7 := by
      have h := hpre.2.2.2.2.1
      simpa [Cond.before, Cond.holds, Cond.value, Term.eval] using h
    subst hb7
    have ha : a ≤ -1 := by
      have h := hpre.2.2.2.2.2
      simpa [Cond.before, Cond.holds, Cond.value, Term.eval] using h
    have han : a.toInt < 0 := by
      rw [le32] at ha
      have z : (-1 : Int32).toInt = -1 := rfl
      omega
    have hxor : ¬ 0 ≤ a ^^^ 7 := xor7n han
    have hloc : argsToLocals #[.int a, .int 7] 3 = #[.val (.int a), .val (.int 7), .unset] := rfl
    obtain ⟨fs, hfs⟩ := handOver_isSome (s := s₁) (some (.int (fn_v a))) B.hears₁
    have hb := fn_b han
    have z0 : (0 : Int32) ≤ fn_v a := (le32 _ _).mpr hb.1
    have z6 : fn_v a ≤ (6 : Int32) := (le32 _ _).mpr hb.2
    refine ⟨s₁.setFrames fs, .returned (some (.int (fn_v a))), ?_, B.here.running, B.ended hfs (by intro h; cases h), ?_, State.sameBut_nil.mpr ?_⟩
    · unfold entryFrame; rw [hloc]
      refine Steps.instrAtOv (c := _) (by simpa using B.here) ?_
      simp [jvm, wpRun, exec, B.here.top, B.exec, B.bytes, dJ9_floorMod_7cf53_0]
      refine Steps.instrAtOv (c := _) (by simpa using B.here) ?_
      simp [jvm, wpRun, exec, B.here.top, B.exec, B.bytes, dJ9_floorMod_7cf53_1]
      refine Steps.instrAtOv (c := _) (by simpa using B.here) ?_
      simp [jvm, wpRun, exec, B.here.top, B.exec, B.bytes, dJ9_floorMod_7cf53_2]
      refine Steps.instrAtOv (c := _) (by simpa using B.here) ?_
      simp [jvm, wpRun, exec, B.here.top, B.exec, B.bytes, dJ9_floorMod_7cf53_3, storeLocals, storeSelf, setAt, Value.category]
      refine Steps.instrAtOv (c := _) (by simpa using B.here) ?_
      simp [jvm, wpRun, exec, B.here.top, B.exec, B.bytes, dJ9_floorMod_7cf53_4]
      refine Steps.instrAtOv (c := _) (by simpa using B.here) ?_
      simp [jvm, wpRun, exec, B.here.top, B.exec, B.bytes, dJ9_floorMod_7cf53_5]
      refine Steps.instrAtOv (c := _) (by simpa using B.here) ?_
      simp [jvm, wpRun, exec, B.here.top, B.exec, B.bytes, dJ9_floorMod_7cf53_6]
      refine Steps.instrAtOv (c := _) (by simpa using B.here) ?_
      simp [jvm, wpRun, exec, B.here.top, B.exec, B.bytes, dJ9_floorMod_7cf53_7, ifCond.holds, hxor]
      refine Steps.instrAtOv (c := _) (by simpa using B.here) ?_
      simp [jvm, wpRun, exec, B.here.top, B.exec, B.bytes, dJ9_floorMod_7cf53_10]
      by_cases hr : a - a / 7 * 7 = 0
      · have hv : fn_v a = a - a / 7 * 7 := by unfold fn_v; rw [if_pos hr]
        rw [hv] at hfs ⊢
        refine Steps.instrAtOv (c := _) (by simpa using B.here) ?_
        simp [jvm, wpRun, exec, B.here.top, B.exec, B.bytes, dJ9_floorMod_7cf53_11, ifCond.holds, hr]
        refine Steps.instrAtOv (c := _) (by simpa using B.here) ?_
        simp [jvm, wpRun, exec, B.here.top, B.exec, B.bytes, dJ9_floorMod_7cf53_18]
        refine Steps.instrAtOv (c := _) (by simpa using B.here) ?_
        simp [jvm, wpRun, exec, B.here.top, B.exec, B.bytes, dJ9_floorMod_7cf53_19, B.method₁, B.returns, narrow]
        intro acts
        rw [hr] at hfs
        rw [ret_to B.frames₁ B.method₁ B.notSynchronized rfl rfl hfs]
        exact Steps.refl _
      · have hv : fn_v a = a - a / 7 * 7 + 7 := by unfold fn_v; rw [if_neg hr]
        rw [hv] at hfs ⊢
        refine Steps.instrAtOv (c := _) (by simpa using B.here) ?_
        simp [jvm, wpRun, exec, B.here.top, B.exec, B.bytes, dJ9_floorMod_7cf53_11, ifCond.holds, hr]
        refine Steps.instrAtOv (c := _) (by simpa using B.here) ?_
        simp [jvm, wpRun, exec, B.here.top, B.exec, B.bytes, dJ9_floorMod_7cf53_14]
        refine Steps.instrAtOv (c := _) (by simpa using B.here) ?_
        simp [jvm, wpRun, exec, B.here.top, B.exec, B.bytes, dJ9_floorMod_7cf53_15]
        refine Steps.instrAtOv (c := _) (by simpa using B.here) ?_
        simp [jvm, wpRun, exec, B.here.top, B.exec, B.bytes, dJ9_floorMod_7cf53_16]
        refine Steps.instrAtOv (c := _) (by simpa using B.here) ?_
        simp [jvm, wpRun, exec, B.here.top, B.exec, B.bytes, dJ9_floorMod_7cf53_17, B.method₁, B.returns, narrow]
        intro acts
        rw [ret_to B.frames₁ B.method₁ B.notSynchronized rfl rfl hfs]
        exact Steps.refl _
    · simp [fn_spec, Cond.after, Cond.holds, Cond.value, Term.eval, z0, z6]
    · rw [State.frames_setFrames _ B.cur₁, B.back]
