set_option maxHeartbeats 4000000 in
set_option maxRecDepth 100000 in
theorem sx_stampsOf {g : GG} {n : Int} {L : Int32} (hy : LyX g)  {I : pI} {J : pJ} {R : pR} (hr : RfX g R) (hI : XI g n L I) (co : Int32) (lo : Int32) (co_lo : 0 ≤ co.toInt) (co_hi : co.toInt ≤ 999) (lo_lo : 0 ≤ lo.toInt) (lo_hi : lo.toInt ≤ 900) : SP g mX10_stampsOf [.int co, .int lo] I J R (fun r I' J' R' => (I' = I ∧ J' = J ∧ R' = R) ∧ ∃ v : Int32, r = some (.int v) ∧ 0 ≤ v.toInt ∧ v.toInt ≤ 999 ∧ v.toInt ≤ co.toInt) := by
  refine SP_of ⟨by decide, rfl⟩ (Nat.le_of_ble_eq_true rfl) ?_
  have e298 : I (ad g 1) 1 = L := hI.2
  have b299 := BT_get hI.1 1 1 2 (0) (0) (900) (by decide) 1 (by decide) (by decide)
  rw [e298] at b299
  refine WP_iload_n dX10_stampsOf_0 rfl ?_
  refine WP_iload_n dX10_stampsOf_1 rfl ?_
  refine WQ_imulb (999) (900) dX10_stampsOf_2 ⟨by omega, by omega⟩ ⟨by omega, by omega⟩ (by decide) (fun v300 pv300 av300 bv300 cv300 => ?_)
  refine WQ_sipush (999) (999) dX10_stampsOf_3 rfl rfl (fun v301 hv301 => ?_)
  refine WQ_iadd dX10_stampsOf_6 (by omega) (by omega) (fun v302 hv302 => ?_)
  refine WQ_sipush (1000) (1000) dX10_stampsOf_7 rfl rfl (fun v303 hv303 => ?_)
  refine WQ_idivk (1000) dX10_stampsOf_10 hv303 (by decide) (by omega) (fun v304 hv304 => ?_)
  exact WP_iret dX10_stampsOf_11 rfl ⟨⟨rfl, rfl, rfl⟩, _, rfl, by omega, by omega, by omega⟩
set_option maxHeartbeats 4000000 in
set_option maxRecDepth 100000 in
theorem sx_affordable {g : GG} {n : Int} {L : Int32} (hy : LyX g)  {I : pI} {J : pJ} {R : pR} (hr : RfX g R) (hI : XI g n L I) (co : Int32) (pr : Int32) (co_lo : 0 ≤ co.toInt) (co_hi : co.toInt ≤ 60) (pr_lo : 0 ≤ pr.toInt) (pr_hi : pr.toInt ≤ 20) : SP g mX10_affordable [.int co, .int pr] I J R (fun r I' J' R' => (I' = I ∧ J' = J ∧ R' = R) ∧ ∃ v : Int32, r = some (.int v) ∧ 0 ≤ v.toInt ∧ v.toInt ≤ 60) := by
  refine SP_of ⟨by decide, rfl⟩ (Nat.le_of_ble_eq_true rfl) ?_
  have e305 : I (ad g 1) 1 = L := hI.2
  have b306 := BT_get hI.1 1 1 2 (0) (0) (900) (by decide) 1 (by decide) (by decide)
  rw [e305] at b306
  refine WP_iload_n dX10_affordable_0 rfl ?_
  refine WQ_iconst (1) (1) dX10_affordable_1 rfl rfl (fun v307 hv307 => ?_)
  have jn12_310 : ∀ (v310 : Int32), 0 ≤ v310.toInt → v310.toInt ≤ 60 → WP g mX10_affordable 12 [(0, .int co), (1, .int pr)] [.int v310] I J R (fun r I' J' R' => (I' = I ∧ J' = J ∧ R' = R) ∧ ∃ v : Int32, r = some (.int v) ∧ 0 ≤ v.toInt ∧ v.toInt ≤ 60) := by
    intro v310 av310 bv310
    exact WP_iret dX10_affordable_12 rfl ⟨⟨rfl, rfl, rfl⟩, _, rfl, by omega, by omega⟩
  refine WQ_icmp_ge 9 dX10_affordable_2 rfl (fun c311 => ?_) (fun c311 => ?_)
  · refine WP_iload_n dX10_affordable_9 rfl ?_
    refine WP_iload_n dX10_affordable_10 rfl ?_
    refine WQ_idivb dX10_affordable_11 (by omega) (by omega) (fun v313 pv313 av313 bv313 cv313 => ?_)
    exact WP_sub (fc rfl (fc rfl fn)) (jn12_310 v313 (by omega) (by omega))
  · refine WQ_iconst (0) (0) dX10_affordable_5 rfl rfl (fun v314 hv314 => ?_)
    refine WP_goto 12 dX10_affordable_6 rfl ?_
    exact WP_sub (fc rfl (fc rfl fn)) (jn12_310 v314 (by omega) (by omega))
set_option maxHeartbeats 4000000 in
set_option maxRecDepth 100000 in
theorem sx_within {g : GG} {n : Int} {L : Int32} (hy : LyX g)  {I : pI} {J : pJ} {R : pR} (hr : RfX g R) (hI : XI g n L I) (a : Int32) (lo : Int32) (hi : Int32)  : SP g mX10_within [.int a, .int lo, .int hi] I J R (fun r I' J' R' => (I' = I ∧ J' = J ∧ R' = R) ∧ ∃ v : Int32, r = some (.int v) ∧ 0 ≤ v.toInt ∧ v.toInt ≤ 1 ∧ (v.toInt = 1 ↔ lo.toInt ≤ a.toInt ∧ a.toInt ≤ hi.toInt)) := by
  refine SP_of ⟨by decide, rfl⟩ (Nat.le_of_ble_eq_true rfl) ?_
  have e315 : I (ad g 1) 1 = L := hI.2
  have b316 := BT_get hI.1 1 1 2 (0) (0) (900) (by decide) 1 (by decide) (by decide)
  rw [e315] at b316
  refine WP_iload_n dX10_within_0 rfl ?_
  refine WP_iload_n dX10_within_1 rfl ?_
  refine WQ_icmp_lt 14 dX10_within_2 rfl (fun c316 => ?_) (fun c316 => ?_)
  · refine WQ_iconst (0) (0) dX10_within_14 rfl rfl (fun v318 hv318 => ?_)
    exact WP_zret dX10_within_15 rfl (nar_z (by omega)) ⟨⟨rfl, rfl, rfl⟩, _, rfl, by omega, by omega, by omega⟩
  · refine WP_iload_n dX10_within_5 rfl ?_
    refine WP_iload_n dX10_within_6 rfl ?_
    refine WQ_icmp_gt 14 dX10_within_7 rfl (fun c318 => ?_) (fun c318 => ?_)
    · refine WQ_iconst (0) (0) dX10_within_14 rfl rfl (fun v320 hv320 => ?_)
      exact WP_zret dX10_within_15 rfl (nar_z (by omega)) ⟨⟨rfl, rfl, rfl⟩, _, rfl, by omega, by omega, by omega⟩
    · refine WQ_iconst (1) (1) dX10_within_10 rfl rfl (fun v321 hv321 => ?_)
      refine WP_goto 15 dX10_within_11 rfl ?_
      exact WP_zret dX10_within_15 rfl (nar_z (by omega)) ⟨⟨rfl, rfl, rfl⟩, _, rfl, by omega, by omega, by omega⟩
set_option maxHeartbeats 4000000 in
set_option maxRecDepth 100000 in
theorem sx_isDay {g : GG} {n : Int} {L : Int32} (hy : LyX g)  {I : pI} {J : pJ} {R : pR} (hr : RfX g R) (hI : XI g n L I) (a : Int32)  : SP g mX10_isDay [.int a] I J R (fun r I' J' R' => (I' = I ∧ J' = J ∧ R' = R) ∧ ∃ v : Int32, r = some (.int v) ∧ 0 ≤ v.toInt ∧ v.toInt ≤ 1 ∧ (v.toInt = 1 ↔ 0 ≤ a.toInt ∧ a.toInt < 7)) := by
  refine SP_of ⟨by decide, rfl⟩ (Nat.le_of_ble_eq_true rfl) ?_
  have e322 : I (ad g 1) 1 = L := hI.2
  have b323 := BT_get hI.1 1 1 2 (0) (0) (900) (by decide) 1 (by decide) (by decide)
  rw [e322] at b323
  refine WP_iload_n dX10_isDay_0 rfl ?_
  refine WQ_if_lt 14 dX10_isDay_1 rfl (fun c323 => ?_) (fun c323 => ?_)
  · refine WQ_iconst (0) (0) dX10_isDay_14 rfl rfl (fun v325 hv325 => ?_)
    exact WP_zret dX10_isDay_15 rfl (nar_z (by omega)) ⟨⟨rfl, rfl, rfl⟩, _, rfl, by omega, by omega, by omega⟩
  · refine WP_iload_n dX10_isDay_4 rfl ?_
    refine WQ_bipush (7) (7) dX10_isDay_5 rfl rfl (fun v326 hv326 => ?_)
    refine WQ_icmp_ge 14 dX10_isDay_7 rfl (fun c326 => ?_) (fun c326 => ?_)
    · refine WQ_iconst (0) (0) dX10_isDay_14 rfl rfl (fun v328 hv328 => ?_)
      exact WP_zret dX10_isDay_15 rfl (nar_z (by omega)) ⟨⟨rfl, rfl, rfl⟩, _, rfl, by omega, by omega, by omega⟩
    · refine WQ_iconst (1) (1) dX10_isDay_10 rfl rfl (fun v329 hv329 => ?_)
      refine WP_goto 15 dX10_isDay_11 rfl ?_
      exact WP_zret dX10_isDay_15 rfl (nar_z (by omega)) ⟨⟨rfl, rfl, rfl⟩, _, rfl, by omega, by omega, by omega⟩
set_option maxHeartbeats 4000000 in
set_option maxRecDepth 100000 in
theorem sx_isHeld {g : GG} {n : Int} {L : Int32} (hy : LyX g)  {I : pI} {J : pJ} {R : pR} (hr : RfX g R) (hI : XI g n L I) (a : Int32) (b : Int32)  : SP g mX10_isHeld [.int a, .int b] I J R (fun r I' J' R' => (I' = I ∧ J' = J ∧ R' = R) ∧ ∃ v : Int32, r = some (.int v) ∧ 0 ≤ v.toInt ∧ v.toInt ≤ 1 ∧ (v.toInt = 1 ↔ (0 ≤ a.toInt ∧ a.toInt ≤ 60) ∧ (0 ≤ b.toInt ∧ b.toInt ≤ 5))) := by
  refine SP_of ⟨by decide, rfl⟩ (Nat.le_of_ble_eq_true rfl) ?_
  have e330 : I (ad g 1) 1 = L := hI.2
  have b331 := BT_get hI.1 1 1 2 (0) (0) (900) (by decide) 1 (by decide) (by decide)
  rw [e330] at b331
  refine WP_iload_n dX10_isHeld_0 rfl ?_
  refine WQ_iconst (0) (0) dX10_isHeld_1 rfl rfl (fun v332 hv332 => ?_)
  refine WQ_bipush (60) (60) dX10_isHeld_2 rfl rfl (fun v333 hv333 => ?_)
  refine WP_callS3 dX10_isHeld_4 ⟨⟨⟨by decide, by decide⟩, zX10_within⟩, lX10_206, tX10_within⟩ (sx_within hy hr hI a v332 v333   ) (Nat.le_of_ble_eq_true rfl) ?_
  intro r Ia Ja Ra hq
  obtain ⟨⟨ea, eb, ec⟩, v334, rfl, av334, bv334, cv334⟩ := hq
  show WP _ _ _ _ (.int _ :: _) _ _ _ _
  rw [ea, eb, ec]
  clear ea eb ec Ia Ja Ra
  refine WQ_if_eq 23 dX10_isHeld_7 rfl (fun c334 => ?_) (fun c334 => ?_)
  · refine WQ_iconst (0) (0) dX10_isHeld_23 rfl rfl (fun v336 hv336 => ?_)
    exact WP_zret dX10_isHeld_24 rfl (nar_z (by omega)) ⟨⟨rfl, rfl, rfl⟩, _, rfl, by omega, by omega, by omega⟩
  · refine WP_iload_n dX10_isHeld_10 rfl ?_
    refine WQ_iconst (0) (0) dX10_isHeld_11 rfl rfl (fun v337 hv337 => ?_)
    refine WQ_iconst (5) (5) dX10_isHeld_12 rfl rfl (fun v338 hv338 => ?_)
    refine WP_callS3 dX10_isHeld_13 ⟨⟨⟨by decide, by decide⟩, zX10_within⟩, lX10_206, tX10_within⟩ (sx_within hy hr hI b v337 v338   ) (Nat.le_of_ble_eq_true rfl) ?_
    intro r Ia Ja Ra hq
    obtain ⟨⟨ea, eb, ec⟩, v339, rfl, av339, bv339, cv339⟩ := hq
    show WP _ _ _ _ (.int _ :: _) _ _ _ _
    rw [ea, eb, ec]
    clear ea eb ec Ia Ja Ra
    refine WQ_if_eq 23 dX10_isHeld_16 rfl (fun c339 => ?_) (fun c339 => ?_)
    · refine WQ_iconst (0) (0) dX10_isHeld_23 rfl rfl (fun v341 hv341 => ?_)
      exact WP_zret dX10_isHeld_24 rfl (nar_z (by omega)) ⟨⟨rfl, rfl, rfl⟩, _, rfl, by omega, by omega, by omega⟩
    · refine WQ_iconst (1) (1) dX10_isHeld_19 rfl rfl (fun v342 hv342 => ?_)
      refine WP_goto 24 dX10_isHeld_20 rfl ?_
      exact WP_zret dX10_isHeld_24 rfl (nar_z (by omega)) ⟨⟨rfl, rfl, rfl⟩, _, rfl, by omega, by omega, by omega⟩
set_option maxHeartbeats 4000000 in
set_option maxRecDepth 100000 in
theorem sx_isWay {g : GG} {n : Int} {L : Int32} (hy : LyX g)  {I : pI} {J : pJ} {R : pR} (hr : RfX g R) (hI : XI g n L I) (a : Int32)  : SP g mX10_isWay [.int a] I J R (fun r I' J' R' => (I' = I ∧ J' = J ∧ R' = R) ∧ ∃ v : Int32, r = some (.int v) ∧ 0 ≤ v.toInt ∧ v.toInt ≤ 1 ∧ (v.toInt = 1 ↔ 0 ≤ a.toInt ∧ a.toInt ≤ 4)) := by
  refine SP_of ⟨by decide, rfl⟩ (Nat.le_of_ble_eq_true rfl) ?_
  have e343 : I (ad g 1) 1 = L := hI.2
  have b344 := BT_get hI.1 1 1 2 (0) (0) (900) (by decide) 1 (by decide) (by decide)
  rw [e343] at b344
  refine WP_iload_n dX10_isWay_0 rfl ?_
  refine WQ_iconst (0) (0) dX10_isWay_1 rfl rfl (fun v345 hv345 => ?_)
  refine WQ_iconst (4) (4) dX10_isWay_2 rfl rfl (fun v346 hv346 => ?_)
  refine WP_callS3 dX10_isWay_3 ⟨⟨⟨by decide, by decide⟩, zX10_within⟩, lX10_206, tX10_within⟩ (sx_within hy hr hI a v345 v346   ) (Nat.le_of_ble_eq_true rfl) ?_
  intro r Ia Ja Ra hq
  obtain ⟨⟨ea, eb, ec⟩, v347, rfl, av347, bv347, cv347⟩ := hq
  show WP _ _ _ _ (.int _ :: _) _ _ _ _
  rw [ea, eb, ec]
  clear ea eb ec Ia Ja Ra
  exact WP_zret dX10_isWay_6 rfl (nar_z (by omega)) ⟨⟨rfl, rfl, rfl⟩, _, rfl, by omega, by omega, by omega⟩
set_option maxHeartbeats 4000000 in
set_option maxRecDepth 100000 in
theorem sx_isWeeks {g : GG} {n : Int} {L : Int32} (hy : LyX g)  {I : pI} {J : pJ} {R : pR} (hr : RfX g R) (hI : XI g n L I) (a : Int32)  : SP g mX10_isWeeks [.int a] I J R (fun r I' J' R' => (I' = I ∧ J' = J ∧ R' = R) ∧ ∃ v : Int32, r = some (.int v) ∧ 0 ≤ v.toInt ∧ v.toInt ≤ 1 ∧ (v.toInt = 1 ↔ 1 ≤ a.toInt ∧ a.toInt ≤ 4)) := by
  refine SP_of ⟨by decide, rfl⟩ (Nat.le_of_ble_eq_true rfl) ?_
  have e348 : I (ad g 1) 1 = L := hI.2
  have b349 := BT_get hI.1 1 1 2 (0) (0) (900) (by decide) 1 (by decide) (by decide)
  rw [e348] at b349
  refine WP_iload_n dX10_isWeeks_0 rfl ?_
  refine WQ_iconst (1) (1) dX10_isWeeks_1 rfl rfl (fun v350 hv350 => ?_)
  refine WQ_iconst (4) (4) dX10_isWeeks_2 rfl rfl (fun v351 hv351 => ?_)
  refine WP_callS3 dX10_isWeeks_3 ⟨⟨⟨by decide, by decide⟩, zX10_within⟩, lX10_206, tX10_within⟩ (sx_within hy hr hI a v350 v351   ) (Nat.le_of_ble_eq_true rfl) ?_
  intro r Ia Ja Ra hq
  obtain ⟨⟨ea, eb, ec⟩, v352, rfl, av352, bv352, cv352⟩ := hq
  show WP _ _ _ _ (.int _ :: _) _ _ _ _
  rw [ea, eb, ec]
  clear ea eb ec Ia Ja Ra
  exact WP_zret dX10_isWeeks_6 rfl (nar_z (by omega)) ⟨⟨rfl, rfl, rfl⟩, _, rfl, by omega, by omega, by omega⟩
set_option maxHeartbeats 4000000 in
set_option maxRecDepth 100000 in
theorem sx_isMeeting {g : GG} {n : Int} {L : Int32} (hy : LyX g)  {I : pI} {J : pJ} {R : pR} (hr : RfX g R) (hI : XI g n L I) (a : Int32) (b : Int32) (c : Int32)  : SP g mX10_isMeeting [.int a, .int b, .int c] I J R (fun r I' J' R' => (I' = I ∧ J' = J ∧ R' = R) ∧ ∃ v : Int32, r = some (.int v) ∧ 0 ≤ v.toInt ∧ v.toInt ≤ 1 ∧ (v.toInt = 1 ↔ (0 ≤ a.toInt ∧ a.toInt ≤ 100) ∧ (0 ≤ b.toInt ∧ b.toInt ≤ 900) ∧ (0 ≤ c.toInt ∧ c.toInt ≤ 40))) := by
  refine SP_of ⟨by decide, rfl⟩ (Nat.le_of_ble_eq_true rfl) ?_
  have e353 : I (ad g 1) 1 = L := hI.2
  have b354 := BT_get hI.1 1 1 2 (0) (0) (900) (by decide) 1 (by decide) (by decide)
  rw [e353] at b354
  refine WP_iload_n dX10_isMeeting_0 rfl ?_
  refine WQ_iconst (0) (0) dX10_isMeeting_1 rfl rfl (fun v355 hv355 => ?_)
  refine WQ_bipush (100) (100) dX10_isMeeting_2 rfl rfl (fun v356 hv356 => ?_)
  refine WP_callS3 dX10_isMeeting_4 ⟨⟨⟨by decide, by decide⟩, zX10_within⟩, lX10_206, tX10_within⟩ (sx_within hy hr hI a v355 v356   ) (Nat.le_of_ble_eq_true rfl) ?_
  intro r Ia Ja Ra hq
  obtain ⟨⟨ea, eb, ec⟩, v357, rfl, av357, bv357, cv357⟩ := hq
  show WP _ _ _ _ (.int _ :: _) _ _ _ _
  rw [ea, eb, ec]
  clear ea eb ec Ia Ja Ra
  refine WQ_if_eq 35 dX10_isMeeting_7 rfl (fun c357 => ?_) (fun c357 => ?_)
  · refine WQ_iconst (0) (0) dX10_isMeeting_35 rfl rfl (fun v359 hv359 => ?_)
    exact WP_zret dX10_isMeeting_36 rfl (nar_z (by omega)) ⟨⟨rfl, rfl, rfl⟩, _, rfl, by omega, by omega, by omega⟩
  · refine WP_iload_n dX10_isMeeting_10 rfl ?_
    refine WQ_iconst (0) (0) dX10_isMeeting_11 rfl rfl (fun v360 hv360 => ?_)
    refine WQ_sipush (900) (900) dX10_isMeeting_12 rfl rfl (fun v361 hv361 => ?_)
    refine WP_callS3 dX10_isMeeting_15 ⟨⟨⟨by decide, by decide⟩, zX10_within⟩, lX10_206, tX10_within⟩ (sx_within hy hr hI b v360 v361   ) (Nat.le_of_ble_eq_true rfl) ?_
    intro r Ia Ja Ra hq
    obtain ⟨⟨ea, eb, ec⟩, v362, rfl, av362, bv362, cv362⟩ := hq
    show WP _ _ _ _ (.int _ :: _) _ _ _ _
    rw [ea, eb, ec]
    clear ea eb ec Ia Ja Ra
    refine WQ_if_eq 35 dX10_isMeeting_18 rfl (fun c362 => ?_) (fun c362 => ?_)
    · refine WQ_iconst (0) (0) dX10_isMeeting_35 rfl rfl (fun v364 hv364 => ?_)
      exact WP_zret dX10_isMeeting_36 rfl (nar_z (by omega)) ⟨⟨rfl, rfl, rfl⟩, _, rfl, by omega, by omega, by omega⟩
    · refine WP_iload_n dX10_isMeeting_21 rfl ?_
      refine WQ_iconst (0) (0) dX10_isMeeting_22 rfl rfl (fun v365 hv365 => ?_)
      refine WQ_bipush (40) (40) dX10_isMeeting_23 rfl rfl (fun v366 hv366 => ?_)
      refine WP_callS3 dX10_isMeeting_25 ⟨⟨⟨by decide, by decide⟩, zX10_within⟩, lX10_206, tX10_within⟩ (sx_within hy hr hI c v365 v366   ) (Nat.le_of_ble_eq_true rfl) ?_
      intro r Ia Ja Ra hq
      obtain ⟨⟨ea, eb, ec⟩, v367, rfl, av367, bv367, cv367⟩ := hq
      show WP _ _ _ _ (.int _ :: _) _ _ _ _
      rw [ea, eb, ec]
      clear ea eb ec Ia Ja Ra
      refine WQ_if_eq 35 dX10_isMeeting_28 rfl (fun c367 => ?_) (fun c367 => ?_)
      · refine WQ_iconst (0) (0) dX10_isMeeting_35 rfl rfl (fun v369 hv369 => ?_)
        exact WP_zret dX10_isMeeting_36 rfl (nar_z (by omega)) ⟨⟨rfl, rfl, rfl⟩, _, rfl, by omega, by omega, by omega⟩
      · refine WQ_iconst (1) (1) dX10_isMeeting_31 rfl rfl (fun v370 hv370 => ?_)
        refine WP_goto 36 dX10_isMeeting_32 rfl ?_
        exact WP_zret dX10_isMeeting_36 rfl (nar_z (by omega)) ⟨⟨rfl, rfl, rfl⟩, _, rfl, by omega, by omega, by omega⟩
set_option maxHeartbeats 4000000 in
set_option maxRecDepth 100000 in
theorem sx_stampAll {g : GG} {n : Int} {L : Int32} (hy : LyX g)  {I : pI} {J : pJ} {R : pR} (hr : RfX g R) (hI : XI g n L I)   : SP g mX0_stampAll [.ref (ad g 5)] I J R (fun r I' J' R' => (XI g n L I' ∧ R' = R) ∧ r = none) := by
  refine SP_of ⟨by decide, rfl⟩ (Nat.le_of_ble_eq_true rfl) ?_
  have e371 : I (ad g 1) 1 = L := hI.2
  have b372 := BT_get hI.1 1 1 2 (0) (0) (900) (by decide) 1 (by decide) (by decide)
  rw [e371] at b372
  refine WQ_iconst (0) (0) dX0_stampAll_0 rfl rfl (fun v373 hv373 => ?_)
  refine WP_istore_n (ls' := [(0, _), (1, _)]) dX0_stampAll_1 (by decide) rfl ?_
  have lp2_376 : ∀ (mz : Nat) (i374 : Int32) (I375 : pI) (J376 : pJ), XI g n L I375 → 0 ≤ i374.toInt → i374.toInt ≤ 7 → (8 - i374.toInt).toNat < mz → WP g mX0_stampAll 2 [(0, .ref (ad g 5)), (1, .int i374)] [] I375 J376 R (fun r I' J' R' => (XI g n L I' ∧ R' = R) ∧ r = none) := by
    intro mz
    induction mz with
    | zero =>
      intro i374 I375 J376 hI375 ai374 bi374 hmlp2_376
      exact absurd hmlp2_376 (Nat.not_lt_zero _)
    | succ mz ihlp2_376 =>
      intro i374 I375 J376 hI375 ai374 bi374 hmlp2_376
      have e378 : I375 (ad g 1) 1 = L := hI375.2
      have b379 := BT_get hI375.1 1 1 2 (0) (0) (900) (by decide) 1 (by decide) (by decide)
      rw [e378] at b379
      refine WP_iload_n dX0_stampAll_2 rfl ?_
      refine WQ_bipush (7) (7) dX0_stampAll_3 rfl rfl (fun v380 hv380 => ?_)
      refine WQ_icmp_ge 51 dX0_stampAll_5 rfl (fun c380 => ?_) (fun c380 => ?_)
      · exact WP_vret dX0_stampAll_51 rfl ⟨⟨hI375, rfl⟩, rfl⟩
      · refine WQ_iconst (0) (0) dX0_stampAll_8 rfl rfl (fun v382 hv382 => ?_)
        refine WP_istore_n (ls' := [(0, _), (1, _), (2, _)]) dX0_stampAll_9 (by decide) rfl ?_
        have lp10_385 : ∀ (mz : Nat) (i383 : Int32) (I384 : pI) (J385 : pJ), XI g n L I384 → 0 ≤ i383.toInt → i383.toInt ≤ 61 → (62 - i383.toInt).toNat < mz → WP g mX0_stampAll 10 [(0, .ref (ad g 5)), (1, .int i374), (2, .int i383)] [] I384 J385 R (fun r I' J' R' => (XI g n L I' ∧ R' = R) ∧ r = none) := by
          intro mz
          induction mz with
          | zero =>
            intro i383 I384 J385 hI384 ai383 bi383 hmlp10_385
            exact absurd hmlp10_385 (Nat.not_lt_zero _)
          | succ mz ihlp10_385 =>
            intro i383 I384 J385 hI384 ai383 bi383 hmlp10_385
            have e387 : I384 (ad g 1) 1 = L := hI384.2
            have b388 := BT_get hI384.1 1 1 2 (0) (0) (900) (by decide) 1 (by decide) (by decide)
            rw [e387] at b388
            refine WP_iload_n dX0_stampAll_10 rfl ?_
            refine WQ_bipush (61) (61) dX0_stampAll_11 rfl rfl (fun v389 hv389 => ?_)
            refine WQ_icmp_ge 45 dX0_stampAll_13 rfl (fun c389 => ?_) (fun c389 => ?_)
            · refine WP_iinc (ls' := [(0, _), (1, _), (2, _)]) dX0_stampAll_45 rfl (by decide) rfl ?_
              have hv391 : (i374 + Int32.ofInt (1)).toInt = i374.toInt + (1) := ia_n rfl (by omega) (by omega)
              generalize i374 + Int32.ofInt (1) = v391 at hv391 ⊢
              refine WP_goto 2 dX0_stampAll_48 rfl ?_
              exact WP_sub (fc rfl (fc rfl fn)) (ihlp2_376 v391 I384 J385 hI384 (by omega) (by omega) (by omega))
            · refine WP_aload_n dX0_stampAll_16 rfl ?_
              refine WP_getr dX0_stampAll_17 fX0_18 rfl (lyx_is hy 5 0 rfl) (rfx hr 5 3 24 (by decide)) ?_
              refine WP_iload_n dX0_stampAll_20 rfl ?_
              refine WQ_bipush (61) (61) dX0_stampAll_21 rfl rfl (fun v392 hv392 => ?_)
              refine WQ_imulk (61) dX0_stampAll_23 hv392 (by omega) (by omega) (fun v393 hv393 => ?_)
              refine WP_iload_n dX0_stampAll_24 rfl ?_
              refine WQ_iadd dX0_stampAll_25 (by omega) (by omega) (fun v394 hv394 => ?_)
              refine WP_iload_n dX0_stampAll_26 rfl ?_
              refine WP_iload_n dX0_stampAll_27 rfl ?_
              refine WP_aload_n dX0_stampAll_28 rfl ?_
              refine WP_getr dX0_stampAll_29 fX0_15 rfl (lyx_is hy 5 0 rfl) (rfx hr 5 2 23 (by decide)) ?_
              refine WP_iload_n dX0_stampAll_32 rfl ?_
              refine WQ_iald dX0_stampAll_33 (lyx_is hy 23 13 rfl) (lyx_n hy 23 7 rfl) (by omega) (by omega) (fun q hq => BT_get hI384.1 23 0 7 (0) (0) (900) (by decide) q (Nat.zero_le _) hq) (fun v395 av395 bv395 ev395 => ?_)
              clear ev395
              refine WP_callN2 dX0_stampAll_34 ⟨⟨⟨by decide, by decide⟩, zX10_stampsOf⟩, lX0_60, tX10_stampsOf⟩ (sx_stampsOf hy hr hI384 i383 v395 (by omega) (by omega) (by omega) (by omega)) (Nat.le_of_ble_eq_true rfl) ?_
              intro r Ia Ja Ra hq
              obtain ⟨⟨ea, eb, ec⟩, v396, rfl, av396, bv396, cv396⟩ := hq
              show WP _ _ _ _ (.int _ :: _) _ _ _ _
              rw [ea, eb, ec]
              clear ea eb ec Ia Ja Ra
              refine WQ_isub dX0_stampAll_37 (by omega) (by omega) (fun v397 hv397 => ?_)
              refine WQ_iast dX0_stampAll_38 (lyx_is hy 24 13 rfl) (lyx_n hy 24 427 rfl) (by omega) (by omega) (fun I398 eI398 => ?_)
              have hI398 : XI g n L I398 := by rw [eI398]; exact (xi_r hy hI384 (c := 24) (0) (0) (60) (by decide) (Or.inl (by decide)) (by decide) (by omega) (by omega))
              have e399 : I398 (ad g 1) 1 = L := by rw [eI398, pp_ne _ _ (Or.inl (lyx_ne hy (by decide) (by decide) (by decide)))]; exact e387
              clear eI398
              refine WP_iinc (ls' := [(0, _), (1, _), (2, _)]) dX0_stampAll_39 rfl (by decide) rfl ?_
              have hv400 : (i383 + Int32.ofInt (1)).toInt = i383.toInt + (1) := ia_n rfl (by omega) (by omega)
              generalize i383 + Int32.ofInt (1) = v400 at hv400 ⊢
              refine WP_goto 10 dX0_stampAll_42 rfl ?_
              exact WP_sub (fc rfl (fc rfl (fc rfl fn))) (ihlp10_385 v400 I398 J385 hI398 (by omega) (by omega) (by omega))
        exact WP_sub (fc rfl (fc rfl (fc rfl fn))) (lp10_385 _ v382 I375 J376 hI375 (by omega) (by omega) (Nat.lt_succ_self _))
  exact WP_sub (fc rfl (fc rfl fn)) (lp2_376 _ v373 I J hI (by omega) (by omega) (Nat.lt_succ_self _))
set_option maxHeartbeats 4000000 in
set_option maxRecDepth 100000 in
theorem sx_coinsBehind {g : GG} {n : Int} {L : Int32} (hy : LyX g)  {I : pI} {J : pJ} {R : pR} (hr : RfX g R) (hI : XI g n L I) (co : Int32) (st : Int32) (da : Int32) (co_lo : 0 ≤ co.toInt) (co_hi : co.toInt ≤ 60) (st_lo : 0 ≤ st.toInt) (st_hi : st.toInt ≤ 5) (da_lo : 0 ≤ da.toInt) (da_hi : da.toInt ≤ 6) : SP g mX0_coinsBehind [.ref (ad g 5), .int co, .int st, .int da] I J R (fun r I' J' R' => (I' = I ∧ J' = J ∧ R' = R) ∧ ∃ v : Int32, r = some (.int v) ∧ 0 ≤ v.toInt ∧ v.toInt ≤ 60) := by
  refine SP_of ⟨by decide, rfl⟩ (Nat.le_of_ble_eq_true rfl) ?_
  have e401 : I (ad g 1) 1 = L := hI.2
  have b402 := BT_get hI.1 1 1 2 (0) (0) (900) (by decide) 1 (by decide) (by decide)
  rw [e401] at b402
  refine WP_aload_n dX0_coinsBehind_0 rfl ?_
  refine WP_getr dX0_coinsBehind_1 fX0_18 rfl (lyx_is hy 5 0 rfl) (rfx hr 5 3 24 (by decide)) ?_
  refine WP_iload_n dX0_coinsBehind_4 rfl ?_
  refine WQ_bipush (61) (61) dX0_coinsBehind_5 rfl rfl (fun v403 hv403 => ?_)
  refine WQ_imulk (61) dX0_coinsBehind_7 hv403 (by omega) (by omega) (fun v404 hv404 => ?_)
  refine WP_iload_n dX0_coinsBehind_8 rfl ?_
  refine WQ_iadd dX0_coinsBehind_9 (by omega) (by omega) (fun v405 hv405 => ?_)
  refine WQ_iald dX0_coinsBehind_10 (lyx_is hy 24 13 rfl) (lyx_n hy 24 427 rfl) (by omega) (by omega) (fun q hq => BT_get hI.1 24 0 427 (0) (0) (60) (by decide) q (Nat.zero_le _) hq) (fun v406 av406 bv406 ev406 => ?_)
  clear ev406
  refine WP_aload_n dX0_coinsBehind_11 rfl ?_
  refine WP_getr dX0_coinsBehind_12 fX0_21 rfl (lyx_is hy 5 0 rfl) (rfx hr 5 4 25 (by decide)) ?_
  refine WP_iload_n dX0_coinsBehind_15 rfl ?_
  refine WQ_iald dX0_coinsBehind_16 (lyx_is hy 25 13 rfl) (lyx_n hy 25 6 rfl) (by omega) (by omega) (fun q hq => BT_get hI.1 25 0 6 (0) (0) (45) (by decide) q (Nat.zero_le _) hq) (fun v407 av407 bv407 ev407 => ?_)
  clear ev407
  refine WQ_isub dX0_coinsBehind_17 (by omega) (by omega) (fun v408 hv408 => ?_)
  refine WP_istore (ls' := [(0, _), (1, _), (2, _), (3, _), (4, _)]) dX0_coinsBehind_18 (by decide) rfl ?_
  refine WP_iload dX0_coinsBehind_20 rfl ?_
  have jn31_410 : ∀ (v410 : Int32), 0 ≤ v410.toInt → v410.toInt ≤ 60 → WP g mX0_coinsBehind 31 [(0, .ref (ad g 5)), (1, .int co), (2, .int st), (3, .int da), (4, .int v408)] [.int v410] I J R (fun r I' J' R' => (I' = I ∧ J' = J ∧ R' = R) ∧ ∃ v : Int32, r = some (.int v) ∧ 0 ≤ v.toInt ∧ v.toInt ≤ 60) := by
    intro v410 av410 bv410
    exact WP_iret dX0_coinsBehind_31 rfl ⟨⟨rfl, rfl, rfl⟩, _, rfl, by omega, by omega⟩
  refine WQ_if_ge 29 dX0_coinsBehind_22 rfl (fun c411 => ?_) (fun c411 => ?_)
  · refine WP_iload dX0_coinsBehind_29 rfl ?_
    exact WP_sub (fc rfl (fc rfl (fc rfl (fc rfl (fc rfl fn))))) (jn31_410 v408 (by omega) (by omega))
  · refine WQ_iconst (0) (0) dX0_coinsBehind_25 rfl rfl (fun v413 hv413 => ?_)
    refine WP_goto 31 dX0_coinsBehind_26 rfl ?_
    exact WP_sub (fc rfl (fc rfl (fc rfl (fc rfl (fc rfl fn))))) (jn31_410 v413 (by omega) (by omega))
set_option maxHeartbeats 4000000 in
set_option maxRecDepth 100000 in
theorem sx_heldForWeek {g : GG} {n : Int} {L : Int32} (hy : LyX g)  {I : pI} {J : pJ} {R : pR} (hr : RfX g R) (hI : XI g n L I) (no : Int32) (no_lo : 0 ≤ no.toInt) (no_hi : no.toInt ≤ 999) : SP g mX0_heldForWeek [.ref (ad g 5), .int no] I J R (fun r I' J' R' => (I' = I ∧ J' = J ∧ R' = R) ∧ ∃ v : Int32, r = some (.int v) ∧ 0 ≤ v.toInt ∧ v.toInt ≤ 999) := by
  refine SP_of ⟨by decide, rfl⟩ (Nat.le_of_ble_eq_true rfl) ?_
  have e414 : I (ad g 1) 1 = L := hI.2
  have b415 := BT_get hI.1 1 1 2 (0) (0) (900) (by decide) 1 (by decide) (by decide)
  rw [e414] at b415
  refine WP_iload_n dX0_heldForWeek_0 rfl ?_
  refine WP_istore_n (ls' := [(0, _), (1, _), (2, _)]) dX0_heldForWeek_1 (by decide) rfl ?_
  refine WQ_iconst (0) (0) dX0_heldForWeek_2 rfl rfl (fun v416 hv416 => ?_)
  refine WP_istore_n (ls' := [(0, _), (1, _), (2, _), (3, _)]) dX0_heldForWeek_3 (by decide) rfl ?_
  have lp4_418 : ∀ (mz : Nat) (i417 : Int32) (i418 : Int32), 0 ≤ i417.toInt → i417.toInt ≤ 999 → 0 ≤ i418.toInt → i418.toInt ≤ 7 → (8 - i418.toInt).toNat < mz → WP g mX0_heldForWeek 4 [(0, .ref (ad g 5)), (1, .int no), (2, .int i417), (3, .int i418)] [] I J R (fun r I' J' R' => (I' = I ∧ J' = J ∧ R' = R) ∧ ∃ v : Int32, r = some (.int v) ∧ 0 ≤ v.toInt ∧ v.toInt ≤ 999) := by
    intro mz
    induction mz with
    | zero =>
      intro i417 i418 ai417 bi417 ai418 bi418 hmlp4_418
      exact absurd hmlp4_418 (Nat.not_lt_zero _)
    | succ mz ihlp4_418 =>
      intro i417 i418 ai417 bi417 ai418 bi418 hmlp4_418
      refine WP_iload_n dX0_heldForWeek_4 rfl ?_
      refine WQ_bipush (7) (7) dX0_heldForWeek_5 rfl rfl (fun v420 hv420 => ?_)
      refine WQ_icmp_ge 29 dX0_heldForWeek_7 rfl (fun c420 => ?_) (fun c420 => ?_)
      · refine WP_iload_n dX0_heldForWeek_29 rfl ?_
        exact WP_iret dX0_heldForWeek_30 rfl ⟨⟨rfl, rfl, rfl⟩, _, rfl, by omega, by omega⟩
      · refine WP_iload_n dX0_heldForWeek_10 rfl ?_
        refine WP_iload_n dX0_heldForWeek_11 rfl ?_
        refine WP_aload_n dX0_heldForWeek_12 rfl ?_
        refine WP_getr dX0_heldForWeek_13 fX0_15 rfl (lyx_is hy 5 0 rfl) (rfx hr 5 2 23 (by decide)) ?_
        refine WP_iload_n dX0_heldForWeek_16 rfl ?_
        refine WQ_iald dX0_heldForWeek_17 (lyx_is hy 23 13 rfl) (lyx_n hy 23 7 rfl) (by omega) (by omega) (fun q hq => BT_get hI.1 23 0 7 (0) (0) (900) (by decide) q (Nat.zero_le _) hq) (fun v422 av422 bv422 ev422 => ?_)
        clear ev422
        refine WP_callN2 dX0_heldForWeek_18 ⟨⟨⟨by decide, by decide⟩, zX10_stampsOf⟩, lX0_60, tX10_stampsOf⟩ (sx_stampsOf hy hr hI i417 v422 (by omega) (by omega) (by omega) (by omega)) (Nat.le_of_ble_eq_true rfl) ?_
        intro r Ia Ja Ra hq
        obtain ⟨⟨ea, eb, ec⟩, v423, rfl, av423, bv423, cv423⟩ := hq
        show WP _ _ _ _ (.int _ :: _) _ _ _ _
        rw [ea, eb, ec]
        clear ea eb ec Ia Ja Ra
        refine WQ_isub dX0_heldForWeek_21 (by omega) (by omega) (fun v424 hv424 => ?_)
        refine WP_istore_n (ls' := [(0, _), (1, _), (2, _), (3, _)]) dX0_heldForWeek_22 (by decide) rfl ?_
        refine WP_iinc (ls' := [(0, _), (1, _), (2, _), (3, _)]) dX0_heldForWeek_23 rfl (by decide) rfl ?_
        have hv425 : (i418 + Int32.ofInt (1)).toInt = i418.toInt + (1) := ia_n rfl (by omega) (by omega)
        generalize i418 + Int32.ofInt (1) = v425 at hv425 ⊢
        refine WP_goto 4 dX0_heldForWeek_26 rfl ?_
        exact WP_sub (fc rfl (fc rfl (fc rfl (fc rfl fn)))) (ihlp4_418 v424 v425 (by omega) (by omega) (by omega) (by omega) (by omega))
  exact WP_sub (fc rfl (fc rfl (fc rfl (fc rfl fn)))) (lp4_418 _ no v416 (by omega) (by omega) (by omega) (by omega) (Nat.lt_succ_self _))
set_option maxHeartbeats 4000000 in
set_option maxRecDepth 100000 in
theorem sx_neededAhead {g : GG} {n : Int} {L : Int32} (hy : LyX g)  {I : pI} {J : pJ} {R : pR} (hr : RfX g R) (hI : XI g n L I) (be : Int32) (da : Int32) (be_lo : 0 ≤ be.toInt) (be_hi : be.toInt ≤ 999) (da_lo : 0 ≤ da.toInt) (da_hi : da.toInt ≤ 6) : SP g mX0_neededAhead [.ref (ad g 5), .int be, .int da] I J R (fun r I' J' R' => (I' = I ∧ J' = J ∧ R' = R) ∧ ∃ v : Int32, r = some (.int v) ∧ 0 ≤ v.toInt ∧ v.toInt ≤ 1000000) := by
  refine SP_of ⟨by decide, rfl⟩ (Nat.le_of_ble_eq_true rfl) ?_
  have e426 : I (ad g 1) 1 = L := hI.2
  have b427 := BT_get hI.1 1 1 2 (0) (0) (900) (by decide) 1 (by decide) (by decide)
  rw [e426] at b427
  refine WQ_sipush (1000) (1000) dX0_neededAhead_0 rfl rfl (fun v428 hv428 => ?_)
  refine WP_aload_n dX0_neededAhead_3 rfl ?_
  refine WP_getr dX0_neededAhead_4 fX0_15 rfl (lyx_is hy 5 0 rfl) (rfx hr 5 2 23 (by decide)) ?_
  refine WP_iload_n dX0_neededAhead_7 rfl ?_
  refine WQ_iald dX0_neededAhead_8 (lyx_is hy 23 13 rfl) (lyx_n hy 23 7 rfl) (by omega) (by omega) (fun q hq => BT_get hI.1 23 0 7 (0) (0) (900) (by decide) q (Nat.zero_le _) hq) (fun v429 av429 bv429 ev429 => ?_)
  clear ev429
  refine WQ_isub dX0_neededAhead_9 (by omega) (by omega) (fun v430 hv430 => ?_)
  refine WP_istore_n (ls' := [(0, _), (1, _), (2, _), (3, _)]) dX0_neededAhead_10 (by decide) rfl ?_
  refine WP_iload_n dX0_neededAhead_11 rfl ?_
  refine WQ_iconst (1) (1) dX0_neededAhead_12 rfl rfl (fun v431 hv431 => ?_)
  have jn32_438 : ∀ (v438 : Int32), 0 ≤ v438.toInt → v438.toInt ≤ 999999 → WP g mX0_neededAhead 32 [(0, .ref (ad g 5)), (1, .int be), (2, .int da), (3, .int v430)] [.int v438] I J R (fun r I' J' R' => (I' = I ∧ J' = J ∧ R' = R) ∧ ∃ v : Int32, r = some (.int v) ∧ 0 ≤ v.toInt ∧ v.toInt ≤ 1000000) := by
    intro v438 av438 bv438
    exact WP_iret dX0_neededAhead_32 rfl ⟨⟨rfl, rfl, rfl⟩, _, rfl, by omega, by omega⟩
  refine WQ_icmp_ge 21 dX0_neededAhead_13 rfl (fun c439 => ?_) (fun c439 => False.elim (by omega))
  refine WP_iload_n dX0_neededAhead_21 rfl ?_
  refine WQ_sipush (1000) (1000) dX0_neededAhead_22 rfl rfl (fun v441 hv441 => ?_)
  refine WQ_imulk (1000) dX0_neededAhead_25 hv441 (by omega) (by omega) (fun v442 hv442 => ?_)
  refine WP_iload_n dX0_neededAhead_26 rfl ?_
  refine WQ_iadd dX0_neededAhead_27 (by omega) (by omega) (fun v443 hv443 => ?_)
  refine WQ_iconst (1) (1) dX0_neededAhead_28 rfl rfl (fun v444 hv444 => ?_)
  refine WQ_isub dX0_neededAhead_29 (by omega) (by omega) (fun v445 hv445 => ?_)
  refine WP_iload_n dX0_neededAhead_30 rfl ?_
  refine WQ_idivb dX0_neededAhead_31 (by omega) (by omega) (fun v446 pv446 av446 bv446 cv446 => ?_)
  exact WP_sub (fc rfl (fc rfl (fc rfl (fc rfl fn)))) (jn32_438 v446 (by omega) (by omega))
set_option maxHeartbeats 4000000 in
set_option maxRecDepth 100000 in
theorem sx_pricesAsTold_6 {g : GG} {n : Int} {L : Int32} (hy : LyX g)  {I : pI} {J : pJ} {R : pR} (hr : RfX g R) (hT : R (ad g 5) 0 = some (ad g 6)) (hI : XI g n L I)   : SP g mX0_pricesAsTold [.ref (ad g 5)] I J R (fun r I' J' R' => (XI g n L I' ∧ R' = R) ∧ r = none) := by
  refine SP_of ⟨by decide, rfl⟩ (Nat.le_of_ble_eq_true rfl) ?_
  have e447 : I (ad g 1) 1 = L := hI.2
  have b448 := BT_get hI.1 1 1 2 (0) (0) (900) (by decide) 1 (by decide) (by decide)
  rw [e447] at b448
  refine WP_aload_n dX0_pricesAsTold_0 rfl ?_
  refine WP_getr dX0_pricesAsTold_1 fX0_27 rfl (lyx_is hy 5 0 rfl) hT ?_
  refine WP_getr dX0_pricesAsTold_4 fX0_49 rfl (lyx_is hy 6 7 rfl) (rfx hr 6 16 18 (by decide)) ?_
  refine WQ_iconst (0) (0) dX0_pricesAsTold_7 rfl rfl (fun v449 hv449 => ?_)
  refine WP_aload_n dX0_pricesAsTold_8 rfl ?_
  refine WP_getr dX0_pricesAsTold_9 fX0_9 rfl (lyx_is hy 5 0 rfl) (rfx hr 5 1 22 (by decide)) ?_
  refine WQ_iconst (0) (0) dX0_pricesAsTold_12 rfl rfl (fun v450 hv450 => ?_)
  refine WP_aload_n dX0_pricesAsTold_13 rfl ?_
  refine WP_getr dX0_pricesAsTold_14 fX0_9 rfl (lyx_is hy 5 0 rfl) (rfx hr 5 1 22 (by decide)) ?_
  refine WP_alen dX0_pricesAsTold_17 (lyx_is hy 22 13 rfl) (by decide) ?_
  rw [(lyx_n hy 22 21 rfl)]
  obtain ⟨v451, hv451, ev451⟩ : ∃ v : Int32, v.toInt = 21 ∧ nI 21 = v := ⟨_, nI_toInt (by decide), rfl⟩
  rw [ev451]; clear ev451
  refine WQ_copy0 (N := 21) dX0_pricesAsTold_18 lX0_50 ⟨by decide, Nat.le_of_ble_eq_true rfl⟩ (lyx_is hy 18 13 rfl) (lyx_is hy 22 13 rfl) hv449 hv450 hv451 (lyx_n hy 18 21 rfl) (lyx_n hy 22 21 rfl) (fun I452 fI452 oI452 => ?_)
  have hI452 : XI g n L I452 := xi_copy hy hI 18 22 21 (by decide) (by decide) fI452 oI452
  clear fI452 oI452
  have e453 : I452 (ad g 1) 1 = L := hI452.2
  have b454 := BT_get hI452.1 1 1 2 (0) (0) (900) (by decide) 1 (by decide) (by decide)
  rw [e453] at b454
  exact WP_vret dX0_pricesAsTold_21 rfl ⟨⟨hI452, rfl⟩, rfl⟩
set_option maxHeartbeats 4000000 in
set_option maxRecDepth 100000 in
theorem sx_lossesAsTold_6 {g : GG} {n : Int} {L : Int32} (hy : LyX g)  {I : pI} {J : pJ} {R : pR} (hr : RfX g R) (hT : R (ad g 5) 0 = some (ad g 6)) (hI : XI g n L I)   : SP g mX0_lossesAsTold [.ref (ad g 5)] I J R (fun r I' J' R' => (XI g n L I' ∧ R' = R) ∧ r = none) := by
  refine SP_of ⟨by decide, rfl⟩ (Nat.le_of_ble_eq_true rfl) ?_
  have e455 : I (ad g 1) 1 = L := hI.2
  have b456 := BT_get hI.1 1 1 2 (0) (0) (900) (by decide) 1 (by decide) (by decide)
  rw [e455] at b456
  refine WP_aload_n dX0_lossesAsTold_0 rfl ?_
  refine WP_getr dX0_lossesAsTold_1 fX0_27 rfl (lyx_is hy 5 0 rfl) hT ?_
  refine WP_getr dX0_lossesAsTold_4 fX0_56 rfl (lyx_is hy 6 7 rfl) (rfx hr 6 5 7 (by decide)) ?_
  refine WQ_iconst (0) (0) dX0_lossesAsTold_7 rfl rfl (fun v457 hv457 => ?_)
  refine WP_aload_n dX0_lossesAsTold_8 rfl ?_
  refine WP_getr dX0_lossesAsTold_9 fX0_15 rfl (lyx_is hy 5 0 rfl) (rfx hr 5 2 23 (by decide)) ?_
  refine WQ_iconst (0) (0) dX0_lossesAsTold_12 rfl rfl (fun v458 hv458 => ?_)
  refine WQ_bipush (7) (7) dX0_lossesAsTold_13 rfl rfl (fun v459 hv459 => ?_)
  refine WQ_copy0 (N := 7) dX0_lossesAsTold_15 lX0_50 ⟨by decide, Nat.le_of_ble_eq_true rfl⟩ (lyx_is hy 7 13 rfl) (lyx_is hy 23 13 rfl) hv457 hv458 hv459 (lyx_n hy 7 7 rfl) (lyx_n hy 23 7 rfl) (fun I460 fI460 oI460 => ?_)
  have hI460 : XI g n L I460 := xi_copy hy hI 7 23 7 (by decide) (by decide) fI460 oI460
  clear fI460 oI460
  have e461 : I460 (ad g 1) 1 = L := hI460.2
  have b462 := BT_get hI460.1 1 1 2 (0) (0) (900) (by decide) 1 (by decide) (by decide)
  rw [e461] at b462
  refine WP_aload_n dX0_lossesAsTold_18 rfl ?_
  refine WP_callV0 (k := 0) dX0_lossesAsTold_19 ⟨⟨⟨by decide, by decide⟩, zX0_stampAll⟩, lX0_57, by decide, rfl, vX0_stampAll.1, vX0_stampAll.2⟩ (lyx_is hy 5 0 rfl) (sx_stampAll hy hr hI460  ) (Nat.le_of_ble_eq_true rfl) ?_
  intro r I463 J464 Ra hq
  obtain ⟨⟨hI463, ec⟩, rfl⟩ := hq
  rw [ec]
  clear ec Ra
  have e465 : I463 (ad g 1) 1 = L := hI463.2
  have b466 := BT_get hI463.1 1 1 2 (0) (0) (900) (by decide) 1 (by decide) (by decide)
  rw [e465] at b466
  exact WP_vret dX0_lossesAsTold_22 rfl ⟨⟨hI463, rfl⟩, rfl⟩
set_option maxHeartbeats 4000000 in
set_option maxRecDepth 100000 in
theorem sx_lossesAt_6 {g : GG} {n : Int} {L : Int32} (hy : LyX g)  {I : pI} {J : pJ} {R : pR} (hr : RfX g R) (hT : R (ad g 5) 0 = some (ad g 6)) (hI : XI g n L I) (lo : Int32) (lo_lo : 0 ≤ lo.toInt) (lo_hi : lo.toInt ≤ 900) : SP g mX0_lossesAt [.ref (ad g 5), .int lo] I J R (fun r I' J' R' => (XI g n L I' ∧ R' = R) ∧ r = none) := by
  refine SP_of ⟨by decide, rfl⟩ (Nat.le_of_ble_eq_true rfl) ?_
  have e467 : I (ad g 1) 1 = L := hI.2
  have b468 := BT_get hI.1 1 1 2 (0) (0) (900) (by decide) 1 (by decide) (by decide)
  rw [e467] at b468
  refine WQ_iconst (0) (0) dX0_lossesAt_0 rfl rfl (fun v469 hv469 => ?_)
  refine WP_istore_n (ls' := [(0, _), (1, _), (2, _)]) dX0_lossesAt_1 (by decide) rfl ?_
  have lp2_472 : ∀ (mz : Nat) (i470 : Int32) (I471 : pI) (J472 : pJ), XI g n L I471 → 0 ≤ i470.toInt → i470.toInt ≤ 7 → (8 - i470.toInt).toNat < mz → WP g mX0_lossesAt 2 [(0, .ref (ad g 5)), (1, .int lo), (2, .int i470)] [] I471 J472 R (fun r I' J' R' => (XI g n L I' ∧ R' = R) ∧ r = none) := by
    intro mz
    induction mz with
    | zero =>
      intro i470 I471 J472 hI471 ai470 bi470 hmlp2_472
      exact absurd hmlp2_472 (Nat.not_lt_zero _)
    | succ mz ihlp2_472 =>
      intro i470 I471 J472 hI471 ai470 bi470 hmlp2_472
      have e474 : I471 (ad g 1) 1 = L := hI471.2
      have b475 := BT_get hI471.1 1 1 2 (0) (0) (900) (by decide) 1 (by decide) (by decide)
      rw [e474] at b475
      refine WP_iload_n dX0_lossesAt_2 rfl ?_
      refine WQ_bipush (7) (7) dX0_lossesAt_3 rfl rfl (fun v476 hv476 => ?_)
      refine WQ_icmp_ge 37 dX0_lossesAt_5 rfl (fun c476 => ?_) (fun c476 => ?_)
      · refine WP_aload_n dX0_lossesAt_37 rfl ?_
        refine WP_callV0 (k := 0) dX0_lossesAt_38 ⟨⟨⟨by decide, by decide⟩, zX0_stampAll⟩, lX0_57, by decide, rfl, vX0_stampAll.1, vX0_stampAll.2⟩ (lyx_is hy 5 0 rfl) (sx_stampAll hy hr hI471  ) (Nat.le_of_ble_eq_true rfl) ?_
        intro r I478 J479 Ra hq
        obtain ⟨⟨hI478, ec⟩, rfl⟩ := hq
        rw [ec]
        clear ec Ra
        have e480 : I478 (ad g 1) 1 = L := hI478.2
        have b481 := BT_get hI478.1 1 1 2 (0) (0) (900) (by decide) 1 (by decide) (by decide)
        rw [e480] at b481
        exact WP_vret dX0_lossesAt_41 rfl ⟨⟨hI478, rfl⟩, rfl⟩
      · refine WP_aload_n dX0_lossesAt_8 rfl ?_
        refine WP_getr dX0_lossesAt_9 fX0_15 rfl (lyx_is hy 5 0 rfl) (rfx hr 5 2 23 (by decide)) ?_
        refine WP_iload_n dX0_lossesAt_12 rfl ?_
        refine WP_aload_n dX0_lossesAt_13 rfl ?_
        refine WP_getr dX0_lossesAt_14 fX0_27 rfl (lyx_is hy 5 0 rfl) hT ?_
        refine WP_getr dX0_lossesAt_17 fX0_56 rfl (lyx_is hy 6 7 rfl) (rfx hr 6 5 7 (by decide)) ?_
        refine WP_iload_n dX0_lossesAt_20 rfl ?_
        refine WQ_iald dX0_lossesAt_21 (lyx_is hy 7 13 rfl) (lyx_n hy 7 7 rfl) (by omega) (by omega) (fun q hq => BT_get hI471.1 7 0 7 (0) (0) (900) (by decide) q (Nat.zero_le _) hq) (fun v482 av482 bv482 ev482 => ?_)
        clear ev482
        have jn30_484 : ∀ (v484 : Int32), 0 ≤ v484.toInt → v484.toInt ≤ 900 → WP g mX0_lossesAt 30 [(0, .ref (ad g 5)), (1, .int lo), (2, .int i470)] [.int v484, .int i470, .ref (ad g 23)] I471 J472 R (fun r I' J' R' => (XI g n L I' ∧ R' = R) ∧ r = none) := by
          intro v484 av484 bv484
          refine WQ_iast dX0_lossesAt_30 (lyx_is hy 23 13 rfl) (lyx_n hy 23 7 rfl) (by omega) (by omega) (fun I486 eI486 => ?_)
          have hI486 : XI g n L I486 := by rw [eI486]; exact (xi_r hy hI471 (c := 23) (0) (0) (900) (by decide) (Or.inl (by decide)) (by decide) (by omega) (by omega))
          have e487 : I486 (ad g 1) 1 = L := by rw [eI486, pp_ne _ _ (Or.inl (lyx_ne hy (by decide) (by decide) (by decide)))]; exact e474
          clear eI486
          refine WP_iinc (ls' := [(0, _), (1, _), (2, _)]) dX0_lossesAt_31 rfl (by decide) rfl ?_
          have hv488 : (i470 + Int32.ofInt (1)).toInt = i470.toInt + (1) := ia_n rfl (by omega) (by omega)
          generalize i470 + Int32.ofInt (1) = v488 at hv488 ⊢
          refine WP_goto 2 dX0_lossesAt_34 rfl ?_
          exact WP_sub (fc rfl (fc rfl (fc rfl fn))) (ihlp2_472 v488 I486 J472 hI486 (by omega) (by omega) (by omega))
        refine WQ_if_le 29 dX0_lossesAt_22 rfl (fun c488 => ?_) (fun c488 => ?_)
        · refine WQ_iconst (0) (0) dX0_lossesAt_29 rfl rfl (fun v490 hv490 => ?_)
          exact WP_sub (fc rfl (fc rfl (fc rfl fn))) (jn30_484 v490 (by omega) (by omega))
        · refine WP_iload_n dX0_lossesAt_25 rfl ?_
          refine WP_goto 30 dX0_lossesAt_26 rfl ?_
          exact WP_sub (fc rfl (fc rfl (fc rfl fn))) (jn30_484 lo (by omega) (by omega))
  exact WP_sub (fc rfl (fc rfl (fc rfl fn))) (lp2_472 _ v469 I J hI (by omega) (by omega) (Nat.lt_succ_self _))
set_option maxHeartbeats 4000000 in
set_option maxRecDepth 100000 in
theorem sx_earned_6 {g : GG} {n : Int} {L : Int32} (hy : LyX g)  {I : pI} {J : pJ} {R : pR} (hr : RfX g R) (hT : R (ad g 5) 0 = some (ad g 6)) (hI : XI g n L I) (so : Int32) (da : Int32) (co : Int32) (so_lo : 0 ≤ so.toInt) (so_hi : so.toInt ≤ 3) (da_lo : 0 ≤ da.toInt) (da_hi : da.toInt ≤ 6) (co_lo : 0 ≤ co.toInt) (co_hi : co.toInt ≤ 60) : SP g mX0_earned [.ref (ad g 5), .int so, .int da, .int co] I J R (fun r I' J' R' => (I' = I ∧ J' = J ∧ R' = R) ∧ ∃ v : Int32, r = some (.int v) ∧ 0 ≤ v.toInt ∧ v.toInt ≤ 60 ∧ co.toInt ≤ v.toInt) := by
  refine SP_of ⟨by decide, rfl⟩ (Nat.le_of_ble_eq_true rfl) ?_
  have e491 : I (ad g 1) 1 = L := hI.2
  have b492 := BT_get hI.1 1 1 2 (0) (0) (900) (by decide) 1 (by decide) (by decide)
  rw [e491] at b492
  refine WQ_bipush (60) (60) dX0_earned_0 rfl rfl (fun v493 hv493 => ?_)
  refine WP_iload_n dX0_earned_2 rfl ?_
  refine WP_aload_n dX0_earned_3 rfl ?_
  refine WP_getr dX0_earned_4 fX0_27 rfl (lyx_is hy 5 0 rfl) hT ?_
  refine WP_getr dX0_earned_7 fX0_64 rfl (lyx_is hy 6 7 rfl) (rfx hr 6 10 12 (by decide)) ?_
  refine WP_iload_n dX0_earned_10 rfl ?_
  refine WQ_bipush (7) (7) dX0_earned_11 rfl rfl (fun v494 hv494 => ?_)
  refine WQ_imulk (7) dX0_earned_13 hv494 (by omega) (by omega) (fun v495 hv495 => ?_)
  refine WP_iload_n dX0_earned_14 rfl ?_
  refine WQ_iadd dX0_earned_15 (by omega) (by omega) (fun v496 hv496 => ?_)
  refine WQ_iald dX0_earned_16 (lyx_is hy 12 13 rfl) (lyx_n hy 12 28 rfl) (by omega) (by omega) (fun q hq => BT_get hI.1 12 0 28 (0) (0) (20) (by decide) q (Nat.zero_le _) hq) (fun v497 av497 bv497 ev497 => ?_)
  clear ev497
  refine WQ_iadd dX0_earned_17 (by omega) (by omega) (fun v498 hv498 => ?_)
  refine WQ_min dX0_earned_18 lX0_67 ⟨by decide, Nat.le_of_ble_eq_true rfl⟩ (fun v499 av499 bv499 cv499 => ?_)
  exact WP_iret dX0_earned_21 rfl ⟨⟨rfl, rfl, rfl⟩, _, rfl, by omega, by omega, by omega⟩
set_option maxHeartbeats 4000000 in
set_option maxRecDepth 100000 in
theorem sx_open_6 {g : GG} {n : Int} {L : Int32} (hy : LyX g)  {I : pI} {J : pJ} {R : pR} (hr : RfX g R) (hT : R (ad g 5) 0 = some (ad g 6)) (hI : XI g n L I)   : SP g mX0_open [.ref (ad g 5)] I J R (fun r I' J' R' => (XI g n L I' ∧ R' = R) ∧ r = none) := by
  refine SP_of ⟨by decide, rfl⟩ (Nat.le_of_ble_eq_true rfl) ?_
  have e500 : I (ad g 1) 1 = L := hI.2
  have b501 := BT_get hI.1 1 1 2 (0) (0) (900) (by decide) 1 (by decide) (by decide)
  rw [e500] at b501
  refine WP_aload_n dX0_open_0 rfl ?_
  refine WP_getr dX0_open_1 fX0_27 rfl (lyx_is hy 5 0 rfl) hT ?_
  refine WQ_geti dX0_open_4 fX0_31 rfl (lyx_is hy 6 7 rfl) (BT_get hI.1 6 4 5 (-1) (0) (2) (by decide) 4 (by decide) (by decide)) (fun v502 ev502 av502 bv502 => ?_)
  refine WQ_iconst (-1) (-1) dX0_open_7 rfl rfl (fun v503 hv503 => ?_)
  have jn30_506 : ∀ (v506 : Int32), 0 ≤ v506.toInt → v506.toInt ≤ 9 → WP g mX0_open 30 [(0, .ref (ad g 5))] [.int v506] I J R (fun r I' J' R' => (XI g n L I' ∧ R' = R) ∧ r = none) := by
    intro v506 av506 bv506
    refine WP_istore_n (ls' := [(0, _), (1, _)]) dX0_open_30 (by decide) rfl ?_
    refine WP_aload_n dX0_open_31 rfl ?_
    refine WP_getr dX0_open_32 fX0_27 rfl (lyx_is hy 5 0 rfl) hT ?_
    refine WQ_getim dX0_open_35 fX0_31 rfl (lyx_is hy 6 7 rfl) ev502 ?_
    refine WQ_iconst (-1) (-1) dX0_open_38 rfl rfl (fun v508 hv508 => ?_)
    have jn61_511 : ∀ (v511 : Int32), 0 ≤ v511.toInt → v511.toInt ≤ 1000 → WP g mX0_open 61 [(0, .ref (ad g 5)), (1, .int v506)] [.int v511] I J R (fun r I' J' R' => (XI g n L I' ∧ R' = R) ∧ r = none) := by
      intro v511 av511 bv511
      refine WP_istore_n (ls' := [(0, _), (1, _), (2, _)]) dX0_open_61 (by decide) rfl ?_
      refine WQ_iconst (0) (0) dX0_open_62 rfl rfl (fun v513 hv513 => ?_)
      refine WP_istore_n (ls' := [(0, _), (1, _), (2, _), (3, _)]) dX0_open_63 (by decide) rfl ?_
      have lp64_516 : ∀ (mz : Nat) (i514 : Int32) (I515 : pI) (J516 : pJ), XI g n L I515 → 0 ≤ i514.toInt → i514.toInt ≤ 6 → (7 - i514.toInt).toNat < mz → WP g mX0_open 64 [(0, .ref (ad g 5)), (1, .int v506), (2, .int v511), (3, .int i514)] [] I515 J516 R (fun r I' J' R' => (XI g n L I' ∧ R' = R) ∧ r = none) := by
        intro mz
        induction mz with
        | zero =>
          intro i514 I515 J516 hI515 ai514 bi514 hmlp64_516
          exact absurd hmlp64_516 (Nat.not_lt_zero _)
        | succ mz ihlp64_516 =>
          intro i514 I515 J516 hI515 ai514 bi514 hmlp64_516
          have e518 : I515 (ad g 1) 1 = L := hI515.2
          have b519 := BT_get hI515.1 1 1 2 (0) (0) (900) (by decide) 1 (by decide) (by decide)
          rw [e518] at b519
          refine WP_iload_n dX0_open_64 rfl ?_
          refine WQ_bipush (6) (6) dX0_open_65 rfl rfl (fun v520 hv520 => ?_)
          refine WQ_icmp_ge 100 dX0_open_67 rfl (fun c520 => ?_) (fun c520 => ?_)
          · refine WP_aload_n dX0_open_100 rfl ?_
            refine WP_callV0 (k := 0) dX0_open_101 ⟨⟨⟨by decide, by decide⟩, zX0_pricesAsTold⟩, lX0_43, by decide, rfl, vX0_pricesAsTold.1, vX0_pricesAsTold.2⟩ (lyx_is hy 5 0 rfl) (sx_pricesAsTold_6 hy hr hT hI515  ) (Nat.le_of_ble_eq_true rfl) ?_
            intro r I522 J523 Ra hq
            obtain ⟨⟨hI522, ec⟩, rfl⟩ := hq
            rw [ec]
            clear ec Ra
            have e524 : I522 (ad g 1) 1 = L := hI522.2
            have b525 := BT_get hI522.1 1 1 2 (0) (0) (900) (by decide) 1 (by decide) (by decide)
            rw [e524] at b525
            refine WP_aload_n dX0_open_104 rfl ?_
            refine WP_callV0 (k := 0) dX0_open_105 ⟨⟨⟨by decide, by decide⟩, zX0_lossesAsTold⟩, lX0_46, by decide, rfl, vX0_lossesAsTold.1, vX0_lossesAsTold.2⟩ (lyx_is hy 5 0 rfl) (sx_lossesAsTold_6 hy hr hT hI522  ) (Nat.le_of_ble_eq_true rfl) ?_
            intro r I526 J527 Ra hq
            obtain ⟨⟨hI526, ec⟩, rfl⟩ := hq
            rw [ec]
            clear ec Ra
            have e528 : I526 (ad g 1) 1 = L := hI526.2
            have b529 := BT_get hI526.1 1 1 2 (0) (0) (900) (by decide) 1 (by decide) (by decide)
            rw [e528] at b529
            exact WP_vret dX0_open_108 rfl ⟨⟨hI526, rfl⟩, rfl⟩
          · refine WP_aload_n dX0_open_70 rfl ?_
            refine WP_getr dX0_open_71 fX0_21 rfl (lyx_is hy 5 0 rfl) (rfx hr 5 4 25 (by decide)) ?_
            refine WP_iload_n dX0_open_74 rfl ?_
            refine WP_iload_n dX0_open_75 rfl ?_
            refine WP_iload_n dX0_open_76 rfl ?_
            refine WQ_imulb (5) (9) dX0_open_77 ⟨by omega, by omega⟩ ⟨by omega, by omega⟩ (by decide) (fun v530 pv530 av530 bv530 cv530 => ?_)
            refine WQ_iast dX0_open_78 (lyx_is hy 25 13 rfl) (lyx_n hy 25 6 rfl) (by omega) (by omega) (fun I531 eI531 => ?_)
            have hI531 : XI g n L I531 := by rw [eI531]; exact (xi_r hy hI515 (c := 25) (0) (0) (45) (by decide) (Or.inl (by decide)) (by decide) (by omega) (by omega))
            have e532 : I531 (ad g 1) 1 = L := by rw [eI531, pp_ne _ _ (Or.inl (lyx_ne hy (by decide) (by decide) (by decide)))]; exact e518
            clear eI531
            refine WP_aload_n dX0_open_79 rfl ?_
            refine WP_getr dX0_open_80 fX0_24 rfl (lyx_is hy 5 0 rfl) (rfx hr 5 5 26 (by decide)) ?_
            refine WP_iload_n dX0_open_83 rfl ?_
            refine WP_iload_n dX0_open_84 rfl ?_
            refine WP_iload_n dX0_open_85 rfl ?_
            refine WP_iload_n dX0_open_86 rfl ?_
            refine WQ_imulb (5) (1000) dX0_open_87 ⟨by omega, by omega⟩ ⟨by omega, by omega⟩ (by decide) (fun v533 pv533 av533 bv533 cv533 => ?_)
            refine WQ_sipush (1000) (1000) dX0_open_88 rfl rfl (fun v534 hv534 => ?_)
            refine WQ_idivk (1000) dX0_open_91 hv534 (by decide) (by omega) (fun v535 hv535 => ?_)
            refine WQ_isub dX0_open_92 (by omega) (by omega) (fun v536 hv536 => ?_)
            refine WQ_iast dX0_open_93 (lyx_is hy 26 13 rfl) (lyx_n hy 26 6 rfl) (by omega) (by omega) (fun I537 eI537 => ?_)
            have hI537 : XI g n L I537 := by rw [eI537]; exact (xi_r hy hI531 (c := 26) (0) (0) (5) (by decide) (Or.inl (by decide)) (by decide) (by omega) (by omega))
            have e538 : I537 (ad g 1) 1 = L := by rw [eI537, pp_ne _ _ (Or.inl (lyx_ne hy (by decide) (by decide) (by decide)))]; exact e532
            clear eI537
            refine WP_iinc (ls' := [(0, _), (1, _), (2, _), (3, _)]) dX0_open_94 rfl (by decide) rfl ?_
            have hv539 : (i514 + Int32.ofInt (1)).toInt = i514.toInt + (1) := ia_n rfl (by omega) (by omega)
            generalize i514 + Int32.ofInt (1) = v539 at hv539 ⊢
            refine WP_goto 64 dX0_open_97 rfl ?_
            exact WP_sub (fc rfl (fc rfl (fc rfl (fc rfl fn)))) (ihlp64_516 v539 I537 J516 hI537 (by omega) (by omega) (by omega))
      exact WP_sub (fc rfl (fc rfl (fc rfl (fc rfl fn)))) (lp64_516 _ v513 I J hI (by omega) (by omega) (Nat.lt_succ_self _))
    refine WQ_icmp_ne 46 dX0_open_39 rfl (fun c539 => ?_) (fun c539 => ?_)
    · refine WP_aload_n dX0_open_46 rfl ?_
      refine WP_getr dX0_open_47 fX0_27 rfl (lyx_is hy 5 0 rfl) hT ?_
      refine WP_getr dX0_open_50 fX0_40 rfl (lyx_is hy 6 7 rfl) (rfx hr 6 14 16 (by decide)) ?_
      refine WP_aload_n dX0_open_53 rfl ?_
      refine WP_getr dX0_open_54 fX0_27 rfl (lyx_is hy 5 0 rfl) hT ?_
      refine WQ_getim dX0_open_57 fX0_31 rfl (lyx_is hy 6 7 rfl) ev502 ?_
      refine WQ_iald dX0_open_60 (lyx_is hy 16 13 rfl) (lyx_n hy 16 3 rfl) (by omega) (by omega) (fun q hq => BT_get hI.1 16 0 3 (0) (0) (1000) (by decide) q (Nat.zero_le _) hq) (fun v541 av541 bv541 ev541 => ?_)
      clear ev541
      exact WP_sub (fc rfl (fc rfl fn)) (jn61_511 v541 (by omega) (by omega))
    · refine WQ_iconst (0) (0) dX0_open_42 rfl rfl (fun v542 hv542 => ?_)
      refine WP_goto 61 dX0_open_43 rfl ?_
      exact WP_sub (fc rfl (fc rfl fn)) (jn61_511 v542 (by omega) (by omega))
  refine WQ_icmp_ne 15 dX0_open_8 rfl (fun c542 => ?_) (fun c542 => ?_)
  · refine WP_aload_n dX0_open_15 rfl ?_
    refine WP_getr dX0_open_16 fX0_27 rfl (lyx_is hy 5 0 rfl) hT ?_
    refine WP_getr dX0_open_19 fX0_37 rfl (lyx_is hy 6 7 rfl) (rfx hr 6 15 17 (by decide)) ?_
    refine WP_aload_n dX0_open_22 rfl ?_
    refine WP_getr dX0_open_23 fX0_27 rfl (lyx_is hy 5 0 rfl) hT ?_
    refine WQ_getim dX0_open_26 fX0_31 rfl (lyx_is hy 6 7 rfl) ev502 ?_
    refine WQ_iald dX0_open_29 (lyx_is hy 17 13 rfl) (lyx_n hy 17 3 rfl) (by omega) (by omega) (fun q hq => BT_get hI.1 17 0 3 (0) (0) (9) (by decide) q (Nat.zero_le _) hq) (fun v544 av544 bv544 ev544 => ?_)
    clear ev544
    exact WP_sub (fc rfl fn) (jn30_506 v544 (by omega) (by omega))
  · refine WQ_iconst (0) (0) dX0_open_11 rfl rfl (fun v545 hv545 => ?_)
    refine WP_goto 30 dX0_open_12 rfl ?_
    exact WP_sub (fc rfl fn) (jn30_506 v545 (by omega) (by omega))
set_option maxHeartbeats 4000000 in
set_option maxRecDepth 100000 in
theorem sx_movePrices_6 {g : GG} {n : Int} {L : Int32} (hy : LyX g)  {I : pI} {J : pJ} {R : pR} (hr : RfX g R) (hT : R (ad g 5) 0 = some (ad g 6)) (hI : XI g n L I)   : SP g mX0_movePrices [.ref (ad g 5), .ref (ad g 51)] I J R (fun r I' J' R' => (XI g n L I' ∧ R' = R) ∧ ∃ v : Int32, r = some (.int v) ∧ 0 ≤ v.toInt ∧ v.toInt ≤ 1) := by
  refine SP_of ⟨by decide, rfl⟩ (Nat.le_of_ble_eq_true rfl) ?_
  have e546 : I (ad g 1) 1 = L := hI.2
  have b547 := BT_get hI.1 1 1 2 (0) (0) (900) (by decide) 1 (by decide) (by decide)
  rw [e546] at b547
  refine WQ_iconst (0) (0) dX0_movePrices_0 rfl rfl (fun v548 hv548 => ?_)
  refine WP_istore_n (ls' := [(0, _), (1, _), (2, _)]) dX0_movePrices_1 (by decide) rfl ?_
  refine WQ_iconst (0) (0) dX0_movePrices_2 rfl rfl (fun v549 hv549 => ?_)
  refine WP_istore_n (ls' := [(0, _), (1, _), (2, _), (3, _)]) dX0_movePrices_3 (by decide) rfl ?_
  have lp4_553 : ∀ (mz : Nat) (i550 : Int32) (i551 : Int32) (I552 : pI) (J553 : pJ), XI g n L I552 → 0 ≤ i550.toInt → i550.toInt ≤ 1 → 0 ≤ i551.toInt → i551.toInt ≤ 21 → (22 - i551.toInt).toNat < mz → WP g mX0_movePrices 4 [(0, .ref (ad g 5)), (1, .ref (ad g 51)), (2, .int i550), (3, .int i551)] [] I552 J553 R (fun r I' J' R' => (XI g n L I' ∧ R' = R) ∧ ∃ v : Int32, r = some (.int v) ∧ 0 ≤ v.toInt ∧ v.toInt ≤ 1) := by
    intro mz
    induction mz with
    | zero =>
      intro i550 i551 I552 J553 hI552 ai550 bi550 ai551 bi551 hmlp4_553
      exact absurd hmlp4_553 (Nat.not_lt_zero _)
    | succ mz ihlp4_553 =>
      intro i550 i551 I552 J553 hI552 ai550 bi550 ai551 bi551 hmlp4_553
      have e555 : I552 (ad g 1) 1 = L := hI552.2
      have b556 := BT_get hI552.1 1 1 2 (0) (0) (900) (by decide) 1 (by decide) (by decide)
      rw [e555] at b556
      refine WP_iload_n dX0_movePrices_4 rfl ?_
      refine WP_aload_n dX0_movePrices_5 rfl ?_
      refine WP_getr dX0_movePrices_6 fX0_27 rfl (lyx_is hy 5 0 rfl) hT ?_
      refine WQ_geti dX0_movePrices_9 fX0_73 rfl (lyx_is hy 6 7 rfl) (BT_get hI552.1 6 2 3 (0) (0) (3) (by decide) 2 (by decide) (by decide)) (fun v557 ev557 av557 bv557 => ?_)
      refine WQ_bipush (7) (7) dX0_movePrices_12 rfl rfl (fun v558 hv558 => ?_)
      refine WQ_imulk (7) dX0_movePrices_14 hv558 (by omega) (by omega) (fun v559 hv559 => ?_)
      refine WQ_icmp_ge 111 dX0_movePrices_15 rfl (fun c559 => ?_) (fun c559 => ?_)
      · refine WP_iload_n dX0_movePrices_111 rfl ?_
        exact WP_zret dX0_movePrices_112 rfl (nar_z (by omega)) ⟨⟨hI552, rfl⟩, _, rfl, by omega, by omega⟩
      · refine WP_aload_n dX0_movePrices_18 rfl ?_
        refine WP_getr dX0_movePrices_19 fX0_27 rfl (lyx_is hy 5 0 rfl) hT ?_
        refine WP_getr dX0_movePrices_22 fX0_76 rfl (lyx_is hy 6 7 rfl) (rfx hr 6 17 19 (by decide)) ?_
        refine WP_iload_n dX0_movePrices_25 rfl ?_
        refine WQ_iald dX0_movePrices_26 (lyx_is hy 19 13 rfl) (lyx_n hy 19 21 rfl) (by omega) (by omega) (fun q hq => BT_get hI552.1 19 0 21 (-1) (0) (999) (by decide) q (Nat.zero_le _) hq) (fun v561 av561 bv561 ev561 => ?_)
        refine WP_istore (ls' := [(0, _), (1, _), (2, _), (3, _), (4, _)]) dX0_movePrices_27 (by decide) rfl ?_
        refine WP_iload dX0_movePrices_29 rfl ?_
        refine WQ_iconst (-1) (-1) dX0_movePrices_31 rfl rfl (fun v562 hv562 => ?_)
        refine WQ_icmp_eq 69 dX0_movePrices_32 rfl (fun c562 => ?_) (fun c562 => ?_)
        · refine WP_iload dX0_movePrices_69 rfl ?_
          refine WQ_iconst (-1) (-1) dX0_movePrices_71 rfl rfl (fun v564 hv564 => ?_)
          refine WQ_icmp_eq 105 dX0_movePrices_72 rfl (fun c564 => ?_) (fun c564 => False.elim (by omega))
          refine WP_iinc (ls' := [(0, _), (1, _), (2, _), (3, _), (4, _)]) dX0_movePrices_105 rfl (by decide) rfl ?_
          have hv566 : (i551 + Int32.ofInt (1)).toInt = i551.toInt + (1) := ia_n rfl (by omega) (by omega)
          generalize i551 + Int32.ofInt (1) = v566 at hv566 ⊢
          refine WP_goto 4 dX0_movePrices_108 rfl ?_
          exact WP_sub (fc rfl (fc rfl (fc rfl (fc rfl fn)))) (ihlp4_553 i550 v566 I552 J553 hI552 (by omega) (by omega) (by omega) (by omega) (by omega))
        · refine WP_aload_n dX0_movePrices_35 rfl ?_
          refine WP_iload_n dX0_movePrices_36 rfl ?_
          refine WQ_ialdu dX0_movePrices_37 (lyx_is hy 51 13 rfl) (lyx_n hy 51 21 rfl) (by omega) (by omega) (fun v567 => ?_)
          refine WP_iload dX0_movePrices_38 rfl ?_
          refine WQ_icmp_le 69 dX0_movePrices_40 rfl (fun c567 => ?_) (fun c567 => ?_)
          · refine WP_iload dX0_movePrices_69 rfl ?_
            refine WQ_iconst (-1) (-1) dX0_movePrices_71 rfl rfl (fun v569 hv569 => ?_)
            refine WQ_icmp_eq 105 dX0_movePrices_72 rfl (fun c569 => False.elim (by omega)) (fun c569 => ?_)
            refine WP_aload_n dX0_movePrices_75 rfl ?_
            refine WP_iload_n dX0_movePrices_76 rfl ?_
            refine WQ_ialdu dX0_movePrices_77 (lyx_is hy 51 13 rfl) (lyx_n hy 51 21 rfl) (by omega) (by omega) (fun v571 => ?_)
            refine WP_iload dX0_movePrices_78 rfl ?_
            refine WQ_icmp_ge 105 dX0_movePrices_80 rfl (fun c571 => ?_) (fun c571 => ?_)
            · refine WP_iinc (ls' := [(0, _), (1, _), (2, _), (3, _), (4, _)]) dX0_movePrices_105 rfl (by decide) rfl ?_
              have hv573 : (i551 + Int32.ofInt (1)).toInt = i551.toInt + (1) := ia_n rfl (by omega) (by omega)
              generalize i551 + Int32.ofInt (1) = v573 at hv573 ⊢
              refine WP_goto 4 dX0_movePrices_108 rfl ?_
              exact WP_sub (fc rfl (fc rfl (fc rfl (fc rfl fn)))) (ihlp4_553 i550 v573 I552 J553 hI552 (by omega) (by omega) (by omega) (by omega) (by omega))
            · refine WP_aload_n dX0_movePrices_83 rfl ?_
              refine WP_getr dX0_movePrices_84 fX0_9 rfl (lyx_is hy 5 0 rfl) (rfx hr 5 1 22 (by decide)) ?_
              refine WP_iload_n dX0_movePrices_87 rfl ?_
              refine WQ_iald dX0_movePrices_88 (lyx_is hy 22 13 rfl) (lyx_n hy 22 21 rfl) (by omega) (by omega) (fun q hq => BT_get hI552.1 22 0 21 (0) (0) (20) (by decide) q (Nat.zero_le _) hq) (fun v574 av574 bv574 ev574 => ?_)
              refine WQ_iconst (1) (1) dX0_movePrices_89 rfl rfl (fun v575 hv575 => ?_)
              refine WQ_icmp_le 105 dX0_movePrices_90 rfl (fun c575 => ?_) (fun c575 => ?_)
              · refine WP_iinc (ls' := [(0, _), (1, _), (2, _), (3, _), (4, _)]) dX0_movePrices_105 rfl (by decide) rfl ?_
                have hv577 : (i551 + Int32.ofInt (1)).toInt = i551.toInt + (1) := ia_n rfl (by omega) (by omega)
                generalize i551 + Int32.ofInt (1) = v577 at hv577 ⊢
                refine WP_goto 4 dX0_movePrices_108 rfl ?_
                exact WP_sub (fc rfl (fc rfl (fc rfl (fc rfl fn)))) (ihlp4_553 i550 v577 I552 J553 hI552 (by omega) (by omega) (by omega) (by omega) (by omega))
              · refine WP_aload_n dX0_movePrices_93 rfl ?_
                refine WP_getr dX0_movePrices_94 fX0_9 rfl (lyx_is hy 5 0 rfl) (rfx hr 5 1 22 (by decide)) ?_
                refine WP_iload_n dX0_movePrices_97 rfl ?_
                refine WP_dup2 dX0_movePrices_98 rfl rfl ?_
                refine WQ_ialde dX0_movePrices_99 (lyx_is hy 22 13 rfl) (lyx_n hy 22 21 rfl) (by omega) (by omega) ev574 ?_
                refine WQ_iconst (1) (1) dX0_movePrices_100 rfl rfl (fun v579 hv579 => ?_)
                refine WQ_isub dX0_movePrices_101 (by omega) (by omega) (fun v580 hv580 => ?_)
                refine WQ_iast dX0_movePrices_102 (lyx_is hy 22 13 rfl) (lyx_n hy 22 21 rfl) (by omega) (by omega) (fun I581 eI581 => ?_)
                have hI581 : XI g n L I581 := by rw [eI581]; exact (xi_r hy hI552 (c := 22) (0) (0) (20) (by decide) (Or.inl (by decide)) (by decide) (by omega) (by omega))
                have e582 : I581 (ad g 1) 1 = L := by rw [eI581, pp_ne _ _ (Or.inl (lyx_ne hy (by decide) (by decide) (by decide)))]; exact e555
                have e583 : I581 (ad g 6) 2 = v557 := by rw [eI581, pp_ne _ _ (Or.inl (lyx_ne hy (by decide) (by decide) (by decide)))]; exact ev557
                have e584 : I581 (ad g 19) i551.toNatClampNeg = v561 := by rw [eI581, pp_ne _ _ (Or.inl (lyx_ne hy (by decide) (by decide) (by decide)))]; exact ev561
                clear eI581
                refine WQ_iconst (1) (1) dX0_movePrices_103 rfl rfl (fun v585 hv585 => ?_)
                refine WP_istore_n (ls' := [(0, _), (1, _), (2, _), (3, _), (4, _)]) dX0_movePrices_104 (by decide) rfl ?_
                refine WP_iinc (ls' := [(0, _), (1, _), (2, _), (3, _), (4, _)]) dX0_movePrices_105 rfl (by decide) rfl ?_
                have hv586 : (i551 + Int32.ofInt (1)).toInt = i551.toInt + (1) := ia_n rfl (by omega) (by omega)
                generalize i551 + Int32.ofInt (1) = v586 at hv586 ⊢
                refine WP_goto 4 dX0_movePrices_108 rfl ?_
                exact WP_sub (fc rfl (fc rfl (fc rfl (fc rfl fn)))) (ihlp4_553 v585 v586 I581 J553 hI581 (by omega) (by omega) (by omega) (by omega) (by omega))
          · refine WP_aload_n dX0_movePrices_43 rfl ?_
            refine WP_getr dX0_movePrices_44 fX0_9 rfl (lyx_is hy 5 0 rfl) (rfx hr 5 1 22 (by decide)) ?_
            refine WP_iload_n dX0_movePrices_47 rfl ?_
            refine WQ_iald dX0_movePrices_48 (lyx_is hy 22 13 rfl) (lyx_n hy 22 21 rfl) (by omega) (by omega) (fun q hq => BT_get hI552.1 22 0 21 (0) (0) (20) (by decide) q (Nat.zero_le _) hq) (fun v587 av587 bv587 ev587 => ?_)
            refine WQ_bipush (20) (20) dX0_movePrices_49 rfl rfl (fun v588 hv588 => ?_)
            refine WQ_icmp_ge 69 dX0_movePrices_51 rfl (fun c588 => ?_) (fun c588 => ?_)
            · refine WP_iload dX0_movePrices_69 rfl ?_
              refine WQ_iconst (-1) (-1) dX0_movePrices_71 rfl rfl (fun v590 hv590 => ?_)
              refine WQ_icmp_eq 105 dX0_movePrices_72 rfl (fun c590 => False.elim (by omega)) (fun c590 => ?_)
              refine WP_aload_n dX0_movePrices_75 rfl ?_
              refine WP_iload_n dX0_movePrices_76 rfl ?_
              refine WQ_ialdu dX0_movePrices_77 (lyx_is hy 51 13 rfl) (lyx_n hy 51 21 rfl) (by omega) (by omega) (fun v592 => ?_)
              refine WP_iload dX0_movePrices_78 rfl ?_
              refine WQ_icmp_ge 105 dX0_movePrices_80 rfl (fun c592 => ?_) (fun c592 => ?_)
              · refine WP_iinc (ls' := [(0, _), (1, _), (2, _), (3, _), (4, _)]) dX0_movePrices_105 rfl (by decide) rfl ?_
                have hv594 : (i551 + Int32.ofInt (1)).toInt = i551.toInt + (1) := ia_n rfl (by omega) (by omega)
                generalize i551 + Int32.ofInt (1) = v594 at hv594 ⊢
                refine WP_goto 4 dX0_movePrices_108 rfl ?_
                exact WP_sub (fc rfl (fc rfl (fc rfl (fc rfl fn)))) (ihlp4_553 i550 v594 I552 J553 hI552 (by omega) (by omega) (by omega) (by omega) (by omega))
              · refine WP_aload_n dX0_movePrices_83 rfl ?_
                refine WP_getr dX0_movePrices_84 fX0_9 rfl (lyx_is hy 5 0 rfl) (rfx hr 5 1 22 (by decide)) ?_
                refine WP_iload_n dX0_movePrices_87 rfl ?_
                refine WQ_ialde dX0_movePrices_88 (lyx_is hy 22 13 rfl) (lyx_n hy 22 21 rfl) (by omega) (by omega) ev587 ?_
                refine WQ_iconst (1) (1) dX0_movePrices_89 rfl rfl (fun v596 hv596 => ?_)
                refine WQ_icmp_le 105 dX0_movePrices_90 rfl (fun c596 => False.elim (by omega)) (fun c596 => ?_)
                refine WP_aload_n dX0_movePrices_93 rfl ?_
                refine WP_getr dX0_movePrices_94 fX0_9 rfl (lyx_is hy 5 0 rfl) (rfx hr 5 1 22 (by decide)) ?_
                refine WP_iload_n dX0_movePrices_97 rfl ?_
                refine WP_dup2 dX0_movePrices_98 rfl rfl ?_
                refine WQ_ialde dX0_movePrices_99 (lyx_is hy 22 13 rfl) (lyx_n hy 22 21 rfl) (by omega) (by omega) ev587 ?_
                refine WQ_iconst (1) (1) dX0_movePrices_100 rfl rfl (fun v599 hv599 => ?_)
                refine WQ_isub dX0_movePrices_101 (by omega) (by omega) (fun v600 hv600 => ?_)
                refine WQ_iast dX0_movePrices_102 (lyx_is hy 22 13 rfl) (lyx_n hy 22 21 rfl) (by omega) (by omega) (fun I601 eI601 => ?_)
                have hI601 : XI g n L I601 := by rw [eI601]; exact (xi_r hy hI552 (c := 22) (0) (0) (20) (by decide) (Or.inl (by decide)) (by decide) (by omega) (by omega))
                have e602 : I601 (ad g 1) 1 = L := by rw [eI601, pp_ne _ _ (Or.inl (lyx_ne hy (by decide) (by decide) (by decide)))]; exact e555
                have e603 : I601 (ad g 6) 2 = v557 := by rw [eI601, pp_ne _ _ (Or.inl (lyx_ne hy (by decide) (by decide) (by decide)))]; exact ev557
                have e604 : I601 (ad g 19) i551.toNatClampNeg = v561 := by rw [eI601, pp_ne _ _ (Or.inl (lyx_ne hy (by decide) (by decide) (by decide)))]; exact ev561
                clear eI601
                refine WQ_iconst (1) (1) dX0_movePrices_103 rfl rfl (fun v605 hv605 => ?_)
                refine WP_istore_n (ls' := [(0, _), (1, _), (2, _), (3, _), (4, _)]) dX0_movePrices_104 (by decide) rfl ?_
                refine WP_iinc (ls' := [(0, _), (1, _), (2, _), (3, _), (4, _)]) dX0_movePrices_105 rfl (by decide) rfl ?_
                have hv606 : (i551 + Int32.ofInt (1)).toInt = i551.toInt + (1) := ia_n rfl (by omega) (by omega)
                generalize i551 + Int32.ofInt (1) = v606 at hv606 ⊢
                refine WP_goto 4 dX0_movePrices_108 rfl ?_
                exact WP_sub (fc rfl (fc rfl (fc rfl (fc rfl fn)))) (ihlp4_553 v605 v606 I601 J553 hI601 (by omega) (by omega) (by omega) (by omega) (by omega))
            · refine WP_aload_n dX0_movePrices_54 rfl ?_
              refine WP_getr dX0_movePrices_55 fX0_9 rfl (lyx_is hy 5 0 rfl) (rfx hr 5 1 22 (by decide)) ?_
              refine WP_iload_n dX0_movePrices_58 rfl ?_
              refine WP_dup2 dX0_movePrices_59 rfl rfl ?_
              refine WQ_ialde dX0_movePrices_60 (lyx_is hy 22 13 rfl) (lyx_n hy 22 21 rfl) (by omega) (by omega) ev587 ?_
              refine WQ_iconst (1) (1) dX0_movePrices_61 rfl rfl (fun v608 hv608 => ?_)
              refine WQ_iadd dX0_movePrices_62 (by omega) (by omega) (fun v609 hv609 => ?_)
              refine WQ_iast dX0_movePrices_63 (lyx_is hy 22 13 rfl) (lyx_n hy 22 21 rfl) (by omega) (by omega) (fun I610 eI610 => ?_)
              have hI610 : XI g n L I610 := by rw [eI610]; exact (xi_r hy hI552 (c := 22) (0) (0) (20) (by decide) (Or.inl (by decide)) (by decide) (by omega) (by omega))
              have e611 : I610 (ad g 1) 1 = L := by rw [eI610, pp_ne _ _ (Or.inl (lyx_ne hy (by decide) (by decide) (by decide)))]; exact e555
              have e612 : I610 (ad g 6) 2 = v557 := by rw [eI610, pp_ne _ _ (Or.inl (lyx_ne hy (by decide) (by decide) (by decide)))]; exact ev557
              have e613 : I610 (ad g 19) i551.toNatClampNeg = v561 := by rw [eI610, pp_ne _ _ (Or.inl (lyx_ne hy (by decide) (by decide) (by decide)))]; exact ev561
              clear eI610
              refine WQ_iconst (1) (1) dX0_movePrices_64 rfl rfl (fun v614 hv614 => ?_)
              refine WP_istore_n (ls' := [(0, _), (1, _), (2, _), (3, _), (4, _)]) dX0_movePrices_65 (by decide) rfl ?_
              refine WP_goto 105 dX0_movePrices_66 rfl ?_
              refine WP_iinc (ls' := [(0, _), (1, _), (2, _), (3, _), (4, _)]) dX0_movePrices_105 rfl (by decide) rfl ?_
              have hv615 : (i551 + Int32.ofInt (1)).toInt = i551.toInt + (1) := ia_n rfl (by omega) (by omega)
              generalize i551 + Int32.ofInt (1) = v615 at hv615 ⊢
              refine WP_goto 4 dX0_movePrices_108 rfl ?_
              exact WP_sub (fc rfl (fc rfl (fc rfl (fc rfl fn)))) (ihlp4_553 v614 v615 I610 J553 hI610 (by omega) (by omega) (by omega) (by omega) (by omega))
  exact WP_sub (fc rfl (fc rfl (fc rfl (fc rfl fn)))) (lp4_553 _ v548 v549 I J hI (by omega) (by omega) (by omega) (by omega) (Nat.lt_succ_self _))
set_option maxHeartbeats 4000000 in
set_option maxRecDepth 100000 in
theorem sx_pricesAsTold_27 {g : GG} {n : Int} {L : Int32} (hy : LyX g)  {I : pI} {J : pJ} {R : pR} (hr : RfX g R) (hT : R (ad g 5) 0 = some (ad g 27)) (hI : XI g n L I)   : SP g mX0_pricesAsTold [.ref (ad g 5)] I J R (fun r I' J' R' => (XI g n L I' ∧ R' = R) ∧ r = none) := by
  refine SP_of ⟨by decide, rfl⟩ (Nat.le_of_ble_eq_true rfl) ?_
  have e616 : I (ad g 1) 1 = L := hI.2
  have b617 := BT_get hI.1 1 1 2 (0) (0) (900) (by decide) 1 (by decide) (by decide)
  rw [e616] at b617
  refine WP_aload_n dX0_pricesAsTold_0 rfl ?_
  refine WP_getr dX0_pricesAsTold_1 fX0_27 rfl (lyx_is hy 5 0 rfl) hT ?_
  refine WP_getr dX0_pricesAsTold_4 fX0_49 rfl (lyx_is hy 27 7 rfl) (rfx hr 27 16 39 (by decide)) ?_
  refine WQ_iconst (0) (0) dX0_pricesAsTold_7 rfl rfl (fun v618 hv618 => ?_)
  refine WP_aload_n dX0_pricesAsTold_8 rfl ?_
  refine WP_getr dX0_pricesAsTold_9 fX0_9 rfl (lyx_is hy 5 0 rfl) (rfx hr 5 1 22 (by decide)) ?_
  refine WQ_iconst (0) (0) dX0_pricesAsTold_12 rfl rfl (fun v619 hv619 => ?_)
  refine WP_aload_n dX0_pricesAsTold_13 rfl ?_
  refine WP_getr dX0_pricesAsTold_14 fX0_9 rfl (lyx_is hy 5 0 rfl) (rfx hr 5 1 22 (by decide)) ?_
  refine WP_alen dX0_pricesAsTold_17 (lyx_is hy 22 13 rfl) (by decide) ?_
  rw [(lyx_n hy 22 21 rfl)]
  obtain ⟨v620, hv620, ev620⟩ : ∃ v : Int32, v.toInt = 21 ∧ nI 21 = v := ⟨_, nI_toInt (by decide), rfl⟩
  rw [ev620]; clear ev620
  refine WQ_copy0 (N := 21) dX0_pricesAsTold_18 lX0_50 ⟨by decide, Nat.le_of_ble_eq_true rfl⟩ (lyx_is hy 39 13 rfl) (lyx_is hy 22 13 rfl) hv618 hv619 hv620 (lyx_n hy 39 21 rfl) (lyx_n hy 22 21 rfl) (fun I621 fI621 oI621 => ?_)
  have hI621 : XI g n L I621 := xi_copy hy hI 39 22 21 (by decide) (by decide) fI621 oI621
  clear fI621 oI621
  have e622 : I621 (ad g 1) 1 = L := hI621.2
  have b623 := BT_get hI621.1 1 1 2 (0) (0) (900) (by decide) 1 (by decide) (by decide)
  rw [e622] at b623
  exact WP_vret dX0_pricesAsTold_21 rfl ⟨⟨hI621, rfl⟩, rfl⟩
set_option maxHeartbeats 4000000 in
set_option maxRecDepth 100000 in
theorem sx_lossesAsTold_27 {g : GG} {n : Int} {L : Int32} (hy : LyX g)  {I : pI} {J : pJ} {R : pR} (hr : RfX g R) (hT : R (ad g 5) 0 = some (ad g 27)) (hI : XI g n L I)   : SP g mX0_lossesAsTold [.ref (ad g 5)] I J R (fun r I' J' R' => (XI g n L I' ∧ R' = R) ∧ r = none) := by
  refine SP_of ⟨by decide, rfl⟩ (Nat.le_of_ble_eq_true rfl) ?_
  have e624 : I (ad g 1) 1 = L := hI.2
  have b625 := BT_get hI.1 1 1 2 (0) (0) (900) (by decide) 1 (by decide) (by decide)
  rw [e624] at b625
  refine WP_aload_n dX0_lossesAsTold_0 rfl ?_
  refine WP_getr dX0_lossesAsTold_1 fX0_27 rfl (lyx_is hy 5 0 rfl) hT ?_
  refine WP_getr dX0_lossesAsTold_4 fX0_56 rfl (lyx_is hy 27 7 rfl) (rfx hr 27 5 28 (by decide)) ?_
  refine WQ_iconst (0) (0) dX0_lossesAsTold_7 rfl rfl (fun v626 hv626 => ?_)
  refine WP_aload_n dX0_lossesAsTold_8 rfl ?_
  refine WP_getr dX0_lossesAsTold_9 fX0_15 rfl (lyx_is hy 5 0 rfl) (rfx hr 5 2 23 (by decide)) ?_
  refine WQ_iconst (0) (0) dX0_lossesAsTold_12 rfl rfl (fun v627 hv627 => ?_)
  refine WQ_bipush (7) (7) dX0_lossesAsTold_13 rfl rfl (fun v628 hv628 => ?_)
  refine WQ_copy0 (N := 7) dX0_lossesAsTold_15 lX0_50 ⟨by decide, Nat.le_of_ble_eq_true rfl⟩ (lyx_is hy 28 13 rfl) (lyx_is hy 23 13 rfl) hv626 hv627 hv628 (lyx_n hy 28 7 rfl) (lyx_n hy 23 7 rfl) (fun I629 fI629 oI629 => ?_)
  have hI629 : XI g n L I629 := xi_copy hy hI 28 23 7 (by decide) (by decide) fI629 oI629
  clear fI629 oI629
  have e630 : I629 (ad g 1) 1 = L := hI629.2
  have b631 := BT_get hI629.1 1 1 2 (0) (0) (900) (by decide) 1 (by decide) (by decide)
  rw [e630] at b631
  refine WP_aload_n dX0_lossesAsTold_18 rfl ?_
  refine WP_callV0 (k := 0) dX0_lossesAsTold_19 ⟨⟨⟨by decide, by decide⟩, zX0_stampAll⟩, lX0_57, by decide, rfl, vX0_stampAll.1, vX0_stampAll.2⟩ (lyx_is hy 5 0 rfl) (sx_stampAll hy hr hI629  ) (Nat.le_of_ble_eq_true rfl) ?_
  intro r I632 J633 Ra hq
  obtain ⟨⟨hI632, ec⟩, rfl⟩ := hq
  rw [ec]
  clear ec Ra
  have e634 : I632 (ad g 1) 1 = L := hI632.2
  have b635 := BT_get hI632.1 1 1 2 (0) (0) (900) (by decide) 1 (by decide) (by decide)
  rw [e634] at b635
  exact WP_vret dX0_lossesAsTold_22 rfl ⟨⟨hI632, rfl⟩, rfl⟩
set_option maxHeartbeats 4000000 in
set_option maxRecDepth 100000 in
theorem sx_lossesAt_27 {g : GG} {n : Int} {L : Int32} (hy : LyX g)  {I : pI} {J : pJ} {R : pR} (hr : RfX g R) (hT : R (ad g 5) 0 = some (ad g 27)) (hI : XI g n L I) (lo : Int32) (lo_lo : 0 ≤ lo.toInt) (lo_hi : lo.toInt ≤ 900) : SP g mX0_lossesAt [.ref (ad g 5), .int lo] I J R (fun r I' J' R' => (XI g n L I' ∧ R' = R) ∧ r = none) := by
  refine SP_of ⟨by decide, rfl⟩ (Nat.le_of_ble_eq_true rfl) ?_
  have e636 : I (ad g 1) 1 = L := hI.2
  have b637 := BT_get hI.1 1 1 2 (0) (0) (900) (by decide) 1 (by decide) (by decide)
  rw [e636] at b637
  refine WQ_iconst (0) (0) dX0_lossesAt_0 rfl rfl (fun v638 hv638 => ?_)
  refine WP_istore_n (ls' := [(0, _), (1, _), (2, _)]) dX0_lossesAt_1 (by decide) rfl ?_
  have lp2_641 : ∀ (mz : Nat) (i639 : Int32) (I640 : pI) (J641 : pJ), XI g n L I640 → 0 ≤ i639.toInt → i639.toInt ≤ 7 → (8 - i639.toInt).toNat < mz → WP g mX0_lossesAt 2 [(0, .ref (ad g 5)), (1, .int lo), (2, .int i639)] [] I640 J641 R (fun r I' J' R' => (XI g n L I' ∧ R' = R) ∧ r = none) := by
    intro mz
    induction mz with
    | zero =>
      intro i639 I640 J641 hI640 ai639 bi639 hmlp2_641
      exact absurd hmlp2_641 (Nat.not_lt_zero _)
    | succ mz ihlp2_641 =>
      intro i639 I640 J641 hI640 ai639 bi639 hmlp2_641
      have e643 : I640 (ad g 1) 1 = L := hI640.2
      have b644 := BT_get hI640.1 1 1 2 (0) (0) (900) (by decide) 1 (by decide) (by decide)
      rw [e643] at b644
      refine WP_iload_n dX0_lossesAt_2 rfl ?_
      refine WQ_bipush (7) (7) dX0_lossesAt_3 rfl rfl (fun v645 hv645 => ?_)
      refine WQ_icmp_ge 37 dX0_lossesAt_5 rfl (fun c645 => ?_) (fun c645 => ?_)
      · refine WP_aload_n dX0_lossesAt_37 rfl ?_
        refine WP_callV0 (k := 0) dX0_lossesAt_38 ⟨⟨⟨by decide, by decide⟩, zX0_stampAll⟩, lX0_57, by decide, rfl, vX0_stampAll.1, vX0_stampAll.2⟩ (lyx_is hy 5 0 rfl) (sx_stampAll hy hr hI640  ) (Nat.le_of_ble_eq_true rfl) ?_
        intro r I647 J648 Ra hq
        obtain ⟨⟨hI647, ec⟩, rfl⟩ := hq
        rw [ec]
        clear ec Ra
        have e649 : I647 (ad g 1) 1 = L := hI647.2
        have b650 := BT_get hI647.1 1 1 2 (0) (0) (900) (by decide) 1 (by decide) (by decide)
        rw [e649] at b650
        exact WP_vret dX0_lossesAt_41 rfl ⟨⟨hI647, rfl⟩, rfl⟩
      · refine WP_aload_n dX0_lossesAt_8 rfl ?_
        refine WP_getr dX0_lossesAt_9 fX0_15 rfl (lyx_is hy 5 0 rfl) (rfx hr 5 2 23 (by decide)) ?_
        refine WP_iload_n dX0_lossesAt_12 rfl ?_
        refine WP_aload_n dX0_lossesAt_13 rfl ?_
        refine WP_getr dX0_lossesAt_14 fX0_27 rfl (lyx_is hy 5 0 rfl) hT ?_
        refine WP_getr dX0_lossesAt_17 fX0_56 rfl (lyx_is hy 27 7 rfl) (rfx hr 27 5 28 (by decide)) ?_
        refine WP_iload_n dX0_lossesAt_20 rfl ?_
        refine WQ_iald dX0_lossesAt_21 (lyx_is hy 28 13 rfl) (lyx_n hy 28 7 rfl) (by omega) (by omega) (fun q hq => BT_get hI640.1 28 0 7 (0) (0) (900) (by decide) q (Nat.zero_le _) hq) (fun v651 av651 bv651 ev651 => ?_)
        clear ev651
        have jn30_653 : ∀ (v653 : Int32), 0 ≤ v653.toInt → v653.toInt ≤ 900 → WP g mX0_lossesAt 30 [(0, .ref (ad g 5)), (1, .int lo), (2, .int i639)] [.int v653, .int i639, .ref (ad g 23)] I640 J641 R (fun r I' J' R' => (XI g n L I' ∧ R' = R) ∧ r = none) := by
          intro v653 av653 bv653
          refine WQ_iast dX0_lossesAt_30 (lyx_is hy 23 13 rfl) (lyx_n hy 23 7 rfl) (by omega) (by omega) (fun I655 eI655 => ?_)
          have hI655 : XI g n L I655 := by rw [eI655]; exact (xi_r hy hI640 (c := 23) (0) (0) (900) (by decide) (Or.inl (by decide)) (by decide) (by omega) (by omega))
          have e656 : I655 (ad g 1) 1 = L := by rw [eI655, pp_ne _ _ (Or.inl (lyx_ne hy (by decide) (by decide) (by decide)))]; exact e643
          clear eI655
          refine WP_iinc (ls' := [(0, _), (1, _), (2, _)]) dX0_lossesAt_31 rfl (by decide) rfl ?_
          have hv657 : (i639 + Int32.ofInt (1)).toInt = i639.toInt + (1) := ia_n rfl (by omega) (by omega)
          generalize i639 + Int32.ofInt (1) = v657 at hv657 ⊢
          refine WP_goto 2 dX0_lossesAt_34 rfl ?_
          exact WP_sub (fc rfl (fc rfl (fc rfl fn))) (ihlp2_641 v657 I655 J641 hI655 (by omega) (by omega) (by omega))
        refine WQ_if_le 29 dX0_lossesAt_22 rfl (fun c657 => ?_) (fun c657 => ?_)
        · refine WQ_iconst (0) (0) dX0_lossesAt_29 rfl rfl (fun v659 hv659 => ?_)
          exact WP_sub (fc rfl (fc rfl (fc rfl fn))) (jn30_653 v659 (by omega) (by omega))
        · refine WP_iload_n dX0_lossesAt_25 rfl ?_
          refine WP_goto 30 dX0_lossesAt_26 rfl ?_
          exact WP_sub (fc rfl (fc rfl (fc rfl fn))) (jn30_653 lo (by omega) (by omega))
  exact WP_sub (fc rfl (fc rfl (fc rfl fn))) (lp2_641 _ v638 I J hI (by omega) (by omega) (Nat.lt_succ_self _))
set_option maxHeartbeats 4000000 in
set_option maxRecDepth 100000 in
theorem sx_earned_27 {g : GG} {n : Int} {L : Int32} (hy : LyX g)  {I : pI} {J : pJ} {R : pR} (hr : RfX g R) (hT : R (ad g 5) 0 = some (ad g 27)) (hI : XI g n L I) (so : Int32) (da : Int32) (co : Int32) (so_lo : 0 ≤ so.toInt) (so_hi : so.toInt ≤ 3) (da_lo : 0 ≤ da.toInt) (da_hi : da.toInt ≤ 6) (co_lo : 0 ≤ co.toInt) (co_hi : co.toInt ≤ 60) : SP g mX0_earned [.ref (ad g 5), .int so, .int da, .int co] I J R (fun r I' J' R' => (I' = I ∧ J' = J ∧ R' = R) ∧ ∃ v : Int32, r = some (.int v) ∧ 0 ≤ v.toInt ∧ v.toInt ≤ 60 ∧ co.toInt ≤ v.toInt) := by
  refine SP_of ⟨by decide, rfl⟩ (Nat.le_of_ble_eq_true rfl) ?_
  have e660 : I (ad g 1) 1 = L := hI.2
  have b661 := BT_get hI.1 1 1 2 (0) (0) (900) (by decide) 1 (by decide) (by decide)
  rw [e660] at b661
  refine WQ_bipush (60) (60) dX0_earned_0 rfl rfl (fun v662 hv662 => ?_)
  refine WP_iload_n dX0_earned_2 rfl ?_
  refine WP_aload_n dX0_earned_3 rfl ?_
  refine WP_getr dX0_earned_4 fX0_27 rfl (lyx_is hy 5 0 rfl) hT ?_
  refine WP_getr dX0_earned_7 fX0_64 rfl (lyx_is hy 27 7 rfl) (rfx hr 27 10 33 (by decide)) ?_
  refine WP_iload_n dX0_earned_10 rfl ?_
  refine WQ_bipush (7) (7) dX0_earned_11 rfl rfl (fun v663 hv663 => ?_)
  refine WQ_imulk (7) dX0_earned_13 hv663 (by omega) (by omega) (fun v664 hv664 => ?_)
  refine WP_iload_n dX0_earned_14 rfl ?_
  refine WQ_iadd dX0_earned_15 (by omega) (by omega) (fun v665 hv665 => ?_)
  refine WQ_iald dX0_earned_16 (lyx_is hy 33 13 rfl) (lyx_n hy 33 28 rfl) (by omega) (by omega) (fun q hq => BT_get hI.1 33 0 28 (0) (0) (20) (by decide) q (Nat.zero_le _) hq) (fun v666 av666 bv666 ev666 => ?_)
  clear ev666
  refine WQ_iadd dX0_earned_17 (by omega) (by omega) (fun v667 hv667 => ?_)
  refine WQ_min dX0_earned_18 lX0_67 ⟨by decide, Nat.le_of_ble_eq_true rfl⟩ (fun v668 av668 bv668 cv668 => ?_)
  exact WP_iret dX0_earned_21 rfl ⟨⟨rfl, rfl, rfl⟩, _, rfl, by omega, by omega, by omega⟩
set_option maxHeartbeats 4000000 in
set_option maxRecDepth 100000 in
theorem sx_open_27 {g : GG} {n : Int} {L : Int32} (hy : LyX g)  {I : pI} {J : pJ} {R : pR} (hr : RfX g R) (hT : R (ad g 5) 0 = some (ad g 27)) (hI : XI g n L I)   : SP g mX0_open [.ref (ad g 5)] I J R (fun r I' J' R' => (XI g n L I' ∧ R' = R) ∧ r = none) := by
  refine SP_of ⟨by decide, rfl⟩ (Nat.le_of_ble_eq_true rfl) ?_
  have e669 : I (ad g 1) 1 = L := hI.2
  have b670 := BT_get hI.1 1 1 2 (0) (0) (900) (by decide) 1 (by decide) (by decide)
  rw [e669] at b670
  refine WP_aload_n dX0_open_0 rfl ?_
  refine WP_getr dX0_open_1 fX0_27 rfl (lyx_is hy 5 0 rfl) hT ?_
  refine WQ_geti dX0_open_4 fX0_31 rfl (lyx_is hy 27 7 rfl) (BT_get hI.1 27 4 5 (-1) (0) (2) (by decide) 4 (by decide) (by decide)) (fun v671 ev671 av671 bv671 => ?_)
  refine WQ_iconst (-1) (-1) dX0_open_7 rfl rfl (fun v672 hv672 => ?_)
  have jn30_675 : ∀ (v675 : Int32), 0 ≤ v675.toInt → v675.toInt ≤ 9 → WP g mX0_open 30 [(0, .ref (ad g 5))] [.int v675] I J R (fun r I' J' R' => (XI g n L I' ∧ R' = R) ∧ r = none) := by
    intro v675 av675 bv675
    refine WP_istore_n (ls' := [(0, _), (1, _)]) dX0_open_30 (by decide) rfl ?_
    refine WP_aload_n dX0_open_31 rfl ?_
    refine WP_getr dX0_open_32 fX0_27 rfl (lyx_is hy 5 0 rfl) hT ?_
    refine WQ_getim dX0_open_35 fX0_31 rfl (lyx_is hy 27 7 rfl) ev671 ?_
    refine WQ_iconst (-1) (-1) dX0_open_38 rfl rfl (fun v677 hv677 => ?_)
    have jn61_680 : ∀ (v680 : Int32), 0 ≤ v680.toInt → v680.toInt ≤ 1000 → WP g mX0_open 61 [(0, .ref (ad g 5)), (1, .int v675)] [.int v680] I J R (fun r I' J' R' => (XI g n L I' ∧ R' = R) ∧ r = none) := by
      intro v680 av680 bv680
      refine WP_istore_n (ls' := [(0, _), (1, _), (2, _)]) dX0_open_61 (by decide) rfl ?_
      refine WQ_iconst (0) (0) dX0_open_62 rfl rfl (fun v682 hv682 => ?_)
      refine WP_istore_n (ls' := [(0, _), (1, _), (2, _), (3, _)]) dX0_open_63 (by decide) rfl ?_
      have lp64_685 : ∀ (mz : Nat) (i683 : Int32) (I684 : pI) (J685 : pJ), XI g n L I684 → 0 ≤ i683.toInt → i683.toInt ≤ 6 → (7 - i683.toInt).toNat < mz → WP g mX0_open 64 [(0, .ref (ad g 5)), (1, .int v675), (2, .int v680), (3, .int i683)] [] I684 J685 R (fun r I' J' R' => (XI g n L I' ∧ R' = R) ∧ r = none) := by
        intro mz
        induction mz with
        | zero =>
          intro i683 I684 J685 hI684 ai683 bi683 hmlp64_685
          exact absurd hmlp64_685 (Nat.not_lt_zero _)
        | succ mz ihlp64_685 =>
          intro i683 I684 J685 hI684 ai683 bi683 hmlp64_685
          have e687 : I684 (ad g 1) 1 = L := hI684.2
          have b688 := BT_get hI684.1 1 1 2 (0) (0) (900) (by decide) 1 (by decide) (by decide)
          rw [e687] at b688
          refine WP_iload_n dX0_open_64 rfl ?_
          refine WQ_bipush (6) (6) dX0_open_65 rfl rfl (fun v689 hv689 => ?_)
          refine WQ_icmp_ge 100 dX0_open_67 rfl (fun c689 => ?_) (fun c689 => ?_)
          · refine WP_aload_n dX0_open_100 rfl ?_
            refine WP_callV0 (k := 0) dX0_open_101 ⟨⟨⟨by decide, by decide⟩, zX0_pricesAsTold⟩, lX0_43, by decide, rfl, vX0_pricesAsTold.1, vX0_pricesAsTold.2⟩ (lyx_is hy 5 0 rfl) (sx_pricesAsTold_27 hy hr hT hI684  ) (Nat.le_of_ble_eq_true rfl) ?_
            intro r I691 J692 Ra hq
            obtain ⟨⟨hI691, ec⟩, rfl⟩ := hq
            rw [ec]
            clear ec Ra
            have e693 : I691 (ad g 1) 1 = L := hI691.2
            have b694 := BT_get hI691.1 1 1 2 (0) (0) (900) (by decide) 1 (by decide) (by decide)
            rw [e693] at b694
            refine WP_aload_n dX0_open_104 rfl ?_
            refine WP_callV0 (k := 0) dX0_open_105 ⟨⟨⟨by decide, by decide⟩, zX0_lossesAsTold⟩, lX0_46, by decide, rfl, vX0_lossesAsTold.1, vX0_lossesAsTold.2⟩ (lyx_is hy 5 0 rfl) (sx_lossesAsTold_27 hy hr hT hI691  ) (Nat.le_of_ble_eq_true rfl) ?_
            intro r I695 J696 Ra hq
            obtain ⟨⟨hI695, ec⟩, rfl⟩ := hq
            rw [ec]
            clear ec Ra
            have e697 : I695 (ad g 1) 1 = L := hI695.2
            have b698 := BT_get hI695.1 1 1 2 (0) (0) (900) (by decide) 1 (by decide) (by decide)
            rw [e697] at b698
            exact WP_vret dX0_open_108 rfl ⟨⟨hI695, rfl⟩, rfl⟩
          · refine WP_aload_n dX0_open_70 rfl ?_
            refine WP_getr dX0_open_71 fX0_21 rfl (lyx_is hy 5 0 rfl) (rfx hr 5 4 25 (by decide)) ?_
            refine WP_iload_n dX0_open_74 rfl ?_
            refine WP_iload_n dX0_open_75 rfl ?_
            refine WP_iload_n dX0_open_76 rfl ?_
            refine WQ_imulb (5) (9) dX0_open_77 ⟨by omega, by omega⟩ ⟨by omega, by omega⟩ (by decide) (fun v699 pv699 av699 bv699 cv699 => ?_)
            refine WQ_iast dX0_open_78 (lyx_is hy 25 13 rfl) (lyx_n hy 25 6 rfl) (by omega) (by omega) (fun I700 eI700 => ?_)
            have hI700 : XI g n L I700 := by rw [eI700]; exact (xi_r hy hI684 (c := 25) (0) (0) (45) (by decide) (Or.inl (by decide)) (by decide) (by omega) (by omega))
            have e701 : I700 (ad g 1) 1 = L := by rw [eI700, pp_ne _ _ (Or.inl (lyx_ne hy (by decide) (by decide) (by decide)))]; exact e687
            clear eI700
            refine WP_aload_n dX0_open_79 rfl ?_
            refine WP_getr dX0_open_80 fX0_24 rfl (lyx_is hy 5 0 rfl) (rfx hr 5 5 26 (by decide)) ?_
            refine WP_iload_n dX0_open_83 rfl ?_
            refine WP_iload_n dX0_open_84 rfl ?_
            refine WP_iload_n dX0_open_85 rfl ?_
            refine WP_iload_n dX0_open_86 rfl ?_
            refine WQ_imulb (5) (1000) dX0_open_87 ⟨by omega, by omega⟩ ⟨by omega, by omega⟩ (by decide) (fun v702 pv702 av702 bv702 cv702 => ?_)
            refine WQ_sipush (1000) (1000) dX0_open_88 rfl rfl (fun v703 hv703 => ?_)
            refine WQ_idivk (1000) dX0_open_91 hv703 (by decide) (by omega) (fun v704 hv704 => ?_)
            refine WQ_isub dX0_open_92 (by omega) (by omega) (fun v705 hv705 => ?_)
            refine WQ_iast dX0_open_93 (lyx_is hy 26 13 rfl) (lyx_n hy 26 6 rfl) (by omega) (by omega) (fun I706 eI706 => ?_)
            have hI706 : XI g n L I706 := by rw [eI706]; exact (xi_r hy hI700 (c := 26) (0) (0) (5) (by decide) (Or.inl (by decide)) (by decide) (by omega) (by omega))
            have e707 : I706 (ad g 1) 1 = L := by rw [eI706, pp_ne _ _ (Or.inl (lyx_ne hy (by decide) (by decide) (by decide)))]; exact e701
            clear eI706
            refine WP_iinc (ls' := [(0, _), (1, _), (2, _), (3, _)]) dX0_open_94 rfl (by decide) rfl ?_
            have hv708 : (i683 + Int32.ofInt (1)).toInt = i683.toInt + (1) := ia_n rfl (by omega) (by omega)
            generalize i683 + Int32.ofInt (1) = v708 at hv708 ⊢
            refine WP_goto 64 dX0_open_97 rfl ?_
            exact WP_sub (fc rfl (fc rfl (fc rfl (fc rfl fn)))) (ihlp64_685 v708 I706 J685 hI706 (by omega) (by omega) (by omega))
      exact WP_sub (fc rfl (fc rfl (fc rfl (fc rfl fn)))) (lp64_685 _ v682 I J hI (by omega) (by omega) (Nat.lt_succ_self _))
    refine WQ_icmp_ne 46 dX0_open_39 rfl (fun c708 => ?_) (fun c708 => ?_)
    · refine WP_aload_n dX0_open_46 rfl ?_
      refine WP_getr dX0_open_47 fX0_27 rfl (lyx_is hy 5 0 rfl) hT ?_
      refine WP_getr dX0_open_50 fX0_40 rfl (lyx_is hy 27 7 rfl) (rfx hr 27 14 37 (by decide)) ?_
      refine WP_aload_n dX0_open_53 rfl ?_
      refine WP_getr dX0_open_54 fX0_27 rfl (lyx_is hy 5 0 rfl) hT ?_
      refine WQ_getim dX0_open_57 fX0_31 rfl (lyx_is hy 27 7 rfl) ev671 ?_
      refine WQ_iald dX0_open_60 (lyx_is hy 37 13 rfl) (lyx_n hy 37 3 rfl) (by omega) (by omega) (fun q hq => BT_get hI.1 37 0 3 (0) (0) (1000) (by decide) q (Nat.zero_le _) hq) (fun v710 av710 bv710 ev710 => ?_)
      clear ev710
      exact WP_sub (fc rfl (fc rfl fn)) (jn61_680 v710 (by omega) (by omega))
    · refine WQ_iconst (0) (0) dX0_open_42 rfl rfl (fun v711 hv711 => ?_)
      refine WP_goto 61 dX0_open_43 rfl ?_
      exact WP_sub (fc rfl (fc rfl fn)) (jn61_680 v711 (by omega) (by omega))
  refine WQ_icmp_ne 15 dX0_open_8 rfl (fun c711 => ?_) (fun c711 => ?_)
  · refine WP_aload_n dX0_open_15 rfl ?_
    refine WP_getr dX0_open_16 fX0_27 rfl (lyx_is hy 5 0 rfl) hT ?_
    refine WP_getr dX0_open_19 fX0_37 rfl (lyx_is hy 27 7 rfl) (rfx hr 27 15 38 (by decide)) ?_
    refine WP_aload_n dX0_open_22 rfl ?_
    refine WP_getr dX0_open_23 fX0_27 rfl (lyx_is hy 5 0 rfl) hT ?_
    refine WQ_getim dX0_open_26 fX0_31 rfl (lyx_is hy 27 7 rfl) ev671 ?_
    refine WQ_iald dX0_open_29 (lyx_is hy 38 13 rfl) (lyx_n hy 38 3 rfl) (by omega) (by omega) (fun q hq => BT_get hI.1 38 0 3 (0) (0) (9) (by decide) q (Nat.zero_le _) hq) (fun v713 av713 bv713 ev713 => ?_)
    clear ev713
    exact WP_sub (fc rfl fn) (jn30_675 v713 (by omega) (by omega))
  · refine WQ_iconst (0) (0) dX0_open_11 rfl rfl (fun v714 hv714 => ?_)
    refine WP_goto 30 dX0_open_12 rfl ?_
    exact WP_sub (fc rfl fn) (jn30_675 v714 (by omega) (by omega))
set_option maxHeartbeats 4000000 in
set_option maxRecDepth 100000 in
theorem sx_movePrices_27 {g : GG} {n : Int} {L : Int32} (hy : LyX g)  {I : pI} {J : pJ} {R : pR} (hr : RfX g R) (hT : R (ad g 5) 0 = some (ad g 27)) (hI : XI g n L I)   : SP g mX0_movePrices [.ref (ad g 5), .ref (ad g 51)] I J R (fun r I' J' R' => (XI g n L I' ∧ R' = R) ∧ ∃ v : Int32, r = some (.int v) ∧ 0 ≤ v.toInt ∧ v.toInt ≤ 1) := by
  refine SP_of ⟨by decide, rfl⟩ (Nat.le_of_ble_eq_true rfl) ?_
  have e715 : I (ad g 1) 1 = L := hI.2
  have b716 := BT_get hI.1 1 1 2 (0) (0) (900) (by decide) 1 (by decide) (by decide)
  rw [e715] at b716
  refine WQ_iconst (0) (0) dX0_movePrices_0 rfl rfl (fun v717 hv717 => ?_)
  refine WP_istore_n (ls' := [(0, _), (1, _), (2, _)]) dX0_movePrices_1 (by decide) rfl ?_
  refine WQ_iconst (0) (0) dX0_movePrices_2 rfl rfl (fun v718 hv718 => ?_)
  refine WP_istore_n (ls' := [(0, _), (1, _), (2, _), (3, _)]) dX0_movePrices_3 (by decide) rfl ?_
  have lp4_722 : ∀ (mz : Nat) (i719 : Int32) (i720 : Int32) (I721 : pI) (J722 : pJ), XI g n L I721 → 0 ≤ i719.toInt → i719.toInt ≤ 1 → 0 ≤ i720.toInt → i720.toInt ≤ 21 → (22 - i720.toInt).toNat < mz → WP g mX0_movePrices 4 [(0, .ref (ad g 5)), (1, .ref (ad g 51)), (2, .int i719), (3, .int i720)] [] I721 J722 R (fun r I' J' R' => (XI g n L I' ∧ R' = R) ∧ ∃ v : Int32, r = some (.int v) ∧ 0 ≤ v.toInt ∧ v.toInt ≤ 1) := by
    intro mz
    induction mz with
    | zero =>
      intro i719 i720 I721 J722 hI721 ai719 bi719 ai720 bi720 hmlp4_722
      exact absurd hmlp4_722 (Nat.not_lt_zero _)
    | succ mz ihlp4_722 =>
      intro i719 i720 I721 J722 hI721 ai719 bi719 ai720 bi720 hmlp4_722
      have e724 : I721 (ad g 1) 1 = L := hI721.2
      have b725 := BT_get hI721.1 1 1 2 (0) (0) (900) (by decide) 1 (by decide) (by decide)
      rw [e724] at b725
      refine WP_iload_n dX0_movePrices_4 rfl ?_
      refine WP_aload_n dX0_movePrices_5 rfl ?_
      refine WP_getr dX0_movePrices_6 fX0_27 rfl (lyx_is hy 5 0 rfl) hT ?_
      refine WQ_geti dX0_movePrices_9 fX0_73 rfl (lyx_is hy 27 7 rfl) (BT_get hI721.1 27 2 3 (0) (0) (3) (by decide) 2 (by decide) (by decide)) (fun v726 ev726 av726 bv726 => ?_)
      refine WQ_bipush (7) (7) dX0_movePrices_12 rfl rfl (fun v727 hv727 => ?_)
      refine WQ_imulk (7) dX0_movePrices_14 hv727 (by omega) (by omega) (fun v728 hv728 => ?_)
      refine WQ_icmp_ge 111 dX0_movePrices_15 rfl (fun c728 => ?_) (fun c728 => ?_)
      · refine WP_iload_n dX0_movePrices_111 rfl ?_
        exact WP_zret dX0_movePrices_112 rfl (nar_z (by omega)) ⟨⟨hI721, rfl⟩, _, rfl, by omega, by omega⟩
      · refine WP_aload_n dX0_movePrices_18 rfl ?_
        refine WP_getr dX0_movePrices_19 fX0_27 rfl (lyx_is hy 5 0 rfl) hT ?_
        refine WP_getr dX0_movePrices_22 fX0_76 rfl (lyx_is hy 27 7 rfl) (rfx hr 27 17 40 (by decide)) ?_
        refine WP_iload_n dX0_movePrices_25 rfl ?_
        refine WQ_iald dX0_movePrices_26 (lyx_is hy 40 13 rfl) (lyx_n hy 40 21 rfl) (by omega) (by omega) (fun q hq => BT_get hI721.1 40 0 21 (-1) (0) (999) (by decide) q (Nat.zero_le _) hq) (fun v730 av730 bv730 ev730 => ?_)
        refine WP_istore (ls' := [(0, _), (1, _), (2, _), (3, _), (4, _)]) dX0_movePrices_27 (by decide) rfl ?_
        refine WP_iload dX0_movePrices_29 rfl ?_
        refine WQ_iconst (-1) (-1) dX0_movePrices_31 rfl rfl (fun v731 hv731 => ?_)
        refine WQ_icmp_eq 69 dX0_movePrices_32 rfl (fun c731 => ?_) (fun c731 => ?_)
        · refine WP_iload dX0_movePrices_69 rfl ?_
          refine WQ_iconst (-1) (-1) dX0_movePrices_71 rfl rfl (fun v733 hv733 => ?_)
          refine WQ_icmp_eq 105 dX0_movePrices_72 rfl (fun c733 => ?_) (fun c733 => False.elim (by omega))
          refine WP_iinc (ls' := [(0, _), (1, _), (2, _), (3, _), (4, _)]) dX0_movePrices_105 rfl (by decide) rfl ?_
          have hv735 : (i720 + Int32.ofInt (1)).toInt = i720.toInt + (1) := ia_n rfl (by omega) (by omega)
          generalize i720 + Int32.ofInt (1) = v735 at hv735 ⊢
          refine WP_goto 4 dX0_movePrices_108 rfl ?_
          exact WP_sub (fc rfl (fc rfl (fc rfl (fc rfl fn)))) (ihlp4_722 i719 v735 I721 J722 hI721 (by omega) (by omega) (by omega) (by omega) (by omega))
        · refine WP_aload_n dX0_movePrices_35 rfl ?_
          refine WP_iload_n dX0_movePrices_36 rfl ?_
          refine WQ_ialdu dX0_movePrices_37 (lyx_is hy 51 13 rfl) (lyx_n hy 51 21 rfl) (by omega) (by omega) (fun v736 => ?_)
          refine WP_iload dX0_movePrices_38 rfl ?_
          refine WQ_icmp_le 69 dX0_movePrices_40 rfl (fun c736 => ?_) (fun c736 => ?_)
          · refine WP_iload dX0_movePrices_69 rfl ?_
            refine WQ_iconst (-1) (-1) dX0_movePrices_71 rfl rfl (fun v738 hv738 => ?_)
            refine WQ_icmp_eq 105 dX0_movePrices_72 rfl (fun c738 => False.elim (by omega)) (fun c738 => ?_)
            refine WP_aload_n dX0_movePrices_75 rfl ?_
            refine WP_iload_n dX0_movePrices_76 rfl ?_
            refine WQ_ialdu dX0_movePrices_77 (lyx_is hy 51 13 rfl) (lyx_n hy 51 21 rfl) (by omega) (by omega) (fun v740 => ?_)
            refine WP_iload dX0_movePrices_78 rfl ?_
            refine WQ_icmp_ge 105 dX0_movePrices_80 rfl (fun c740 => ?_) (fun c740 => ?_)
            · refine WP_iinc (ls' := [(0, _), (1, _), (2, _), (3, _), (4, _)]) dX0_movePrices_105 rfl (by decide) rfl ?_
              have hv742 : (i720 + Int32.ofInt (1)).toInt = i720.toInt + (1) := ia_n rfl (by omega) (by omega)
              generalize i720 + Int32.ofInt (1) = v742 at hv742 ⊢
              refine WP_goto 4 dX0_movePrices_108 rfl ?_
              exact WP_sub (fc rfl (fc rfl (fc rfl (fc rfl fn)))) (ihlp4_722 i719 v742 I721 J722 hI721 (by omega) (by omega) (by omega) (by omega) (by omega))
            · refine WP_aload_n dX0_movePrices_83 rfl ?_
              refine WP_getr dX0_movePrices_84 fX0_9 rfl (lyx_is hy 5 0 rfl) (rfx hr 5 1 22 (by decide)) ?_
              refine WP_iload_n dX0_movePrices_87 rfl ?_
              refine WQ_iald dX0_movePrices_88 (lyx_is hy 22 13 rfl) (lyx_n hy 22 21 rfl) (by omega) (by omega) (fun q hq => BT_get hI721.1 22 0 21 (0) (0) (20) (by decide) q (Nat.zero_le _) hq) (fun v743 av743 bv743 ev743 => ?_)
              refine WQ_iconst (1) (1) dX0_movePrices_89 rfl rfl (fun v744 hv744 => ?_)
              refine WQ_icmp_le 105 dX0_movePrices_90 rfl (fun c744 => ?_) (fun c744 => ?_)
              · refine WP_iinc (ls' := [(0, _), (1, _), (2, _), (3, _), (4, _)]) dX0_movePrices_105 rfl (by decide) rfl ?_
                have hv746 : (i720 + Int32.ofInt (1)).toInt = i720.toInt + (1) := ia_n rfl (by omega) (by omega)
                generalize i720 + Int32.ofInt (1) = v746 at hv746 ⊢
                refine WP_goto 4 dX0_movePrices_108 rfl ?_
                exact WP_sub (fc rfl (fc rfl (fc rfl (fc rfl fn)))) (ihlp4_722 i719 v746 I721 J722 hI721 (by omega) (by omega) (by omega) (by omega) (by omega))
              · refine WP_aload_n dX0_movePrices_93 rfl ?_
                refine WP_getr dX0_movePrices_94 fX0_9 rfl (lyx_is hy 5 0 rfl) (rfx hr 5 1 22 (by decide)) ?_
                refine WP_iload_n dX0_movePrices_97 rfl ?_
                refine WP_dup2 dX0_movePrices_98 rfl rfl ?_
                refine WQ_ialde dX0_movePrices_99 (lyx_is hy 22 13 rfl) (lyx_n hy 22 21 rfl) (by omega) (by omega) ev743 ?_
                refine WQ_iconst (1) (1) dX0_movePrices_100 rfl rfl (fun v748 hv748 => ?_)
                refine WQ_isub dX0_movePrices_101 (by omega) (by omega) (fun v749 hv749 => ?_)
                refine WQ_iast dX0_movePrices_102 (lyx_is hy 22 13 rfl) (lyx_n hy 22 21 rfl) (by omega) (by omega) (fun I750 eI750 => ?_)
                have hI750 : XI g n L I750 := by rw [eI750]; exact (xi_r hy hI721 (c := 22) (0) (0) (20) (by decide) (Or.inl (by decide)) (by decide) (by omega) (by omega))
                have e751 : I750 (ad g 1) 1 = L := by rw [eI750, pp_ne _ _ (Or.inl (lyx_ne hy (by decide) (by decide) (by decide)))]; exact e724
                have e752 : I750 (ad g 27) 2 = v726 := by rw [eI750, pp_ne _ _ (Or.inl (lyx_ne hy (by decide) (by decide) (by decide)))]; exact ev726
                have e753 : I750 (ad g 40) i720.toNatClampNeg = v730 := by rw [eI750, pp_ne _ _ (Or.inl (lyx_ne hy (by decide) (by decide) (by decide)))]; exact ev730
                clear eI750
                refine WQ_iconst (1) (1) dX0_movePrices_103 rfl rfl (fun v754 hv754 => ?_)
                refine WP_istore_n (ls' := [(0, _), (1, _), (2, _), (3, _), (4, _)]) dX0_movePrices_104 (by decide) rfl ?_
                refine WP_iinc (ls' := [(0, _), (1, _), (2, _), (3, _), (4, _)]) dX0_movePrices_105 rfl (by decide) rfl ?_
                have hv755 : (i720 + Int32.ofInt (1)).toInt = i720.toInt + (1) := ia_n rfl (by omega) (by omega)
                generalize i720 + Int32.ofInt (1) = v755 at hv755 ⊢
                refine WP_goto 4 dX0_movePrices_108 rfl ?_
                exact WP_sub (fc rfl (fc rfl (fc rfl (fc rfl fn)))) (ihlp4_722 v754 v755 I750 J722 hI750 (by omega) (by omega) (by omega) (by omega) (by omega))
          · refine WP_aload_n dX0_movePrices_43 rfl ?_
            refine WP_getr dX0_movePrices_44 fX0_9 rfl (lyx_is hy 5 0 rfl) (rfx hr 5 1 22 (by decide)) ?_
            refine WP_iload_n dX0_movePrices_47 rfl ?_
            refine WQ_iald dX0_movePrices_48 (lyx_is hy 22 13 rfl) (lyx_n hy 22 21 rfl) (by omega) (by omega) (fun q hq => BT_get hI721.1 22 0 21 (0) (0) (20) (by decide) q (Nat.zero_le _) hq) (fun v756 av756 bv756 ev756 => ?_)
            refine WQ_bipush (20) (20) dX0_movePrices_49 rfl rfl (fun v757 hv757 => ?_)
            refine WQ_icmp_ge 69 dX0_movePrices_51 rfl (fun c757 => ?_) (fun c757 => ?_)
            · refine WP_iload dX0_movePrices_69 rfl ?_
              refine WQ_iconst (-1) (-1) dX0_movePrices_71 rfl rfl (fun v759 hv759 => ?_)
              refine WQ_icmp_eq 105 dX0_movePrices_72 rfl (fun c759 => False.elim (by omega)) (fun c759 => ?_)
              refine WP_aload_n dX0_movePrices_75 rfl ?_
              refine WP_iload_n dX0_movePrices_76 rfl ?_
              refine WQ_ialdu dX0_movePrices_77 (lyx_is hy 51 13 rfl) (lyx_n hy 51 21 rfl) (by omega) (by omega) (fun v761 => ?_)
              refine WP_iload dX0_movePrices_78 rfl ?_
              refine WQ_icmp_ge 105 dX0_movePrices_80 rfl (fun c761 => ?_) (fun c761 => ?_)
              · refine WP_iinc (ls' := [(0, _), (1, _), (2, _), (3, _), (4, _)]) dX0_movePrices_105 rfl (by decide) rfl ?_
                have hv763 : (i720 + Int32.ofInt (1)).toInt = i720.toInt + (1) := ia_n rfl (by omega) (by omega)
                generalize i720 + Int32.ofInt (1) = v763 at hv763 ⊢
                refine WP_goto 4 dX0_movePrices_108 rfl ?_
                exact WP_sub (fc rfl (fc rfl (fc rfl (fc rfl fn)))) (ihlp4_722 i719 v763 I721 J722 hI721 (by omega) (by omega) (by omega) (by omega) (by omega))
              · refine WP_aload_n dX0_movePrices_83 rfl ?_
                refine WP_getr dX0_movePrices_84 fX0_9 rfl (lyx_is hy 5 0 rfl) (rfx hr 5 1 22 (by decide)) ?_
                refine WP_iload_n dX0_movePrices_87 rfl ?_
                refine WQ_ialde dX0_movePrices_88 (lyx_is hy 22 13 rfl) (lyx_n hy 22 21 rfl) (by omega) (by omega) ev756 ?_
                refine WQ_iconst (1) (1) dX0_movePrices_89 rfl rfl (fun v765 hv765 => ?_)
                refine WQ_icmp_le 105 dX0_movePrices_90 rfl (fun c765 => False.elim (by omega)) (fun c765 => ?_)
                refine WP_aload_n dX0_movePrices_93 rfl ?_
                refine WP_getr dX0_movePrices_94 fX0_9 rfl (lyx_is hy 5 0 rfl) (rfx hr 5 1 22 (by decide)) ?_
                refine WP_iload_n dX0_movePrices_97 rfl ?_
                refine WP_dup2 dX0_movePrices_98 rfl rfl ?_
                refine WQ_ialde dX0_movePrices_99 (lyx_is hy 22 13 rfl) (lyx_n hy 22 21 rfl) (by omega) (by omega) ev756 ?_
                refine WQ_iconst (1) (1) dX0_movePrices_100 rfl rfl (fun v768 hv768 => ?_)
                refine WQ_isub dX0_movePrices_101 (by omega) (by omega) (fun v769 hv769 => ?_)
                refine WQ_iast dX0_movePrices_102 (lyx_is hy 22 13 rfl) (lyx_n hy 22 21 rfl) (by omega) (by omega) (fun I770 eI770 => ?_)
                have hI770 : XI g n L I770 := by rw [eI770]; exact (xi_r hy hI721 (c := 22) (0) (0) (20) (by decide) (Or.inl (by decide)) (by decide) (by omega) (by omega))
                have e771 : I770 (ad g 1) 1 = L := by rw [eI770, pp_ne _ _ (Or.inl (lyx_ne hy (by decide) (by decide) (by decide)))]; exact e724
                have e772 : I770 (ad g 27) 2 = v726 := by rw [eI770, pp_ne _ _ (Or.inl (lyx_ne hy (by decide) (by decide) (by decide)))]; exact ev726
                have e773 : I770 (ad g 40) i720.toNatClampNeg = v730 := by rw [eI770, pp_ne _ _ (Or.inl (lyx_ne hy (by decide) (by decide) (by decide)))]; exact ev730
                clear eI770
                refine WQ_iconst (1) (1) dX0_movePrices_103 rfl rfl (fun v774 hv774 => ?_)
                refine WP_istore_n (ls' := [(0, _), (1, _), (2, _), (3, _), (4, _)]) dX0_movePrices_104 (by decide) rfl ?_
                refine WP_iinc (ls' := [(0, _), (1, _), (2, _), (3, _), (4, _)]) dX0_movePrices_105 rfl (by decide) rfl ?_
                have hv775 : (i720 + Int32.ofInt (1)).toInt = i720.toInt + (1) := ia_n rfl (by omega) (by omega)
                generalize i720 + Int32.ofInt (1) = v775 at hv775 ⊢
                refine WP_goto 4 dX0_movePrices_108 rfl ?_
                exact WP_sub (fc rfl (fc rfl (fc rfl (fc rfl fn)))) (ihlp4_722 v774 v775 I770 J722 hI770 (by omega) (by omega) (by omega) (by omega) (by omega))
            · refine WP_aload_n dX0_movePrices_54 rfl ?_
              refine WP_getr dX0_movePrices_55 fX0_9 rfl (lyx_is hy 5 0 rfl) (rfx hr 5 1 22 (by decide)) ?_
              refine WP_iload_n dX0_movePrices_58 rfl ?_
              refine WP_dup2 dX0_movePrices_59 rfl rfl ?_
              refine WQ_ialde dX0_movePrices_60 (lyx_is hy 22 13 rfl) (lyx_n hy 22 21 rfl) (by omega) (by omega) ev756 ?_
              refine WQ_iconst (1) (1) dX0_movePrices_61 rfl rfl (fun v777 hv777 => ?_)
              refine WQ_iadd dX0_movePrices_62 (by omega) (by omega) (fun v778 hv778 => ?_)
              refine WQ_iast dX0_movePrices_63 (lyx_is hy 22 13 rfl) (lyx_n hy 22 21 rfl) (by omega) (by omega) (fun I779 eI779 => ?_)
              have hI779 : XI g n L I779 := by rw [eI779]; exact (xi_r hy hI721 (c := 22) (0) (0) (20) (by decide) (Or.inl (by decide)) (by decide) (by omega) (by omega))
              have e780 : I779 (ad g 1) 1 = L := by rw [eI779, pp_ne _ _ (Or.inl (lyx_ne hy (by decide) (by decide) (by decide)))]; exact e724
              have e781 : I779 (ad g 27) 2 = v726 := by rw [eI779, pp_ne _ _ (Or.inl (lyx_ne hy (by decide) (by decide) (by decide)))]; exact ev726
              have e782 : I779 (ad g 40) i720.toNatClampNeg = v730 := by rw [eI779, pp_ne _ _ (Or.inl (lyx_ne hy (by decide) (by decide) (by decide)))]; exact ev730
              clear eI779
              refine WQ_iconst (1) (1) dX0_movePrices_64 rfl rfl (fun v783 hv783 => ?_)
              refine WP_istore_n (ls' := [(0, _), (1, _), (2, _), (3, _), (4, _)]) dX0_movePrices_65 (by decide) rfl ?_
              refine WP_goto 105 dX0_movePrices_66 rfl ?_
              refine WP_iinc (ls' := [(0, _), (1, _), (2, _), (3, _), (4, _)]) dX0_movePrices_105 rfl (by decide) rfl ?_
              have hv784 : (i720 + Int32.ofInt (1)).toInt = i720.toInt + (1) := ia_n rfl (by omega) (by omega)
              generalize i720 + Int32.ofInt (1) = v784 at hv784 ⊢
              refine WP_goto 4 dX0_movePrices_108 rfl ?_
              exact WP_sub (fc rfl (fc rfl (fc rfl (fc rfl fn)))) (ihlp4_722 v783 v784 I779 J722 hI779 (by omega) (by omega) (by omega) (by omega) (by omega))
  exact WP_sub (fc rfl (fc rfl (fc rfl (fc rfl fn)))) (lp4_722 _ v717 v718 I J hI (by omega) (by omega) (by omega) (by omega) (Nat.lt_succ_self _))
