set_option maxHeartbeats 4000000 in
set_option maxRecDepth 100000 in
theorem sx_stampsOf {g : GG} {n : Int} {L : Int32} (hy : LyX g)  {I : pI} {J : pJ} {R : pR} (hr : RfX g R) (hI : XI g n L I) (co : Int32) (lo : Int32) (co_lo : 0 ≤ co.toInt) (co_hi : co.toInt ≤ 999) (lo_lo : 0 ≤ lo.toInt) (lo_hi : lo.toInt ≤ 900) : SP g mX10_stampsOf [.int co, .int lo] I J R (fun r I' J' R' => (I' = I ∧ J' = J ∧ R' = R) ∧ ∃ v : Int32, r = some (.int v) ∧ 0 ≤ v.toInt ∧ v.toInt ≤ 999 ∧ v.toInt ≤ co.toInt) := by
  refine SP_of ⟨by decide, rfl⟩ (Nat.le_of_ble_eq_true rfl) ?_
  have e329 : I (ad g 1) 1 = L := hI.2
  have b330 := BT_get hI.1 1 1 2 (0) (0) (900) (by decide) 1 (by decide) (by decide)
  rw [e329] at b330
  refine WP_iload_n dX10_stampsOf_0 rfl ?_
  refine WP_iload_n dX10_stampsOf_1 rfl ?_
  refine WQ_imulb (999) (900) dX10_stampsOf_2 ⟨by omega, by omega⟩ ⟨by omega, by omega⟩ (by decide) (fun v331 pv331 av331 bv331 cv331 => ?_)
  refine WQ_sipush (999) (999) dX10_stampsOf_3 rfl rfl (fun v332 hv332 => ?_)
  refine WQ_iadd dX10_stampsOf_6 (by omega) (by omega) (fun v333 hv333 => ?_)
  refine WQ_sipush (1000) (1000) dX10_stampsOf_7 rfl rfl (fun v334 hv334 => ?_)
  refine WQ_idivk (1000) dX10_stampsOf_10 hv334 (by decide) (by omega) (fun v335 hv335 => ?_)
  exact WP_iret dX10_stampsOf_11 rfl ⟨⟨rfl, rfl, rfl⟩, _, rfl, by omega, by omega, by omega⟩
set_option maxHeartbeats 4000000 in
set_option maxRecDepth 100000 in
theorem sx_within {g : GG} {n : Int} {L : Int32} (hy : LyX g)  {I : pI} {J : pJ} {R : pR} (hr : RfX g R) (hI : XI g n L I) (a : Int32) (lo : Int32) (hi : Int32)  : SP g mX10_within [.int a, .int lo, .int hi] I J R (fun r I' J' R' => (I' = I ∧ J' = J ∧ R' = R) ∧ ∃ v : Int32, r = some (.int v) ∧ 0 ≤ v.toInt ∧ v.toInt ≤ 1 ∧ (v.toInt = 1 ↔ lo.toInt ≤ a.toInt ∧ a.toInt ≤ hi.toInt)) := by
  refine SP_of ⟨by decide, rfl⟩ (Nat.le_of_ble_eq_true rfl) ?_
  have e346 : I (ad g 1) 1 = L := hI.2
  have b347 := BT_get hI.1 1 1 2 (0) (0) (900) (by decide) 1 (by decide) (by decide)
  rw [e346] at b347
  refine WP_iload_n dX10_within_0 rfl ?_
  refine WP_iload_n dX10_within_1 rfl ?_
  refine WQ_icmp_lt 14 dX10_within_2 rfl (fun c347 => ?_) (fun c347 => ?_)
  · refine WQ_iconst (0) (0) dX10_within_14 rfl rfl (fun v349 hv349 => ?_)
    exact WP_zret dX10_within_15 rfl (nar_z (by omega)) ⟨⟨rfl, rfl, rfl⟩, _, rfl, by omega, by omega, by omega⟩
  · refine WP_iload_n dX10_within_5 rfl ?_
    refine WP_iload_n dX10_within_6 rfl ?_
    refine WQ_icmp_gt 14 dX10_within_7 rfl (fun c349 => ?_) (fun c349 => ?_)
    · refine WQ_iconst (0) (0) dX10_within_14 rfl rfl (fun v351 hv351 => ?_)
      exact WP_zret dX10_within_15 rfl (nar_z (by omega)) ⟨⟨rfl, rfl, rfl⟩, _, rfl, by omega, by omega, by omega⟩
    · refine WQ_iconst (1) (1) dX10_within_10 rfl rfl (fun v352 hv352 => ?_)
      refine WP_goto 15 dX10_within_11 rfl ?_
      exact WP_zret dX10_within_15 rfl (nar_z (by omega)) ⟨⟨rfl, rfl, rfl⟩, _, rfl, by omega, by omega, by omega⟩
set_option maxHeartbeats 4000000 in
set_option maxRecDepth 100000 in
theorem sx_isDay {g : GG} {n : Int} {L : Int32} (hy : LyX g)  {I : pI} {J : pJ} {R : pR} (hr : RfX g R) (hI : XI g n L I) (a : Int32)  : SP g mX10_isDay [.int a] I J R (fun r I' J' R' => (I' = I ∧ J' = J ∧ R' = R) ∧ ∃ v : Int32, r = some (.int v) ∧ 0 ≤ v.toInt ∧ v.toInt ≤ 1 ∧ (v.toInt = 1 ↔ 0 ≤ a.toInt ∧ a.toInt < 7)) := by
  refine SP_of ⟨by decide, rfl⟩ (Nat.le_of_ble_eq_true rfl) ?_
  have e353 : I (ad g 1) 1 = L := hI.2
  have b354 := BT_get hI.1 1 1 2 (0) (0) (900) (by decide) 1 (by decide) (by decide)
  rw [e353] at b354
  refine WP_iload_n dX10_isDay_0 rfl ?_
  refine WQ_if_lt 14 dX10_isDay_1 rfl (fun c354 => ?_) (fun c354 => ?_)
  · refine WQ_iconst (0) (0) dX10_isDay_14 rfl rfl (fun v356 hv356 => ?_)
    exact WP_zret dX10_isDay_15 rfl (nar_z (by omega)) ⟨⟨rfl, rfl, rfl⟩, _, rfl, by omega, by omega, by omega⟩
  · refine WP_iload_n dX10_isDay_4 rfl ?_
    refine WQ_bipush (7) (7) dX10_isDay_5 rfl rfl (fun v357 hv357 => ?_)
    refine WQ_icmp_ge 14 dX10_isDay_7 rfl (fun c357 => ?_) (fun c357 => ?_)
    · refine WQ_iconst (0) (0) dX10_isDay_14 rfl rfl (fun v359 hv359 => ?_)
      exact WP_zret dX10_isDay_15 rfl (nar_z (by omega)) ⟨⟨rfl, rfl, rfl⟩, _, rfl, by omega, by omega, by omega⟩
    · refine WQ_iconst (1) (1) dX10_isDay_10 rfl rfl (fun v360 hv360 => ?_)
      refine WP_goto 15 dX10_isDay_11 rfl ?_
      exact WP_zret dX10_isDay_15 rfl (nar_z (by omega)) ⟨⟨rfl, rfl, rfl⟩, _, rfl, by omega, by omega, by omega⟩
set_option maxHeartbeats 4000000 in
set_option maxRecDepth 100000 in
theorem sx_isHeld {g : GG} {n : Int} {L : Int32} (hy : LyX g)  {I : pI} {J : pJ} {R : pR} (hr : RfX g R) (hI : XI g n L I) (a : Int32) (b : Int32)  : SP g mX10_isHeld [.int a, .int b] I J R (fun r I' J' R' => (I' = I ∧ J' = J ∧ R' = R) ∧ ∃ v : Int32, r = some (.int v) ∧ 0 ≤ v.toInt ∧ v.toInt ≤ 1 ∧ (v.toInt = 1 ↔ (0 ≤ a.toInt ∧ a.toInt ≤ 60) ∧ (0 ≤ b.toInt ∧ b.toInt ≤ 5))) := by
  refine SP_of ⟨by decide, rfl⟩ (Nat.le_of_ble_eq_true rfl) ?_
  have e361 : I (ad g 1) 1 = L := hI.2
  have b362 := BT_get hI.1 1 1 2 (0) (0) (900) (by decide) 1 (by decide) (by decide)
  rw [e361] at b362
  refine WP_iload_n dX10_isHeld_0 rfl ?_
  refine WQ_iconst (0) (0) dX10_isHeld_1 rfl rfl (fun v363 hv363 => ?_)
  refine WQ_bipush (60) (60) dX10_isHeld_2 rfl rfl (fun v364 hv364 => ?_)
  refine WP_callS3 dX10_isHeld_4 ⟨⟨⟨by decide, by decide⟩, zX10_within⟩, lX10_206, tX10_within⟩ (sx_within hy hr hI a v363 v364   ) (Nat.le_of_ble_eq_true rfl) ?_
  intro r Ia Ja Ra hq
  obtain ⟨⟨ea, eb, ec⟩, v365, rfl, av365, bv365, cv365⟩ := hq
  show WP _ _ _ _ (.int _ :: _) _ _ _ _
  rw [ea, eb, ec]
  clear ea eb ec Ia Ja Ra
  refine WQ_if_eq 23 dX10_isHeld_7 rfl (fun c365 => ?_) (fun c365 => ?_)
  · refine WQ_iconst (0) (0) dX10_isHeld_23 rfl rfl (fun v367 hv367 => ?_)
    exact WP_zret dX10_isHeld_24 rfl (nar_z (by omega)) ⟨⟨rfl, rfl, rfl⟩, _, rfl, by omega, by omega, by omega⟩
  · refine WP_iload_n dX10_isHeld_10 rfl ?_
    refine WQ_iconst (0) (0) dX10_isHeld_11 rfl rfl (fun v368 hv368 => ?_)
    refine WQ_iconst (5) (5) dX10_isHeld_12 rfl rfl (fun v369 hv369 => ?_)
    refine WP_callS3 dX10_isHeld_13 ⟨⟨⟨by decide, by decide⟩, zX10_within⟩, lX10_206, tX10_within⟩ (sx_within hy hr hI b v368 v369   ) (Nat.le_of_ble_eq_true rfl) ?_
    intro r Ia Ja Ra hq
    obtain ⟨⟨ea, eb, ec⟩, v370, rfl, av370, bv370, cv370⟩ := hq
    show WP _ _ _ _ (.int _ :: _) _ _ _ _
    rw [ea, eb, ec]
    clear ea eb ec Ia Ja Ra
    refine WQ_if_eq 23 dX10_isHeld_16 rfl (fun c370 => ?_) (fun c370 => ?_)
    · refine WQ_iconst (0) (0) dX10_isHeld_23 rfl rfl (fun v372 hv372 => ?_)
      exact WP_zret dX10_isHeld_24 rfl (nar_z (by omega)) ⟨⟨rfl, rfl, rfl⟩, _, rfl, by omega, by omega, by omega⟩
    · refine WQ_iconst (1) (1) dX10_isHeld_19 rfl rfl (fun v373 hv373 => ?_)
      refine WP_goto 24 dX10_isHeld_20 rfl ?_
      exact WP_zret dX10_isHeld_24 rfl (nar_z (by omega)) ⟨⟨rfl, rfl, rfl⟩, _, rfl, by omega, by omega, by omega⟩
set_option maxHeartbeats 4000000 in
set_option maxRecDepth 100000 in
theorem sx_isWay {g : GG} {n : Int} {L : Int32} (hy : LyX g)  {I : pI} {J : pJ} {R : pR} (hr : RfX g R) (hI : XI g n L I) (a : Int32)  : SP g mX10_isWay [.int a] I J R (fun r I' J' R' => (I' = I ∧ J' = J ∧ R' = R) ∧ ∃ v : Int32, r = some (.int v) ∧ 0 ≤ v.toInt ∧ v.toInt ≤ 1 ∧ (v.toInt = 1 ↔ 0 ≤ a.toInt ∧ a.toInt ≤ 4)) := by
  refine SP_of ⟨by decide, rfl⟩ (Nat.le_of_ble_eq_true rfl) ?_
  have e374 : I (ad g 1) 1 = L := hI.2
  have b375 := BT_get hI.1 1 1 2 (0) (0) (900) (by decide) 1 (by decide) (by decide)
  rw [e374] at b375
  refine WP_iload_n dX10_isWay_0 rfl ?_
  refine WQ_iconst (0) (0) dX10_isWay_1 rfl rfl (fun v376 hv376 => ?_)
  refine WQ_iconst (4) (4) dX10_isWay_2 rfl rfl (fun v377 hv377 => ?_)
  refine WP_callS3 dX10_isWay_3 ⟨⟨⟨by decide, by decide⟩, zX10_within⟩, lX10_206, tX10_within⟩ (sx_within hy hr hI a v376 v377   ) (Nat.le_of_ble_eq_true rfl) ?_
  intro r Ia Ja Ra hq
  obtain ⟨⟨ea, eb, ec⟩, v378, rfl, av378, bv378, cv378⟩ := hq
  show WP _ _ _ _ (.int _ :: _) _ _ _ _
  rw [ea, eb, ec]
  clear ea eb ec Ia Ja Ra
  exact WP_zret dX10_isWay_6 rfl (nar_z (by omega)) ⟨⟨rfl, rfl, rfl⟩, _, rfl, by omega, by omega, by omega⟩
set_option maxHeartbeats 4000000 in
set_option maxRecDepth 100000 in
theorem sx_isWeeks {g : GG} {n : Int} {L : Int32} (hy : LyX g)  {I : pI} {J : pJ} {R : pR} (hr : RfX g R) (hI : XI g n L I) (a : Int32)  : SP g mX10_isWeeks [.int a] I J R (fun r I' J' R' => (I' = I ∧ J' = J ∧ R' = R) ∧ ∃ v : Int32, r = some (.int v) ∧ 0 ≤ v.toInt ∧ v.toInt ≤ 1 ∧ (v.toInt = 1 ↔ 1 ≤ a.toInt ∧ a.toInt ≤ 4)) := by
  refine SP_of ⟨by decide, rfl⟩ (Nat.le_of_ble_eq_true rfl) ?_
  have e379 : I (ad g 1) 1 = L := hI.2
  have b380 := BT_get hI.1 1 1 2 (0) (0) (900) (by decide) 1 (by decide) (by decide)
  rw [e379] at b380
  refine WP_iload_n dX10_isWeeks_0 rfl ?_
  refine WQ_iconst (1) (1) dX10_isWeeks_1 rfl rfl (fun v381 hv381 => ?_)
  refine WQ_iconst (4) (4) dX10_isWeeks_2 rfl rfl (fun v382 hv382 => ?_)
  refine WP_callS3 dX10_isWeeks_3 ⟨⟨⟨by decide, by decide⟩, zX10_within⟩, lX10_206, tX10_within⟩ (sx_within hy hr hI a v381 v382   ) (Nat.le_of_ble_eq_true rfl) ?_
  intro r Ia Ja Ra hq
  obtain ⟨⟨ea, eb, ec⟩, v383, rfl, av383, bv383, cv383⟩ := hq
  show WP _ _ _ _ (.int _ :: _) _ _ _ _
  rw [ea, eb, ec]
  clear ea eb ec Ia Ja Ra
  exact WP_zret dX10_isWeeks_6 rfl (nar_z (by omega)) ⟨⟨rfl, rfl, rfl⟩, _, rfl, by omega, by omega, by omega⟩
set_option maxHeartbeats 4000000 in
set_option maxRecDepth 100000 in
theorem sx_isMeeting {g : GG} {n : Int} {L : Int32} (hy : LyX g)  {I : pI} {J : pJ} {R : pR} (hr : RfX g R) (hI : XI g n L I) (a : Int32) (b : Int32) (c : Int32)  : SP g mX10_isMeeting [.int a, .int b, .int c] I J R (fun r I' J' R' => (I' = I ∧ J' = J ∧ R' = R) ∧ ∃ v : Int32, r = some (.int v) ∧ 0 ≤ v.toInt ∧ v.toInt ≤ 1 ∧ (v.toInt = 1 ↔ (0 ≤ a.toInt ∧ a.toInt ≤ 100) ∧ (0 ≤ b.toInt ∧ b.toInt ≤ 900) ∧ (0 ≤ c.toInt ∧ c.toInt ≤ 40))) := by
  refine SP_of ⟨by decide, rfl⟩ (Nat.le_of_ble_eq_true rfl) ?_
  have e384 : I (ad g 1) 1 = L := hI.2
  have b385 := BT_get hI.1 1 1 2 (0) (0) (900) (by decide) 1 (by decide) (by decide)
  rw [e384] at b385
  refine WP_iload_n dX10_isMeeting_0 rfl ?_
  refine WQ_iconst (0) (0) dX10_isMeeting_1 rfl rfl (fun v386 hv386 => ?_)
  refine WQ_bipush (100) (100) dX10_isMeeting_2 rfl rfl (fun v387 hv387 => ?_)
  refine WP_callS3 dX10_isMeeting_4 ⟨⟨⟨by decide, by decide⟩, zX10_within⟩, lX10_206, tX10_within⟩ (sx_within hy hr hI a v386 v387   ) (Nat.le_of_ble_eq_true rfl) ?_
  intro r Ia Ja Ra hq
  obtain ⟨⟨ea, eb, ec⟩, v388, rfl, av388, bv388, cv388⟩ := hq
  show WP _ _ _ _ (.int _ :: _) _ _ _ _
  rw [ea, eb, ec]
  clear ea eb ec Ia Ja Ra
  refine WQ_if_eq 35 dX10_isMeeting_7 rfl (fun c388 => ?_) (fun c388 => ?_)
  · refine WQ_iconst (0) (0) dX10_isMeeting_35 rfl rfl (fun v390 hv390 => ?_)
    exact WP_zret dX10_isMeeting_36 rfl (nar_z (by omega)) ⟨⟨rfl, rfl, rfl⟩, _, rfl, by omega, by omega, by omega⟩
  · refine WP_iload_n dX10_isMeeting_10 rfl ?_
    refine WQ_iconst (0) (0) dX10_isMeeting_11 rfl rfl (fun v391 hv391 => ?_)
    refine WQ_sipush (900) (900) dX10_isMeeting_12 rfl rfl (fun v392 hv392 => ?_)
    refine WP_callS3 dX10_isMeeting_15 ⟨⟨⟨by decide, by decide⟩, zX10_within⟩, lX10_206, tX10_within⟩ (sx_within hy hr hI b v391 v392   ) (Nat.le_of_ble_eq_true rfl) ?_
    intro r Ia Ja Ra hq
    obtain ⟨⟨ea, eb, ec⟩, v393, rfl, av393, bv393, cv393⟩ := hq
    show WP _ _ _ _ (.int _ :: _) _ _ _ _
    rw [ea, eb, ec]
    clear ea eb ec Ia Ja Ra
    refine WQ_if_eq 35 dX10_isMeeting_18 rfl (fun c393 => ?_) (fun c393 => ?_)
    · refine WQ_iconst (0) (0) dX10_isMeeting_35 rfl rfl (fun v395 hv395 => ?_)
      exact WP_zret dX10_isMeeting_36 rfl (nar_z (by omega)) ⟨⟨rfl, rfl, rfl⟩, _, rfl, by omega, by omega, by omega⟩
    · refine WP_iload_n dX10_isMeeting_21 rfl ?_
      refine WQ_iconst (0) (0) dX10_isMeeting_22 rfl rfl (fun v396 hv396 => ?_)
      refine WQ_bipush (40) (40) dX10_isMeeting_23 rfl rfl (fun v397 hv397 => ?_)
      refine WP_callS3 dX10_isMeeting_25 ⟨⟨⟨by decide, by decide⟩, zX10_within⟩, lX10_206, tX10_within⟩ (sx_within hy hr hI c v396 v397   ) (Nat.le_of_ble_eq_true rfl) ?_
      intro r Ia Ja Ra hq
      obtain ⟨⟨ea, eb, ec⟩, v398, rfl, av398, bv398, cv398⟩ := hq
      show WP _ _ _ _ (.int _ :: _) _ _ _ _
      rw [ea, eb, ec]
      clear ea eb ec Ia Ja Ra
      refine WQ_if_eq 35 dX10_isMeeting_28 rfl (fun c398 => ?_) (fun c398 => ?_)
      · refine WQ_iconst (0) (0) dX10_isMeeting_35 rfl rfl (fun v400 hv400 => ?_)
        exact WP_zret dX10_isMeeting_36 rfl (nar_z (by omega)) ⟨⟨rfl, rfl, rfl⟩, _, rfl, by omega, by omega, by omega⟩
      · refine WQ_iconst (1) (1) dX10_isMeeting_31 rfl rfl (fun v401 hv401 => ?_)
        refine WP_goto 36 dX10_isMeeting_32 rfl ?_
        exact WP_zret dX10_isMeeting_36 rfl (nar_z (by omega)) ⟨⟨rfl, rfl, rfl⟩, _, rfl, by omega, by omega, by omega⟩
set_option maxHeartbeats 4000000 in
set_option maxRecDepth 100000 in
theorem sx_stampAll {g : GG} {n : Int} {L : Int32} (hy : LyX g)  {I : pI} {J : pJ} {R : pR} (hr : RfX g R) (hI : XI g n L I)   : SP g mX0_stampAll [.ref (ad g 5)] I J R (fun r I' J' R' => (XI g n L I' ∧ R' = R ∧ fz 74 g [24] I I' ∧ fz 74 g [] J J') ∧ r = none) := by
  refine SP_of ⟨by decide, rfl⟩ (Nat.le_of_ble_eq_true rfl) ?_
  have e402 : I (ad g 1) 1 = L := hI.2
  have b403 := BT_get hI.1 1 1 2 (0) (0) (900) (by decide) 1 (by decide) (by decide)
  rw [e402] at b403
  have fr0 : fz 74 g [24] I I := fz_rf
  have frj0 : fz 74 g [] J J := fz_rf
  refine WQ_iconst (0) (0) dX0_stampAll_0 rfl rfl (fun v404 hv404 => ?_)
  refine WP_istore_n (ls' := [(0, _), (1, _)]) dX0_stampAll_1 (by decide) rfl ?_
  have lp2_407 : ∀ (mz : Nat) (i405 : Int32) (I406 : pI) (J407 : pJ), XI g n L I406 → fz 74 g [24] I I406 → fz 74 g [] J J407 → 0 ≤ i405.toInt → i405.toInt ≤ 7 → (8 - i405.toInt).toNat < mz → WP g mX0_stampAll 2 [(0, .ref (ad g 5)), (1, .int i405)] [] I406 J407 R (fun r I' J' R' => (XI g n L I' ∧ R' = R ∧ fz 74 g [24] I I' ∧ fz 74 g [] J J') ∧ r = none) := by
    intro mz
    induction mz with
    | zero =>
      intro i405 I406 J407 hI406 fiI406 fjJ407 ai405 bi405 hmlp2_407
      exact absurd hmlp2_407 (Nat.not_lt_zero _)
    | succ mz ihlp2_407 =>
      intro i405 I406 J407 hI406 fiI406 fjJ407 ai405 bi405 hmlp2_407
      have e409 : I406 (ad g 1) 1 = L := hI406.2
      have b410 := BT_get hI406.1 1 1 2 (0) (0) (900) (by decide) 1 (by decide) (by decide)
      rw [e409] at b410
      refine WP_iload_n dX0_stampAll_2 rfl ?_
      refine WQ_bipush (7) (7) dX0_stampAll_3 rfl rfl (fun v411 hv411 => ?_)
      refine WQ_icmp_ge 51 dX0_stampAll_5 rfl (fun c411 => ?_) (fun c411 => ?_)
      · exact WP_vret dX0_stampAll_51 rfl ⟨⟨hI406, rfl, fiI406, fjJ407⟩, rfl⟩
      · refine WQ_iconst (0) (0) dX0_stampAll_8 rfl rfl (fun v413 hv413 => ?_)
        refine WP_istore_n (ls' := [(0, _), (1, _), (2, _)]) dX0_stampAll_9 (by decide) rfl ?_
        have lp10_416 : ∀ (mz : Nat) (i414 : Int32) (I415 : pI) (J416 : pJ), XI g n L I415 → fz 74 g [24] I I415 → fz 74 g [] J J416 → 0 ≤ i414.toInt → i414.toInt ≤ 61 → (62 - i414.toInt).toNat < mz → WP g mX0_stampAll 10 [(0, .ref (ad g 5)), (1, .int i405), (2, .int i414)] [] I415 J416 R (fun r I' J' R' => (XI g n L I' ∧ R' = R ∧ fz 74 g [24] I I' ∧ fz 74 g [] J J') ∧ r = none) := by
          intro mz
          induction mz with
          | zero =>
            intro i414 I415 J416 hI415 fiI415 fjJ416 ai414 bi414 hmlp10_416
            exact absurd hmlp10_416 (Nat.not_lt_zero _)
          | succ mz ihlp10_416 =>
            intro i414 I415 J416 hI415 fiI415 fjJ416 ai414 bi414 hmlp10_416
            have e418 : I415 (ad g 1) 1 = L := hI415.2
            have b419 := BT_get hI415.1 1 1 2 (0) (0) (900) (by decide) 1 (by decide) (by decide)
            rw [e418] at b419
            refine WP_iload_n dX0_stampAll_10 rfl ?_
            refine WQ_bipush (61) (61) dX0_stampAll_11 rfl rfl (fun v420 hv420 => ?_)
            refine WQ_icmp_ge 45 dX0_stampAll_13 rfl (fun c420 => ?_) (fun c420 => ?_)
            · refine WP_iinc (ls' := [(0, _), (1, _), (2, _)]) dX0_stampAll_45 rfl (by decide) rfl ?_
              have hv422 : (i405 + Int32.ofInt (1)).toInt = i405.toInt + (1) := ia_n rfl (by omega) (by omega)
              generalize i405 + Int32.ofInt (1) = v422 at hv422 ⊢
              refine WP_goto 2 dX0_stampAll_48 rfl ?_
              exact WP_sub (fc rfl (fc rfl fn)) (ihlp2_407 v422 I415 J416 hI415 fiI415 fjJ416 (by omega) (by omega) (by omega))
            · refine WP_aload_n dX0_stampAll_16 rfl ?_
              refine WP_getr dX0_stampAll_17 fX0_18 rfl (lyx_is hy 5 0 rfl) (rfx hr 5 3 24 (by decide)) ?_
              refine WP_iload_n dX0_stampAll_20 rfl ?_
              refine WQ_bipush (61) (61) dX0_stampAll_21 rfl rfl (fun v423 hv423 => ?_)
              refine WQ_imulk (61) dX0_stampAll_23 hv423 (by omega) (by omega) (fun v424 hv424 => ?_)
              refine WP_iload_n dX0_stampAll_24 rfl ?_
              refine WQ_iadd dX0_stampAll_25 (by omega) (by omega) (fun v425 hv425 => ?_)
              refine WP_iload_n dX0_stampAll_26 rfl ?_
              refine WP_iload_n dX0_stampAll_27 rfl ?_
              refine WP_aload_n dX0_stampAll_28 rfl ?_
              refine WP_getr dX0_stampAll_29 fX0_15 rfl (lyx_is hy 5 0 rfl) (rfx hr 5 2 23 (by decide)) ?_
              refine WP_iload_n dX0_stampAll_32 rfl ?_
              refine WQ_iald dX0_stampAll_33 (lyx_is hy 23 13 rfl) (lyx_n hy 23 7 rfl) (by omega) (by omega) (fun q hq => BT_get hI415.1 23 0 7 (0) (0) (900) (by decide) q (Nat.zero_le _) hq) (fun v426 av426 bv426 ev426 => ?_)
              clear ev426
              refine WP_callN2 dX0_stampAll_34 ⟨⟨⟨by decide, by decide⟩, zX10_stampsOf⟩, lX0_60, tX10_stampsOf⟩ (sx_stampsOf hy hr hI415 i414 v426 (by omega) (by omega) (by omega) (by omega)) (Nat.le_of_ble_eq_true rfl) ?_
              intro r Ia Ja Ra hq
              obtain ⟨⟨ea, eb, ec⟩, v427, rfl, av427, bv427, cv427⟩ := hq
              show WP _ _ _ _ (.int _ :: _) _ _ _ _
              rw [ea, eb, ec]
              clear ea eb ec Ia Ja Ra
              refine WQ_isub dX0_stampAll_37 (by omega) (by omega) (fun v428 hv428 => ?_)
              refine WQ_iast dX0_stampAll_38 (lyx_is hy 24 13 rfl) (lyx_n hy 24 427 rfl) (by omega) (by omega) (fun I429 eI429 => ?_)
              have hI429 : XI g n L I429 := by rw [eI429]; exact (xi_r hy hI415 (c := 24) (0) (0) (60) (by decide) (Or.inl (by decide)) (by decide) (by omega) (by omega))
              have e430 : I429 (ad g 1) 1 = L := by rw [eI429, pp_ne _ _ (Or.inl (lyx_ne hy (by decide) (by decide) (by decide)))]; exact e418
              have fr431 : fz 74 g [24] I I429 := by rw [eI429]; exact fzx_pp hy fiI415 (by decide) (by decide)
              clear eI429
              refine WP_iinc (ls' := [(0, _), (1, _), (2, _)]) dX0_stampAll_39 rfl (by decide) rfl ?_
              have hv432 : (i414 + Int32.ofInt (1)).toInt = i414.toInt + (1) := ia_n rfl (by omega) (by omega)
              generalize i414 + Int32.ofInt (1) = v432 at hv432 ⊢
              refine WP_goto 10 dX0_stampAll_42 rfl ?_
              exact WP_sub (fc rfl (fc rfl (fc rfl fn))) (ihlp10_416 v432 I429 J416 hI429 fr431 fjJ416 (by omega) (by omega) (by omega))
        exact WP_sub (fc rfl (fc rfl (fc rfl fn))) (lp10_416 _ v413 I406 J407 hI406 fiI406 fjJ407 (by omega) (by omega) (Nat.lt_succ_self _))
  exact WP_sub (fc rfl (fc rfl fn)) (lp2_407 _ v404 I J hI fr0 frj0 (by omega) (by omega) (Nat.lt_succ_self _))
set_option maxHeartbeats 4000000 in
set_option maxRecDepth 100000 in
theorem sx_coinsBehind {g : GG} {n : Int} {L : Int32} (hy : LyX g)  {I : pI} {J : pJ} {R : pR} (hr : RfX g R) (hI : XI g n L I) (co : Int32) (st : Int32) (da : Int32) (co_lo : 0 ≤ co.toInt) (co_hi : co.toInt ≤ 60) (st_lo : 0 ≤ st.toInt) (st_hi : st.toInt ≤ 5) (da_lo : 0 ≤ da.toInt) (da_hi : da.toInt ≤ 6) : SP g mX0_coinsBehind [.ref (ad g 5), .int co, .int st, .int da] I J R (fun r I' J' R' => (I' = I ∧ J' = J ∧ R' = R) ∧ ∃ v : Int32, r = some (.int v) ∧ 0 ≤ v.toInt ∧ v.toInt ≤ 60) := by
  refine SP_of ⟨by decide, rfl⟩ (Nat.le_of_ble_eq_true rfl) ?_
  have e433 : I (ad g 1) 1 = L := hI.2
  have b434 := BT_get hI.1 1 1 2 (0) (0) (900) (by decide) 1 (by decide) (by decide)
  rw [e433] at b434
  refine WP_aload_n dX0_coinsBehind_0 rfl ?_
  refine WP_getr dX0_coinsBehind_1 fX0_18 rfl (lyx_is hy 5 0 rfl) (rfx hr 5 3 24 (by decide)) ?_
  refine WP_iload_n dX0_coinsBehind_4 rfl ?_
  refine WQ_bipush (61) (61) dX0_coinsBehind_5 rfl rfl (fun v435 hv435 => ?_)
  refine WQ_imulk (61) dX0_coinsBehind_7 hv435 (by omega) (by omega) (fun v436 hv436 => ?_)
  refine WP_iload_n dX0_coinsBehind_8 rfl ?_
  refine WQ_iadd dX0_coinsBehind_9 (by omega) (by omega) (fun v437 hv437 => ?_)
  refine WQ_iald dX0_coinsBehind_10 (lyx_is hy 24 13 rfl) (lyx_n hy 24 427 rfl) (by omega) (by omega) (fun q hq => BT_get hI.1 24 0 427 (0) (0) (60) (by decide) q (Nat.zero_le _) hq) (fun v438 av438 bv438 ev438 => ?_)
  clear ev438
  refine WP_aload_n dX0_coinsBehind_11 rfl ?_
  refine WP_getr dX0_coinsBehind_12 fX0_21 rfl (lyx_is hy 5 0 rfl) (rfx hr 5 4 25 (by decide)) ?_
  refine WP_iload_n dX0_coinsBehind_15 rfl ?_
  refine WQ_iald dX0_coinsBehind_16 (lyx_is hy 25 13 rfl) (lyx_n hy 25 6 rfl) (by omega) (by omega) (fun q hq => BT_get hI.1 25 0 6 (0) (0) (45) (by decide) q (Nat.zero_le _) hq) (fun v439 av439 bv439 ev439 => ?_)
  clear ev439
  refine WQ_isub dX0_coinsBehind_17 (by omega) (by omega) (fun v440 hv440 => ?_)
  refine WP_istore (ls' := [(0, _), (1, _), (2, _), (3, _), (4, _)]) dX0_coinsBehind_18 (by decide) rfl ?_
  refine WP_iload dX0_coinsBehind_20 rfl ?_
  have jn31_442 : ∀ (v442 : Int32), 0 ≤ v442.toInt → v442.toInt ≤ 60 → WP g mX0_coinsBehind 31 [(0, .ref (ad g 5)), (1, .int co), (2, .int st), (3, .int da), (4, .int v440)] [.int v442] I J R (fun r I' J' R' => (I' = I ∧ J' = J ∧ R' = R) ∧ ∃ v : Int32, r = some (.int v) ∧ 0 ≤ v.toInt ∧ v.toInt ≤ 60) := by
    intro v442 av442 bv442
    exact WP_iret dX0_coinsBehind_31 rfl ⟨⟨rfl, rfl, rfl⟩, _, rfl, by omega, by omega⟩
  refine WQ_if_ge 29 dX0_coinsBehind_22 rfl (fun c443 => ?_) (fun c443 => ?_)
  · refine WP_iload dX0_coinsBehind_29 rfl ?_
    exact WP_sub (fc rfl (fc rfl (fc rfl (fc rfl (fc rfl fn))))) (jn31_442 v440 (by omega) (by omega))
  · refine WQ_iconst (0) (0) dX0_coinsBehind_25 rfl rfl (fun v445 hv445 => ?_)
    refine WP_goto 31 dX0_coinsBehind_26 rfl ?_
    exact WP_sub (fc rfl (fc rfl (fc rfl (fc rfl (fc rfl fn))))) (jn31_442 v445 (by omega) (by omega))
set_option maxHeartbeats 4000000 in
set_option maxRecDepth 100000 in
theorem sx_heldForWeek {g : GG} {n : Int} {L : Int32} (hy : LyX g)  {I : pI} {J : pJ} {R : pR} (hr : RfX g R) (hI : XI g n L I) (no : Int32) (no_lo : 0 ≤ no.toInt) (no_hi : no.toInt ≤ 999) : SP g mX0_heldForWeek [.ref (ad g 5), .int no] I J R (fun r I' J' R' => (I' = I ∧ J' = J ∧ R' = R) ∧ ∃ v : Int32, r = some (.int v) ∧ 0 ≤ v.toInt ∧ v.toInt ≤ 999) := by
  refine SP_of ⟨by decide, rfl⟩ (Nat.le_of_ble_eq_true rfl) ?_
  have e446 : I (ad g 1) 1 = L := hI.2
  have b447 := BT_get hI.1 1 1 2 (0) (0) (900) (by decide) 1 (by decide) (by decide)
  rw [e446] at b447
  refine WP_iload_n dX0_heldForWeek_0 rfl ?_
  refine WP_istore_n (ls' := [(0, _), (1, _), (2, _)]) dX0_heldForWeek_1 (by decide) rfl ?_
  refine WQ_iconst (0) (0) dX0_heldForWeek_2 rfl rfl (fun v448 hv448 => ?_)
  refine WP_istore_n (ls' := [(0, _), (1, _), (2, _), (3, _)]) dX0_heldForWeek_3 (by decide) rfl ?_
  have lp4_450 : ∀ (mz : Nat) (i449 : Int32) (i450 : Int32), 0 ≤ i449.toInt → i449.toInt ≤ 999 → 0 ≤ i450.toInt → i450.toInt ≤ 7 → (8 - i450.toInt).toNat < mz → WP g mX0_heldForWeek 4 [(0, .ref (ad g 5)), (1, .int no), (2, .int i449), (3, .int i450)] [] I J R (fun r I' J' R' => (I' = I ∧ J' = J ∧ R' = R) ∧ ∃ v : Int32, r = some (.int v) ∧ 0 ≤ v.toInt ∧ v.toInt ≤ 999) := by
    intro mz
    induction mz with
    | zero =>
      intro i449 i450 ai449 bi449 ai450 bi450 hmlp4_450
      exact absurd hmlp4_450 (Nat.not_lt_zero _)
    | succ mz ihlp4_450 =>
      intro i449 i450 ai449 bi449 ai450 bi450 hmlp4_450
      refine WP_iload_n dX0_heldForWeek_4 rfl ?_
      refine WQ_bipush (7) (7) dX0_heldForWeek_5 rfl rfl (fun v452 hv452 => ?_)
      refine WQ_icmp_ge 29 dX0_heldForWeek_7 rfl (fun c452 => ?_) (fun c452 => ?_)
      · refine WP_iload_n dX0_heldForWeek_29 rfl ?_
        exact WP_iret dX0_heldForWeek_30 rfl ⟨⟨rfl, rfl, rfl⟩, _, rfl, by omega, by omega⟩
      · refine WP_iload_n dX0_heldForWeek_10 rfl ?_
        refine WP_iload_n dX0_heldForWeek_11 rfl ?_
        refine WP_aload_n dX0_heldForWeek_12 rfl ?_
        refine WP_getr dX0_heldForWeek_13 fX0_15 rfl (lyx_is hy 5 0 rfl) (rfx hr 5 2 23 (by decide)) ?_
        refine WP_iload_n dX0_heldForWeek_16 rfl ?_
        refine WQ_iald dX0_heldForWeek_17 (lyx_is hy 23 13 rfl) (lyx_n hy 23 7 rfl) (by omega) (by omega) (fun q hq => BT_get hI.1 23 0 7 (0) (0) (900) (by decide) q (Nat.zero_le _) hq) (fun v454 av454 bv454 ev454 => ?_)
        clear ev454
        refine WP_callN2 dX0_heldForWeek_18 ⟨⟨⟨by decide, by decide⟩, zX10_stampsOf⟩, lX0_60, tX10_stampsOf⟩ (sx_stampsOf hy hr hI i449 v454 (by omega) (by omega) (by omega) (by omega)) (Nat.le_of_ble_eq_true rfl) ?_
        intro r Ia Ja Ra hq
        obtain ⟨⟨ea, eb, ec⟩, v455, rfl, av455, bv455, cv455⟩ := hq
        show WP _ _ _ _ (.int _ :: _) _ _ _ _
        rw [ea, eb, ec]
        clear ea eb ec Ia Ja Ra
        refine WQ_isub dX0_heldForWeek_21 (by omega) (by omega) (fun v456 hv456 => ?_)
        refine WP_istore_n (ls' := [(0, _), (1, _), (2, _), (3, _)]) dX0_heldForWeek_22 (by decide) rfl ?_
        refine WP_iinc (ls' := [(0, _), (1, _), (2, _), (3, _)]) dX0_heldForWeek_23 rfl (by decide) rfl ?_
        have hv457 : (i450 + Int32.ofInt (1)).toInt = i450.toInt + (1) := ia_n rfl (by omega) (by omega)
        generalize i450 + Int32.ofInt (1) = v457 at hv457 ⊢
        refine WP_goto 4 dX0_heldForWeek_26 rfl ?_
        exact WP_sub (fc rfl (fc rfl (fc rfl (fc rfl fn)))) (ihlp4_450 v456 v457 (by omega) (by omega) (by omega) (by omega) (by omega))
  exact WP_sub (fc rfl (fc rfl (fc rfl (fc rfl fn)))) (lp4_450 _ no v448 (by omega) (by omega) (by omega) (by omega) (Nat.lt_succ_self _))
set_option maxHeartbeats 4000000 in
set_option maxRecDepth 100000 in
theorem sx_neededAhead {g : GG} {n : Int} {L : Int32} (hy : LyX g)  {I : pI} {J : pJ} {R : pR} (hr : RfX g R) (hI : XI g n L I) (be : Int32) (da : Int32) (be_lo : 0 ≤ be.toInt) (be_hi : be.toInt ≤ 999) (da_lo : 0 ≤ da.toInt) (da_hi : da.toInt ≤ 6) : SP g mX0_neededAhead [.ref (ad g 5), .int be, .int da] I J R (fun r I' J' R' => (I' = I ∧ J' = J ∧ R' = R) ∧ ∃ v : Int32, r = some (.int v) ∧ 0 ≤ v.toInt ∧ v.toInt ≤ 1000000) := by
  refine SP_of ⟨by decide, rfl⟩ (Nat.le_of_ble_eq_true rfl) ?_
  have e458 : I (ad g 1) 1 = L := hI.2
  have b459 := BT_get hI.1 1 1 2 (0) (0) (900) (by decide) 1 (by decide) (by decide)
  rw [e458] at b459
  refine WQ_sipush (1000) (1000) dX0_neededAhead_0 rfl rfl (fun v460 hv460 => ?_)
  refine WP_aload_n dX0_neededAhead_3 rfl ?_
  refine WP_getr dX0_neededAhead_4 fX0_15 rfl (lyx_is hy 5 0 rfl) (rfx hr 5 2 23 (by decide)) ?_
  refine WP_iload_n dX0_neededAhead_7 rfl ?_
  refine WQ_iald dX0_neededAhead_8 (lyx_is hy 23 13 rfl) (lyx_n hy 23 7 rfl) (by omega) (by omega) (fun q hq => BT_get hI.1 23 0 7 (0) (0) (900) (by decide) q (Nat.zero_le _) hq) (fun v461 av461 bv461 ev461 => ?_)
  clear ev461
  refine WQ_isub dX0_neededAhead_9 (by omega) (by omega) (fun v462 hv462 => ?_)
  refine WP_istore_n (ls' := [(0, _), (1, _), (2, _), (3, _)]) dX0_neededAhead_10 (by decide) rfl ?_
  refine WP_iload_n dX0_neededAhead_11 rfl ?_
  refine WQ_iconst (1) (1) dX0_neededAhead_12 rfl rfl (fun v463 hv463 => ?_)
  have jn32_470 : ∀ (v470 : Int32), 0 ≤ v470.toInt → v470.toInt ≤ 999999 → WP g mX0_neededAhead 32 [(0, .ref (ad g 5)), (1, .int be), (2, .int da), (3, .int v462)] [.int v470] I J R (fun r I' J' R' => (I' = I ∧ J' = J ∧ R' = R) ∧ ∃ v : Int32, r = some (.int v) ∧ 0 ≤ v.toInt ∧ v.toInt ≤ 1000000) := by
    intro v470 av470 bv470
    exact WP_iret dX0_neededAhead_32 rfl ⟨⟨rfl, rfl, rfl⟩, _, rfl, by omega, by omega⟩
  refine WQ_icmp_ge 21 dX0_neededAhead_13 rfl (fun c471 => ?_) (fun c471 => False.elim (by omega))
  refine WP_iload_n dX0_neededAhead_21 rfl ?_
  refine WQ_sipush (1000) (1000) dX0_neededAhead_22 rfl rfl (fun v473 hv473 => ?_)
  refine WQ_imulk (1000) dX0_neededAhead_25 hv473 (by omega) (by omega) (fun v474 hv474 => ?_)
  refine WP_iload_n dX0_neededAhead_26 rfl ?_
  refine WQ_iadd dX0_neededAhead_27 (by omega) (by omega) (fun v475 hv475 => ?_)
  refine WQ_iconst (1) (1) dX0_neededAhead_28 rfl rfl (fun v476 hv476 => ?_)
  refine WQ_isub dX0_neededAhead_29 (by omega) (by omega) (fun v477 hv477 => ?_)
  refine WP_iload_n dX0_neededAhead_30 rfl ?_
  refine WQ_idivb dX0_neededAhead_31 (by omega) (by omega) (fun v478 pv478 av478 bv478 cv478 => ?_)
  exact WP_sub (fc rfl (fc rfl (fc rfl (fc rfl fn)))) (jn32_470 v478 (by omega) (by omega))
set_option maxHeartbeats 4000000 in
set_option maxRecDepth 100000 in
theorem sx_pricesAsTold_6 {g : GG} {n : Int} {L : Int32} (hy : LyX g)  {I : pI} {J : pJ} {R : pR} (hr : RfX g R) (hT : R (ad g 5) 0 = some (ad g 6)) (hI : XI g n L I)   : SP g mX0_pricesAsTold [.ref (ad g 5)] I J R (fun r I' J' R' => (XI g n L I' ∧ R' = R ∧ fz 74 g [22] I I' ∧ fz 74 g [] J J') ∧ r = none) := by
  refine SP_of ⟨by decide, rfl⟩ (Nat.le_of_ble_eq_true rfl) ?_
  have e479 : I (ad g 1) 1 = L := hI.2
  have b480 := BT_get hI.1 1 1 2 (0) (0) (900) (by decide) 1 (by decide) (by decide)
  rw [e479] at b480
  have fr0 : fz 74 g [22] I I := fz_rf
  have frj0 : fz 74 g [] J J := fz_rf
  refine WP_aload_n dX0_pricesAsTold_0 rfl ?_
  refine WP_getr dX0_pricesAsTold_1 fX0_27 rfl (lyx_is hy 5 0 rfl) hT ?_
  refine WP_getr dX0_pricesAsTold_4 fX0_49 rfl (lyx_is hy 6 7 rfl) (rfx hr 6 16 18 (by decide)) ?_
  refine WQ_iconst (0) (0) dX0_pricesAsTold_7 rfl rfl (fun v481 hv481 => ?_)
  refine WP_aload_n dX0_pricesAsTold_8 rfl ?_
  refine WP_getr dX0_pricesAsTold_9 fX0_9 rfl (lyx_is hy 5 0 rfl) (rfx hr 5 1 22 (by decide)) ?_
  refine WQ_iconst (0) (0) dX0_pricesAsTold_12 rfl rfl (fun v482 hv482 => ?_)
  refine WP_aload_n dX0_pricesAsTold_13 rfl ?_
  refine WP_getr dX0_pricesAsTold_14 fX0_9 rfl (lyx_is hy 5 0 rfl) (rfx hr 5 1 22 (by decide)) ?_
  refine WP_alen dX0_pricesAsTold_17 (lyx_is hy 22 13 rfl) (by decide) ?_
  rw [(lyx_n hy 22 21 rfl)]
  obtain ⟨v483, hv483, ev483⟩ : ∃ v : Int32, v.toInt = 21 ∧ nI 21 = v := ⟨_, nI_toInt (by decide), rfl⟩
  rw [ev483]; clear ev483
  refine WQ_copy0 (N := 21) dX0_pricesAsTold_18 lX0_50 ⟨by decide, Nat.le_of_ble_eq_true rfl⟩ (lyx_is hy 18 13 rfl) (lyx_is hy 22 13 rfl) hv481 hv482 hv483 (lyx_n hy 18 21 rfl) (lyx_n hy 22 21 rfl) (fun I484 fI484 oI484 => ?_)
  have hI484 : XI g n L I484 := xi_copy hy hI 18 22 21 (by decide) (by decide) fI484 oI484
  have fr485 : fz 74 g [22] I I484 := fzx_cp hy fr0 oI484 (by decide) (by decide)
  clear fI484 oI484
  have e486 : I484 (ad g 1) 1 = L := hI484.2
  have b487 := BT_get hI484.1 1 1 2 (0) (0) (900) (by decide) 1 (by decide) (by decide)
  rw [e486] at b487
  exact WP_vret dX0_pricesAsTold_21 rfl ⟨⟨hI484, rfl, fr485, frj0⟩, rfl⟩
set_option maxHeartbeats 4000000 in
set_option maxRecDepth 100000 in
theorem sx_lossesAsTold_6 {g : GG} {n : Int} {L : Int32} (hy : LyX g)  {I : pI} {J : pJ} {R : pR} (hr : RfX g R) (hT : R (ad g 5) 0 = some (ad g 6)) (hI : XI g n L I)   : SP g mX0_lossesAsTold [.ref (ad g 5)] I J R (fun r I' J' R' => (XI g n L I' ∧ R' = R ∧ fz 74 g [23, 24] I I' ∧ fz 74 g [] J J') ∧ r = none) := by
  refine SP_of ⟨by decide, rfl⟩ (Nat.le_of_ble_eq_true rfl) ?_
  have e488 : I (ad g 1) 1 = L := hI.2
  have b489 := BT_get hI.1 1 1 2 (0) (0) (900) (by decide) 1 (by decide) (by decide)
  rw [e488] at b489
  have fr0 : fz 74 g [23, 24] I I := fz_rf
  have frj0 : fz 74 g [] J J := fz_rf
  refine WP_aload_n dX0_lossesAsTold_0 rfl ?_
  refine WP_getr dX0_lossesAsTold_1 fX0_27 rfl (lyx_is hy 5 0 rfl) hT ?_
  refine WP_getr dX0_lossesAsTold_4 fX0_56 rfl (lyx_is hy 6 7 rfl) (rfx hr 6 5 7 (by decide)) ?_
  refine WQ_iconst (0) (0) dX0_lossesAsTold_7 rfl rfl (fun v490 hv490 => ?_)
  refine WP_aload_n dX0_lossesAsTold_8 rfl ?_
  refine WP_getr dX0_lossesAsTold_9 fX0_15 rfl (lyx_is hy 5 0 rfl) (rfx hr 5 2 23 (by decide)) ?_
  refine WQ_iconst (0) (0) dX0_lossesAsTold_12 rfl rfl (fun v491 hv491 => ?_)
  refine WQ_bipush (7) (7) dX0_lossesAsTold_13 rfl rfl (fun v492 hv492 => ?_)
  refine WQ_copy0 (N := 7) dX0_lossesAsTold_15 lX0_50 ⟨by decide, Nat.le_of_ble_eq_true rfl⟩ (lyx_is hy 7 13 rfl) (lyx_is hy 23 13 rfl) hv490 hv491 hv492 (lyx_n hy 7 7 rfl) (lyx_n hy 23 7 rfl) (fun I493 fI493 oI493 => ?_)
  have hI493 : XI g n L I493 := xi_copy hy hI 7 23 7 (by decide) (by decide) fI493 oI493
  have fr494 : fz 74 g [23, 24] I I493 := fzx_cp hy fr0 oI493 (by decide) (by decide)
  clear fI493 oI493
  have e495 : I493 (ad g 1) 1 = L := hI493.2
  have b496 := BT_get hI493.1 1 1 2 (0) (0) (900) (by decide) 1 (by decide) (by decide)
  rw [e495] at b496
  refine WP_aload_n dX0_lossesAsTold_18 rfl ?_
  refine WP_callV0 (k := 0) dX0_lossesAsTold_19 ⟨⟨⟨by decide, by decide⟩, zX0_stampAll⟩, lX0_57, by decide, rfl, vX0_stampAll.1, vX0_stampAll.2⟩ (lyx_is hy 5 0 rfl) (sx_stampAll hy hr hI493  ) (Nat.le_of_ble_eq_true rfl) ?_
  intro r I497 J498 Ra hq
  obtain ⟨⟨hI497, ec, fiI497, fjI497⟩, rfl⟩ := hq
  rw [ec]
  clear ec Ra
  have fr499 : fz 74 g [23, 24] I I497 := fz_tr fr494 (fz_mono fiI497 (by decide))
  have fr500 : fz 74 g [] J J498 := fz_tr frj0 (fz_mono fjI497 (by decide))
  have e501 : I497 (ad g 1) 1 = L := hI497.2
  have b502 := BT_get hI497.1 1 1 2 (0) (0) (900) (by decide) 1 (by decide) (by decide)
  rw [e501] at b502
  exact WP_vret dX0_lossesAsTold_22 rfl ⟨⟨hI497, rfl, fr499, fr500⟩, rfl⟩
set_option maxHeartbeats 4000000 in
set_option maxRecDepth 100000 in
theorem sx_earned_6 {g : GG} {n : Int} {L : Int32} (hy : LyX g)  {I : pI} {J : pJ} {R : pR} (hr : RfX g R) (hT : R (ad g 5) 0 = some (ad g 6)) (hI : XI g n L I) (so : Int32) (da : Int32) (co : Int32) (so_lo : 0 ≤ so.toInt) (so_hi : so.toInt ≤ 3) (da_lo : 0 ≤ da.toInt) (da_hi : da.toInt ≤ 6) (co_lo : 0 ≤ co.toInt) (co_hi : co.toInt ≤ 60) : SP g mX0_earned [.ref (ad g 5), .int so, .int da, .int co] I J R (fun r I' J' R' => (I' = I ∧ J' = J ∧ R' = R) ∧ ∃ v : Int32, r = some (.int v) ∧ 0 ≤ v.toInt ∧ v.toInt ≤ 60 ∧ co.toInt ≤ v.toInt) := by
  refine SP_of ⟨by decide, rfl⟩ (Nat.le_of_ble_eq_true rfl) ?_
  have e530 : I (ad g 1) 1 = L := hI.2
  have b531 := BT_get hI.1 1 1 2 (0) (0) (900) (by decide) 1 (by decide) (by decide)
  rw [e530] at b531
  refine WQ_bipush (60) (60) dX0_earned_0 rfl rfl (fun v532 hv532 => ?_)
  refine WP_iload_n dX0_earned_2 rfl ?_
  refine WP_aload_n dX0_earned_3 rfl ?_
  refine WP_getr dX0_earned_4 fX0_27 rfl (lyx_is hy 5 0 rfl) hT ?_
  refine WP_getr dX0_earned_7 fX0_64 rfl (lyx_is hy 6 7 rfl) (rfx hr 6 10 12 (by decide)) ?_
  refine WP_iload_n dX0_earned_10 rfl ?_
  refine WQ_bipush (7) (7) dX0_earned_11 rfl rfl (fun v533 hv533 => ?_)
  refine WQ_imulk (7) dX0_earned_13 hv533 (by omega) (by omega) (fun v534 hv534 => ?_)
  refine WP_iload_n dX0_earned_14 rfl ?_
  refine WQ_iadd dX0_earned_15 (by omega) (by omega) (fun v535 hv535 => ?_)
  refine WQ_iald dX0_earned_16 (lyx_is hy 12 13 rfl) (lyx_n hy 12 28 rfl) (by omega) (by omega) (fun q hq => BT_get hI.1 12 0 28 (0) (0) (20) (by decide) q (Nat.zero_le _) hq) (fun v536 av536 bv536 ev536 => ?_)
  clear ev536
  refine WQ_iadd dX0_earned_17 (by omega) (by omega) (fun v537 hv537 => ?_)
  refine WQ_min dX0_earned_18 lX0_67 ⟨by decide, Nat.le_of_ble_eq_true rfl⟩ (fun v538 av538 bv538 cv538 => ?_)
  exact WP_iret dX0_earned_21 rfl ⟨⟨rfl, rfl, rfl⟩, _, rfl, by omega, by omega, by omega⟩
set_option maxHeartbeats 4000000 in
set_option maxRecDepth 100000 in
theorem sx_open_6 {g : GG} {n : Int} {L : Int32} (hy : LyX g)  {I : pI} {J : pJ} {R : pR} (hr : RfX g R) (hT : R (ad g 5) 0 = some (ad g 6)) (hI : XI g n L I)   : SP g mX0_open [.ref (ad g 5)] I J R (fun r I' J' R' => (XI g n L I' ∧ R' = R ∧ fz 74 g [22, 23, 24, 25, 26] I I' ∧ fz 74 g [] J J') ∧ r = none) := by
  refine SP_of ⟨by decide, rfl⟩ (Nat.le_of_ble_eq_true rfl) ?_
  have e539 : I (ad g 1) 1 = L := hI.2
  have b540 := BT_get hI.1 1 1 2 (0) (0) (900) (by decide) 1 (by decide) (by decide)
  rw [e539] at b540
  have fr0 : fz 74 g [22, 23, 24, 25, 26] I I := fz_rf
  have frj0 : fz 74 g [] J J := fz_rf
  refine WP_aload_n dX0_open_0 rfl ?_
  refine WP_getr dX0_open_1 fX0_27 rfl (lyx_is hy 5 0 rfl) hT ?_
  refine WQ_geti dX0_open_4 fX0_31 rfl (lyx_is hy 6 7 rfl) (BT_get hI.1 6 4 5 (-1) (0) (2) (by decide) 4 (by decide) (by decide)) (fun v541 ev541 av541 bv541 => ?_)
  refine WQ_iconst (-1) (-1) dX0_open_7 rfl rfl (fun v542 hv542 => ?_)
  have jn30_545 : ∀ (v545 : Int32), 0 ≤ v545.toInt → v545.toInt ≤ 9 → WP g mX0_open 30 [(0, .ref (ad g 5))] [.int v545] I J R (fun r I' J' R' => (XI g n L I' ∧ R' = R ∧ fz 74 g [22, 23, 24, 25, 26] I I' ∧ fz 74 g [] J J') ∧ r = none) := by
    intro v545 av545 bv545
    refine WP_istore_n (ls' := [(0, _), (1, _)]) dX0_open_30 (by decide) rfl ?_
    refine WP_aload_n dX0_open_31 rfl ?_
    refine WP_getr dX0_open_32 fX0_27 rfl (lyx_is hy 5 0 rfl) hT ?_
    refine WQ_getim dX0_open_35 fX0_31 rfl (lyx_is hy 6 7 rfl) ev541 ?_
    refine WQ_iconst (-1) (-1) dX0_open_38 rfl rfl (fun v547 hv547 => ?_)
    have jn61_550 : ∀ (v550 : Int32), 0 ≤ v550.toInt → v550.toInt ≤ 1000 → WP g mX0_open 61 [(0, .ref (ad g 5)), (1, .int v545)] [.int v550] I J R (fun r I' J' R' => (XI g n L I' ∧ R' = R ∧ fz 74 g [22, 23, 24, 25, 26] I I' ∧ fz 74 g [] J J') ∧ r = none) := by
      intro v550 av550 bv550
      refine WP_istore_n (ls' := [(0, _), (1, _), (2, _)]) dX0_open_61 (by decide) rfl ?_
      refine WQ_iconst (0) (0) dX0_open_62 rfl rfl (fun v552 hv552 => ?_)
      refine WP_istore_n (ls' := [(0, _), (1, _), (2, _), (3, _)]) dX0_open_63 (by decide) rfl ?_
      have lp64_555 : ∀ (mz : Nat) (i553 : Int32) (I554 : pI) (J555 : pJ), XI g n L I554 → fz 74 g [22, 23, 24, 25, 26] I I554 → fz 74 g [] J J555 → 0 ≤ i553.toInt → i553.toInt ≤ 6 → (7 - i553.toInt).toNat < mz → WP g mX0_open 64 [(0, .ref (ad g 5)), (1, .int v545), (2, .int v550), (3, .int i553)] [] I554 J555 R (fun r I' J' R' => (XI g n L I' ∧ R' = R ∧ fz 74 g [22, 23, 24, 25, 26] I I' ∧ fz 74 g [] J J') ∧ r = none) := by
        intro mz
        induction mz with
        | zero =>
          intro i553 I554 J555 hI554 fiI554 fjJ555 ai553 bi553 hmlp64_555
          exact absurd hmlp64_555 (Nat.not_lt_zero _)
        | succ mz ihlp64_555 =>
          intro i553 I554 J555 hI554 fiI554 fjJ555 ai553 bi553 hmlp64_555
          have e557 : I554 (ad g 1) 1 = L := hI554.2
          have b558 := BT_get hI554.1 1 1 2 (0) (0) (900) (by decide) 1 (by decide) (by decide)
          rw [e557] at b558
          refine WP_iload_n dX0_open_64 rfl ?_
          refine WQ_bipush (6) (6) dX0_open_65 rfl rfl (fun v559 hv559 => ?_)
          refine WQ_icmp_ge 100 dX0_open_67 rfl (fun c559 => ?_) (fun c559 => ?_)
          · refine WP_aload_n dX0_open_100 rfl ?_
            refine WP_callV0 (k := 0) dX0_open_101 ⟨⟨⟨by decide, by decide⟩, zX0_pricesAsTold⟩, lX0_43, by decide, rfl, vX0_pricesAsTold.1, vX0_pricesAsTold.2⟩ (lyx_is hy 5 0 rfl) (sx_pricesAsTold_6 hy hr hT hI554  ) (Nat.le_of_ble_eq_true rfl) ?_
            intro r I561 J562 Ra hq
            obtain ⟨⟨hI561, ec, fiI561, fjI561⟩, rfl⟩ := hq
            rw [ec]
            clear ec Ra
            have fr563 : fz 74 g [22, 23, 24, 25, 26] I I561 := fz_tr fiI554 (fz_mono fiI561 (by decide))
            have fr564 : fz 74 g [] J J562 := fz_tr fjJ555 (fz_mono fjI561 (by decide))
            have e565 : I561 (ad g 1) 1 = L := hI561.2
            have b566 := BT_get hI561.1 1 1 2 (0) (0) (900) (by decide) 1 (by decide) (by decide)
            rw [e565] at b566
            refine WP_aload_n dX0_open_104 rfl ?_
            refine WP_callV0 (k := 0) dX0_open_105 ⟨⟨⟨by decide, by decide⟩, zX0_lossesAsTold⟩, lX0_46, by decide, rfl, vX0_lossesAsTold.1, vX0_lossesAsTold.2⟩ (lyx_is hy 5 0 rfl) (sx_lossesAsTold_6 hy hr hT hI561  ) (Nat.le_of_ble_eq_true rfl) ?_
            intro r I567 J568 Ra hq
            obtain ⟨⟨hI567, ec, fiI567, fjI567⟩, rfl⟩ := hq
            rw [ec]
            clear ec Ra
            have fr569 : fz 74 g [22, 23, 24, 25, 26] I I567 := fz_tr fr563 (fz_mono fiI567 (by decide))
            have fr570 : fz 74 g [] J J568 := fz_tr fr564 (fz_mono fjI567 (by decide))
            have e571 : I567 (ad g 1) 1 = L := hI567.2
            have b572 := BT_get hI567.1 1 1 2 (0) (0) (900) (by decide) 1 (by decide) (by decide)
            rw [e571] at b572
            exact WP_vret dX0_open_108 rfl ⟨⟨hI567, rfl, fr569, fr570⟩, rfl⟩
          · refine WP_aload_n dX0_open_70 rfl ?_
            refine WP_getr dX0_open_71 fX0_21 rfl (lyx_is hy 5 0 rfl) (rfx hr 5 4 25 (by decide)) ?_
            refine WP_iload_n dX0_open_74 rfl ?_
            refine WP_iload_n dX0_open_75 rfl ?_
            refine WP_iload_n dX0_open_76 rfl ?_
            refine WQ_imulb (5) (9) dX0_open_77 ⟨by omega, by omega⟩ ⟨by omega, by omega⟩ (by decide) (fun v573 pv573 av573 bv573 cv573 => ?_)
            refine WQ_iast dX0_open_78 (lyx_is hy 25 13 rfl) (lyx_n hy 25 6 rfl) (by omega) (by omega) (fun I574 eI574 => ?_)
            have hI574 : XI g n L I574 := by rw [eI574]; exact (xi_r hy hI554 (c := 25) (0) (0) (45) (by decide) (Or.inl (by decide)) (by decide) (by omega) (by omega))
            have e575 : I574 (ad g 1) 1 = L := by rw [eI574, pp_ne _ _ (Or.inl (lyx_ne hy (by decide) (by decide) (by decide)))]; exact e557
            have fr576 : fz 74 g [22, 23, 24, 25, 26] I I574 := by rw [eI574]; exact fzx_pp hy fiI554 (by decide) (by decide)
            clear eI574
            refine WP_aload_n dX0_open_79 rfl ?_
            refine WP_getr dX0_open_80 fX0_24 rfl (lyx_is hy 5 0 rfl) (rfx hr 5 5 26 (by decide)) ?_
            refine WP_iload_n dX0_open_83 rfl ?_
            refine WP_iload_n dX0_open_84 rfl ?_
            refine WP_iload_n dX0_open_85 rfl ?_
            refine WP_iload_n dX0_open_86 rfl ?_
            refine WQ_imulb (5) (1000) dX0_open_87 ⟨by omega, by omega⟩ ⟨by omega, by omega⟩ (by decide) (fun v577 pv577 av577 bv577 cv577 => ?_)
            refine WQ_sipush (1000) (1000) dX0_open_88 rfl rfl (fun v578 hv578 => ?_)
            refine WQ_idivk (1000) dX0_open_91 hv578 (by decide) (by omega) (fun v579 hv579 => ?_)
            refine WQ_isub dX0_open_92 (by omega) (by omega) (fun v580 hv580 => ?_)
            refine WQ_iast dX0_open_93 (lyx_is hy 26 13 rfl) (lyx_n hy 26 6 rfl) (by omega) (by omega) (fun I581 eI581 => ?_)
            have hI581 : XI g n L I581 := by rw [eI581]; exact (xi_r hy hI574 (c := 26) (0) (0) (5) (by decide) (Or.inl (by decide)) (by decide) (by omega) (by omega))
            have e582 : I581 (ad g 1) 1 = L := by rw [eI581, pp_ne _ _ (Or.inl (lyx_ne hy (by decide) (by decide) (by decide)))]; exact e575
            have fr583 : fz 74 g [22, 23, 24, 25, 26] I I581 := by rw [eI581]; exact fzx_pp hy fr576 (by decide) (by decide)
            clear eI581
            refine WP_iinc (ls' := [(0, _), (1, _), (2, _), (3, _)]) dX0_open_94 rfl (by decide) rfl ?_
            have hv584 : (i553 + Int32.ofInt (1)).toInt = i553.toInt + (1) := ia_n rfl (by omega) (by omega)
            generalize i553 + Int32.ofInt (1) = v584 at hv584 ⊢
            refine WP_goto 64 dX0_open_97 rfl ?_
            exact WP_sub (fc rfl (fc rfl (fc rfl (fc rfl fn)))) (ihlp64_555 v584 I581 J555 hI581 fr583 fjJ555 (by omega) (by omega) (by omega))
      exact WP_sub (fc rfl (fc rfl (fc rfl (fc rfl fn)))) (lp64_555 _ v552 I J hI fr0 frj0 (by omega) (by omega) (Nat.lt_succ_self _))
    refine WQ_icmp_ne 46 dX0_open_39 rfl (fun c584 => ?_) (fun c584 => ?_)
    · refine WP_aload_n dX0_open_46 rfl ?_
      refine WP_getr dX0_open_47 fX0_27 rfl (lyx_is hy 5 0 rfl) hT ?_
      refine WP_getr dX0_open_50 fX0_40 rfl (lyx_is hy 6 7 rfl) (rfx hr 6 14 16 (by decide)) ?_
      refine WP_aload_n dX0_open_53 rfl ?_
      refine WP_getr dX0_open_54 fX0_27 rfl (lyx_is hy 5 0 rfl) hT ?_
      refine WQ_getim dX0_open_57 fX0_31 rfl (lyx_is hy 6 7 rfl) ev541 ?_
      refine WQ_iald dX0_open_60 (lyx_is hy 16 13 rfl) (lyx_n hy 16 3 rfl) (by omega) (by omega) (fun q hq => BT_get hI.1 16 0 3 (0) (0) (1000) (by decide) q (Nat.zero_le _) hq) (fun v586 av586 bv586 ev586 => ?_)
      clear ev586
      exact WP_sub (fc rfl (fc rfl fn)) (jn61_550 v586 (by omega) (by omega))
    · refine WQ_iconst (0) (0) dX0_open_42 rfl rfl (fun v587 hv587 => ?_)
      refine WP_goto 61 dX0_open_43 rfl ?_
      exact WP_sub (fc rfl (fc rfl fn)) (jn61_550 v587 (by omega) (by omega))
  refine WQ_icmp_ne 15 dX0_open_8 rfl (fun c587 => ?_) (fun c587 => ?_)
  · refine WP_aload_n dX0_open_15 rfl ?_
    refine WP_getr dX0_open_16 fX0_27 rfl (lyx_is hy 5 0 rfl) hT ?_
    refine WP_getr dX0_open_19 fX0_37 rfl (lyx_is hy 6 7 rfl) (rfx hr 6 15 17 (by decide)) ?_
    refine WP_aload_n dX0_open_22 rfl ?_
    refine WP_getr dX0_open_23 fX0_27 rfl (lyx_is hy 5 0 rfl) hT ?_
    refine WQ_getim dX0_open_26 fX0_31 rfl (lyx_is hy 6 7 rfl) ev541 ?_
    refine WQ_iald dX0_open_29 (lyx_is hy 17 13 rfl) (lyx_n hy 17 3 rfl) (by omega) (by omega) (fun q hq => BT_get hI.1 17 0 3 (0) (0) (9) (by decide) q (Nat.zero_le _) hq) (fun v589 av589 bv589 ev589 => ?_)
    clear ev589
    exact WP_sub (fc rfl fn) (jn30_545 v589 (by omega) (by omega))
  · refine WQ_iconst (0) (0) dX0_open_11 rfl rfl (fun v590 hv590 => ?_)
    refine WP_goto 30 dX0_open_12 rfl ?_
    exact WP_sub (fc rfl fn) (jn30_545 v590 (by omega) (by omega))
set_option maxHeartbeats 4000000 in
set_option maxRecDepth 100000 in
theorem sx_pricesAsTold_27 {g : GG} {n : Int} {L : Int32} (hy : LyX g)  {I : pI} {J : pJ} {R : pR} (hr : RfX g R) (hT : R (ad g 5) 0 = some (ad g 27)) (hI : XI g n L I)   : SP g mX0_pricesAsTold [.ref (ad g 5)] I J R (fun r I' J' R' => (XI g n L I' ∧ R' = R ∧ fz 74 g [22] I I' ∧ fz 74 g [] J J') ∧ r = none) := by
  refine SP_of ⟨by decide, rfl⟩ (Nat.le_of_ble_eq_true rfl) ?_
  have e664 : I (ad g 1) 1 = L := hI.2
  have b665 := BT_get hI.1 1 1 2 (0) (0) (900) (by decide) 1 (by decide) (by decide)
  rw [e664] at b665
  have fr0 : fz 74 g [22] I I := fz_rf
  have frj0 : fz 74 g [] J J := fz_rf
  refine WP_aload_n dX0_pricesAsTold_0 rfl ?_
  refine WP_getr dX0_pricesAsTold_1 fX0_27 rfl (lyx_is hy 5 0 rfl) hT ?_
  refine WP_getr dX0_pricesAsTold_4 fX0_49 rfl (lyx_is hy 27 7 rfl) (rfx hr 27 16 39 (by decide)) ?_
  refine WQ_iconst (0) (0) dX0_pricesAsTold_7 rfl rfl (fun v666 hv666 => ?_)
  refine WP_aload_n dX0_pricesAsTold_8 rfl ?_
  refine WP_getr dX0_pricesAsTold_9 fX0_9 rfl (lyx_is hy 5 0 rfl) (rfx hr 5 1 22 (by decide)) ?_
  refine WQ_iconst (0) (0) dX0_pricesAsTold_12 rfl rfl (fun v667 hv667 => ?_)
  refine WP_aload_n dX0_pricesAsTold_13 rfl ?_
  refine WP_getr dX0_pricesAsTold_14 fX0_9 rfl (lyx_is hy 5 0 rfl) (rfx hr 5 1 22 (by decide)) ?_
  refine WP_alen dX0_pricesAsTold_17 (lyx_is hy 22 13 rfl) (by decide) ?_
  rw [(lyx_n hy 22 21 rfl)]
  obtain ⟨v668, hv668, ev668⟩ : ∃ v : Int32, v.toInt = 21 ∧ nI 21 = v := ⟨_, nI_toInt (by decide), rfl⟩
  rw [ev668]; clear ev668
  refine WQ_copy0 (N := 21) dX0_pricesAsTold_18 lX0_50 ⟨by decide, Nat.le_of_ble_eq_true rfl⟩ (lyx_is hy 39 13 rfl) (lyx_is hy 22 13 rfl) hv666 hv667 hv668 (lyx_n hy 39 21 rfl) (lyx_n hy 22 21 rfl) (fun I669 fI669 oI669 => ?_)
  have hI669 : XI g n L I669 := xi_copy hy hI 39 22 21 (by decide) (by decide) fI669 oI669
  have fr670 : fz 74 g [22] I I669 := fzx_cp hy fr0 oI669 (by decide) (by decide)
  clear fI669 oI669
  have e671 : I669 (ad g 1) 1 = L := hI669.2
  have b672 := BT_get hI669.1 1 1 2 (0) (0) (900) (by decide) 1 (by decide) (by decide)
  rw [e671] at b672
  exact WP_vret dX0_pricesAsTold_21 rfl ⟨⟨hI669, rfl, fr670, frj0⟩, rfl⟩
set_option maxHeartbeats 4000000 in
set_option maxRecDepth 100000 in
theorem sx_lossesAsTold_27 {g : GG} {n : Int} {L : Int32} (hy : LyX g)  {I : pI} {J : pJ} {R : pR} (hr : RfX g R) (hT : R (ad g 5) 0 = some (ad g 27)) (hI : XI g n L I)   : SP g mX0_lossesAsTold [.ref (ad g 5)] I J R (fun r I' J' R' => (XI g n L I' ∧ R' = R ∧ fz 74 g [23, 24] I I' ∧ fz 74 g [] J J') ∧ r = none) := by
  refine SP_of ⟨by decide, rfl⟩ (Nat.le_of_ble_eq_true rfl) ?_
  have e673 : I (ad g 1) 1 = L := hI.2
  have b674 := BT_get hI.1 1 1 2 (0) (0) (900) (by decide) 1 (by decide) (by decide)
  rw [e673] at b674
  have fr0 : fz 74 g [23, 24] I I := fz_rf
  have frj0 : fz 74 g [] J J := fz_rf
  refine WP_aload_n dX0_lossesAsTold_0 rfl ?_
  refine WP_getr dX0_lossesAsTold_1 fX0_27 rfl (lyx_is hy 5 0 rfl) hT ?_
  refine WP_getr dX0_lossesAsTold_4 fX0_56 rfl (lyx_is hy 27 7 rfl) (rfx hr 27 5 28 (by decide)) ?_
  refine WQ_iconst (0) (0) dX0_lossesAsTold_7 rfl rfl (fun v675 hv675 => ?_)
  refine WP_aload_n dX0_lossesAsTold_8 rfl ?_
  refine WP_getr dX0_lossesAsTold_9 fX0_15 rfl (lyx_is hy 5 0 rfl) (rfx hr 5 2 23 (by decide)) ?_
  refine WQ_iconst (0) (0) dX0_lossesAsTold_12 rfl rfl (fun v676 hv676 => ?_)
  refine WQ_bipush (7) (7) dX0_lossesAsTold_13 rfl rfl (fun v677 hv677 => ?_)
  refine WQ_copy0 (N := 7) dX0_lossesAsTold_15 lX0_50 ⟨by decide, Nat.le_of_ble_eq_true rfl⟩ (lyx_is hy 28 13 rfl) (lyx_is hy 23 13 rfl) hv675 hv676 hv677 (lyx_n hy 28 7 rfl) (lyx_n hy 23 7 rfl) (fun I678 fI678 oI678 => ?_)
  have hI678 : XI g n L I678 := xi_copy hy hI 28 23 7 (by decide) (by decide) fI678 oI678
  have fr679 : fz 74 g [23, 24] I I678 := fzx_cp hy fr0 oI678 (by decide) (by decide)
  clear fI678 oI678
  have e680 : I678 (ad g 1) 1 = L := hI678.2
  have b681 := BT_get hI678.1 1 1 2 (0) (0) (900) (by decide) 1 (by decide) (by decide)
  rw [e680] at b681
  refine WP_aload_n dX0_lossesAsTold_18 rfl ?_
  refine WP_callV0 (k := 0) dX0_lossesAsTold_19 ⟨⟨⟨by decide, by decide⟩, zX0_stampAll⟩, lX0_57, by decide, rfl, vX0_stampAll.1, vX0_stampAll.2⟩ (lyx_is hy 5 0 rfl) (sx_stampAll hy hr hI678  ) (Nat.le_of_ble_eq_true rfl) ?_
  intro r I682 J683 Ra hq
  obtain ⟨⟨hI682, ec, fiI682, fjI682⟩, rfl⟩ := hq
  rw [ec]
  clear ec Ra
  have fr684 : fz 74 g [23, 24] I I682 := fz_tr fr679 (fz_mono fiI682 (by decide))
  have fr685 : fz 74 g [] J J683 := fz_tr frj0 (fz_mono fjI682 (by decide))
  have e686 : I682 (ad g 1) 1 = L := hI682.2
  have b687 := BT_get hI682.1 1 1 2 (0) (0) (900) (by decide) 1 (by decide) (by decide)
  rw [e686] at b687
  exact WP_vret dX0_lossesAsTold_22 rfl ⟨⟨hI682, rfl, fr684, fr685⟩, rfl⟩
set_option maxHeartbeats 4000000 in
set_option maxRecDepth 100000 in
theorem sx_earned_27 {g : GG} {n : Int} {L : Int32} (hy : LyX g)  {I : pI} {J : pJ} {R : pR} (hr : RfX g R) (hT : R (ad g 5) 0 = some (ad g 27)) (hI : XI g n L I) (so : Int32) (da : Int32) (co : Int32) (so_lo : 0 ≤ so.toInt) (so_hi : so.toInt ≤ 3) (da_lo : 0 ≤ da.toInt) (da_hi : da.toInt ≤ 6) (co_lo : 0 ≤ co.toInt) (co_hi : co.toInt ≤ 60) : SP g mX0_earned [.ref (ad g 5), .int so, .int da, .int co] I J R (fun r I' J' R' => (I' = I ∧ J' = J ∧ R' = R) ∧ ∃ v : Int32, r = some (.int v) ∧ 0 ≤ v.toInt ∧ v.toInt ≤ 60 ∧ co.toInt ≤ v.toInt) := by
  refine SP_of ⟨by decide, rfl⟩ (Nat.le_of_ble_eq_true rfl) ?_
  have e715 : I (ad g 1) 1 = L := hI.2
  have b716 := BT_get hI.1 1 1 2 (0) (0) (900) (by decide) 1 (by decide) (by decide)
  rw [e715] at b716
  refine WQ_bipush (60) (60) dX0_earned_0 rfl rfl (fun v717 hv717 => ?_)
  refine WP_iload_n dX0_earned_2 rfl ?_
  refine WP_aload_n dX0_earned_3 rfl ?_
  refine WP_getr dX0_earned_4 fX0_27 rfl (lyx_is hy 5 0 rfl) hT ?_
  refine WP_getr dX0_earned_7 fX0_64 rfl (lyx_is hy 27 7 rfl) (rfx hr 27 10 33 (by decide)) ?_
  refine WP_iload_n dX0_earned_10 rfl ?_
  refine WQ_bipush (7) (7) dX0_earned_11 rfl rfl (fun v718 hv718 => ?_)
  refine WQ_imulk (7) dX0_earned_13 hv718 (by omega) (by omega) (fun v719 hv719 => ?_)
  refine WP_iload_n dX0_earned_14 rfl ?_
  refine WQ_iadd dX0_earned_15 (by omega) (by omega) (fun v720 hv720 => ?_)
  refine WQ_iald dX0_earned_16 (lyx_is hy 33 13 rfl) (lyx_n hy 33 28 rfl) (by omega) (by omega) (fun q hq => BT_get hI.1 33 0 28 (0) (0) (20) (by decide) q (Nat.zero_le _) hq) (fun v721 av721 bv721 ev721 => ?_)
  clear ev721
  refine WQ_iadd dX0_earned_17 (by omega) (by omega) (fun v722 hv722 => ?_)
  refine WQ_min dX0_earned_18 lX0_67 ⟨by decide, Nat.le_of_ble_eq_true rfl⟩ (fun v723 av723 bv723 cv723 => ?_)
  exact WP_iret dX0_earned_21 rfl ⟨⟨rfl, rfl, rfl⟩, _, rfl, by omega, by omega, by omega⟩
set_option maxHeartbeats 4000000 in
set_option maxRecDepth 100000 in
theorem sx_open_27 {g : GG} {n : Int} {L : Int32} (hy : LyX g)  {I : pI} {J : pJ} {R : pR} (hr : RfX g R) (hT : R (ad g 5) 0 = some (ad g 27)) (hI : XI g n L I)   : SP g mX0_open [.ref (ad g 5)] I J R (fun r I' J' R' => (XI g n L I' ∧ R' = R ∧ fz 74 g [22, 23, 24, 25, 26] I I' ∧ fz 74 g [] J J') ∧ r = none) := by
  refine SP_of ⟨by decide, rfl⟩ (Nat.le_of_ble_eq_true rfl) ?_
  have e724 : I (ad g 1) 1 = L := hI.2
  have b725 := BT_get hI.1 1 1 2 (0) (0) (900) (by decide) 1 (by decide) (by decide)
  rw [e724] at b725
  have fr0 : fz 74 g [22, 23, 24, 25, 26] I I := fz_rf
  have frj0 : fz 74 g [] J J := fz_rf
  refine WP_aload_n dX0_open_0 rfl ?_
  refine WP_getr dX0_open_1 fX0_27 rfl (lyx_is hy 5 0 rfl) hT ?_
  refine WQ_geti dX0_open_4 fX0_31 rfl (lyx_is hy 27 7 rfl) (BT_get hI.1 27 4 5 (-1) (0) (2) (by decide) 4 (by decide) (by decide)) (fun v726 ev726 av726 bv726 => ?_)
  refine WQ_iconst (-1) (-1) dX0_open_7 rfl rfl (fun v727 hv727 => ?_)
  have jn30_730 : ∀ (v730 : Int32), 0 ≤ v730.toInt → v730.toInt ≤ 9 → WP g mX0_open 30 [(0, .ref (ad g 5))] [.int v730] I J R (fun r I' J' R' => (XI g n L I' ∧ R' = R ∧ fz 74 g [22, 23, 24, 25, 26] I I' ∧ fz 74 g [] J J') ∧ r = none) := by
    intro v730 av730 bv730
    refine WP_istore_n (ls' := [(0, _), (1, _)]) dX0_open_30 (by decide) rfl ?_
    refine WP_aload_n dX0_open_31 rfl ?_
    refine WP_getr dX0_open_32 fX0_27 rfl (lyx_is hy 5 0 rfl) hT ?_
    refine WQ_getim dX0_open_35 fX0_31 rfl (lyx_is hy 27 7 rfl) ev726 ?_
    refine WQ_iconst (-1) (-1) dX0_open_38 rfl rfl (fun v732 hv732 => ?_)
    have jn61_735 : ∀ (v735 : Int32), 0 ≤ v735.toInt → v735.toInt ≤ 1000 → WP g mX0_open 61 [(0, .ref (ad g 5)), (1, .int v730)] [.int v735] I J R (fun r I' J' R' => (XI g n L I' ∧ R' = R ∧ fz 74 g [22, 23, 24, 25, 26] I I' ∧ fz 74 g [] J J') ∧ r = none) := by
      intro v735 av735 bv735
      refine WP_istore_n (ls' := [(0, _), (1, _), (2, _)]) dX0_open_61 (by decide) rfl ?_
      refine WQ_iconst (0) (0) dX0_open_62 rfl rfl (fun v737 hv737 => ?_)
      refine WP_istore_n (ls' := [(0, _), (1, _), (2, _), (3, _)]) dX0_open_63 (by decide) rfl ?_
      have lp64_740 : ∀ (mz : Nat) (i738 : Int32) (I739 : pI) (J740 : pJ), XI g n L I739 → fz 74 g [22, 23, 24, 25, 26] I I739 → fz 74 g [] J J740 → 0 ≤ i738.toInt → i738.toInt ≤ 6 → (7 - i738.toInt).toNat < mz → WP g mX0_open 64 [(0, .ref (ad g 5)), (1, .int v730), (2, .int v735), (3, .int i738)] [] I739 J740 R (fun r I' J' R' => (XI g n L I' ∧ R' = R ∧ fz 74 g [22, 23, 24, 25, 26] I I' ∧ fz 74 g [] J J') ∧ r = none) := by
        intro mz
        induction mz with
        | zero =>
          intro i738 I739 J740 hI739 fiI739 fjJ740 ai738 bi738 hmlp64_740
          exact absurd hmlp64_740 (Nat.not_lt_zero _)
        | succ mz ihlp64_740 =>
          intro i738 I739 J740 hI739 fiI739 fjJ740 ai738 bi738 hmlp64_740
          have e742 : I739 (ad g 1) 1 = L := hI739.2
          have b743 := BT_get hI739.1 1 1 2 (0) (0) (900) (by decide) 1 (by decide) (by decide)
          rw [e742] at b743
          refine WP_iload_n dX0_open_64 rfl ?_
          refine WQ_bipush (6) (6) dX0_open_65 rfl rfl (fun v744 hv744 => ?_)
          refine WQ_icmp_ge 100 dX0_open_67 rfl (fun c744 => ?_) (fun c744 => ?_)
          · refine WP_aload_n dX0_open_100 rfl ?_
            refine WP_callV0 (k := 0) dX0_open_101 ⟨⟨⟨by decide, by decide⟩, zX0_pricesAsTold⟩, lX0_43, by decide, rfl, vX0_pricesAsTold.1, vX0_pricesAsTold.2⟩ (lyx_is hy 5 0 rfl) (sx_pricesAsTold_27 hy hr hT hI739  ) (Nat.le_of_ble_eq_true rfl) ?_
            intro r I746 J747 Ra hq
            obtain ⟨⟨hI746, ec, fiI746, fjI746⟩, rfl⟩ := hq
            rw [ec]
            clear ec Ra
            have fr748 : fz 74 g [22, 23, 24, 25, 26] I I746 := fz_tr fiI739 (fz_mono fiI746 (by decide))
            have fr749 : fz 74 g [] J J747 := fz_tr fjJ740 (fz_mono fjI746 (by decide))
            have e750 : I746 (ad g 1) 1 = L := hI746.2
            have b751 := BT_get hI746.1 1 1 2 (0) (0) (900) (by decide) 1 (by decide) (by decide)
            rw [e750] at b751
            refine WP_aload_n dX0_open_104 rfl ?_
            refine WP_callV0 (k := 0) dX0_open_105 ⟨⟨⟨by decide, by decide⟩, zX0_lossesAsTold⟩, lX0_46, by decide, rfl, vX0_lossesAsTold.1, vX0_lossesAsTold.2⟩ (lyx_is hy 5 0 rfl) (sx_lossesAsTold_27 hy hr hT hI746  ) (Nat.le_of_ble_eq_true rfl) ?_
            intro r I752 J753 Ra hq
            obtain ⟨⟨hI752, ec, fiI752, fjI752⟩, rfl⟩ := hq
            rw [ec]
            clear ec Ra
            have fr754 : fz 74 g [22, 23, 24, 25, 26] I I752 := fz_tr fr748 (fz_mono fiI752 (by decide))
            have fr755 : fz 74 g [] J J753 := fz_tr fr749 (fz_mono fjI752 (by decide))
            have e756 : I752 (ad g 1) 1 = L := hI752.2
            have b757 := BT_get hI752.1 1 1 2 (0) (0) (900) (by decide) 1 (by decide) (by decide)
            rw [e756] at b757
            exact WP_vret dX0_open_108 rfl ⟨⟨hI752, rfl, fr754, fr755⟩, rfl⟩
          · refine WP_aload_n dX0_open_70 rfl ?_
            refine WP_getr dX0_open_71 fX0_21 rfl (lyx_is hy 5 0 rfl) (rfx hr 5 4 25 (by decide)) ?_
            refine WP_iload_n dX0_open_74 rfl ?_
            refine WP_iload_n dX0_open_75 rfl ?_
            refine WP_iload_n dX0_open_76 rfl ?_
            refine WQ_imulb (5) (9) dX0_open_77 ⟨by omega, by omega⟩ ⟨by omega, by omega⟩ (by decide) (fun v758 pv758 av758 bv758 cv758 => ?_)
            refine WQ_iast dX0_open_78 (lyx_is hy 25 13 rfl) (lyx_n hy 25 6 rfl) (by omega) (by omega) (fun I759 eI759 => ?_)
            have hI759 : XI g n L I759 := by rw [eI759]; exact (xi_r hy hI739 (c := 25) (0) (0) (45) (by decide) (Or.inl (by decide)) (by decide) (by omega) (by omega))
            have e760 : I759 (ad g 1) 1 = L := by rw [eI759, pp_ne _ _ (Or.inl (lyx_ne hy (by decide) (by decide) (by decide)))]; exact e742
            have fr761 : fz 74 g [22, 23, 24, 25, 26] I I759 := by rw [eI759]; exact fzx_pp hy fiI739 (by decide) (by decide)
            clear eI759
            refine WP_aload_n dX0_open_79 rfl ?_
            refine WP_getr dX0_open_80 fX0_24 rfl (lyx_is hy 5 0 rfl) (rfx hr 5 5 26 (by decide)) ?_
            refine WP_iload_n dX0_open_83 rfl ?_
            refine WP_iload_n dX0_open_84 rfl ?_
            refine WP_iload_n dX0_open_85 rfl ?_
            refine WP_iload_n dX0_open_86 rfl ?_
            refine WQ_imulb (5) (1000) dX0_open_87 ⟨by omega, by omega⟩ ⟨by omega, by omega⟩ (by decide) (fun v762 pv762 av762 bv762 cv762 => ?_)
            refine WQ_sipush (1000) (1000) dX0_open_88 rfl rfl (fun v763 hv763 => ?_)
            refine WQ_idivk (1000) dX0_open_91 hv763 (by decide) (by omega) (fun v764 hv764 => ?_)
            refine WQ_isub dX0_open_92 (by omega) (by omega) (fun v765 hv765 => ?_)
            refine WQ_iast dX0_open_93 (lyx_is hy 26 13 rfl) (lyx_n hy 26 6 rfl) (by omega) (by omega) (fun I766 eI766 => ?_)
            have hI766 : XI g n L I766 := by rw [eI766]; exact (xi_r hy hI759 (c := 26) (0) (0) (5) (by decide) (Or.inl (by decide)) (by decide) (by omega) (by omega))
            have e767 : I766 (ad g 1) 1 = L := by rw [eI766, pp_ne _ _ (Or.inl (lyx_ne hy (by decide) (by decide) (by decide)))]; exact e760
            have fr768 : fz 74 g [22, 23, 24, 25, 26] I I766 := by rw [eI766]; exact fzx_pp hy fr761 (by decide) (by decide)
            clear eI766
            refine WP_iinc (ls' := [(0, _), (1, _), (2, _), (3, _)]) dX0_open_94 rfl (by decide) rfl ?_
            have hv769 : (i738 + Int32.ofInt (1)).toInt = i738.toInt + (1) := ia_n rfl (by omega) (by omega)
            generalize i738 + Int32.ofInt (1) = v769 at hv769 ⊢
            refine WP_goto 64 dX0_open_97 rfl ?_
            exact WP_sub (fc rfl (fc rfl (fc rfl (fc rfl fn)))) (ihlp64_740 v769 I766 J740 hI766 fr768 fjJ740 (by omega) (by omega) (by omega))
      exact WP_sub (fc rfl (fc rfl (fc rfl (fc rfl fn)))) (lp64_740 _ v737 I J hI fr0 frj0 (by omega) (by omega) (Nat.lt_succ_self _))
    refine WQ_icmp_ne 46 dX0_open_39 rfl (fun c769 => ?_) (fun c769 => ?_)
    · refine WP_aload_n dX0_open_46 rfl ?_
      refine WP_getr dX0_open_47 fX0_27 rfl (lyx_is hy 5 0 rfl) hT ?_
      refine WP_getr dX0_open_50 fX0_40 rfl (lyx_is hy 27 7 rfl) (rfx hr 27 14 37 (by decide)) ?_
      refine WP_aload_n dX0_open_53 rfl ?_
      refine WP_getr dX0_open_54 fX0_27 rfl (lyx_is hy 5 0 rfl) hT ?_
      refine WQ_getim dX0_open_57 fX0_31 rfl (lyx_is hy 27 7 rfl) ev726 ?_
      refine WQ_iald dX0_open_60 (lyx_is hy 37 13 rfl) (lyx_n hy 37 3 rfl) (by omega) (by omega) (fun q hq => BT_get hI.1 37 0 3 (0) (0) (1000) (by decide) q (Nat.zero_le _) hq) (fun v771 av771 bv771 ev771 => ?_)
      clear ev771
      exact WP_sub (fc rfl (fc rfl fn)) (jn61_735 v771 (by omega) (by omega))
    · refine WQ_iconst (0) (0) dX0_open_42 rfl rfl (fun v772 hv772 => ?_)
      refine WP_goto 61 dX0_open_43 rfl ?_
      exact WP_sub (fc rfl (fc rfl fn)) (jn61_735 v772 (by omega) (by omega))
  refine WQ_icmp_ne 15 dX0_open_8 rfl (fun c772 => ?_) (fun c772 => ?_)
  · refine WP_aload_n dX0_open_15 rfl ?_
    refine WP_getr dX0_open_16 fX0_27 rfl (lyx_is hy 5 0 rfl) hT ?_
    refine WP_getr dX0_open_19 fX0_37 rfl (lyx_is hy 27 7 rfl) (rfx hr 27 15 38 (by decide)) ?_
    refine WP_aload_n dX0_open_22 rfl ?_
    refine WP_getr dX0_open_23 fX0_27 rfl (lyx_is hy 5 0 rfl) hT ?_
    refine WQ_getim dX0_open_26 fX0_31 rfl (lyx_is hy 27 7 rfl) ev726 ?_
    refine WQ_iald dX0_open_29 (lyx_is hy 38 13 rfl) (lyx_n hy 38 3 rfl) (by omega) (by omega) (fun q hq => BT_get hI.1 38 0 3 (0) (0) (9) (by decide) q (Nat.zero_le _) hq) (fun v774 av774 bv774 ev774 => ?_)
    clear ev774
    exact WP_sub (fc rfl fn) (jn30_730 v774 (by omega) (by omega))
  · refine WQ_iconst (0) (0) dX0_open_11 rfl rfl (fun v775 hv775 => ?_)
    refine WP_goto 30 dX0_open_12 rfl ?_
    exact WP_sub (fc rfl fn) (jn30_730 v775 (by omega) (by omega))
