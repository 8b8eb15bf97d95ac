set_option maxHeartbeats 4000000 in
set_option maxRecDepth 100000 in
theorem sx_book_6 {g : GG} {n : Int} {L : Int32} (hy : LyX g) {aK aV : Nat → Nat} {fo : Option Nat} (hz : HZ g aK aV fo)  {I : pI} {J : pJ} {R : pR} (hr : RfX g R) (hT : R (ad g 5) 0 = some (ad g 6)) (hI : XI g n L I)   : SP g mX10_book [.ref (ad g 0)] I J R (fun r I' J' R' => ((∃ L2 : Int32, XI g n L2 I' ∧ L2.toInt = 0) ∧ R' = R ∧ fz 74 g [1, 3, 4] I I' ∧ fz 74 g [1] J J') ∧ ∃ v : Int32, r = some (.int v)) := by
  refine SP_of ⟨by decide, rfl⟩ (Nat.le_of_ble_eq_true rfl) ?_
  have e21395 : I (ad g 1) 1 = L := hI.2
  have b21396 := BT_get hI.1 1 1 2 (0) (0) (900) (by decide) 1 (by decide) (by decide)
  rw [e21395] at b21396
  have fr0 : fz 74 g [1, 3, 4] I I := fz_rf
  have frj0 : fz 74 g [1] J J := fz_rf
  refine WP_aload_n dX10_book_0 rfl ?_
  refine WP_getr dX10_book_1 fX10_21 rfl (lyx_is hy 0 10 rfl) (rfx hr 0 1 3 (by decide)) ?_
  refine WP_aload_n dX10_book_4 rfl ?_
  refine WP_getr dX10_book_5 fX10_33 rfl (lyx_is hy 0 10 rfl) (rfx hr 0 2 5 (by decide)) ?_
  refine WP_getr dX10_book_8 fX10_102 rfl (lyx_is hy 5 0 rfl) hT ?_
  refine WP_callV1 (k := 3) dX10_book_11 ⟨⟨⟨by decide, by decide⟩, zX3_readBook⟩, lX10_328, by decide, rfl, vX3_readBook.1, vX3_readBook.2⟩ (lyx_is hy 3 3 rfl) (sx_readBook_6 hy hz hr hI  ) (Nat.le_of_ble_eq_true rfl) ?_
  intro r I21397 J21398 Ra hq
  obtain ⟨⟨hI21397, ec, fiI21397, fjI21397⟩, v21399, rfl⟩ := hq
  show WP _ _ _ _ (.int _ :: _) _ _ _ _
  rw [ec]
  clear ec Ra
  have fr21400 : fz 74 g [1, 3, 4] I I21397 := fz_tr fr0 (fz_mono fiI21397 (by decide))
  have fr21401 : fz 74 g [1] J J21398 := fz_tr frj0 (fz_mono fjI21397 (by decide))
  have e21402 : I21397 (ad g 1) 1 = L := hI21397.2
  have b21403 := BT_get hI21397.1 1 1 2 (0) (0) (900) (by decide) 1 (by decide) (by decide)
  rw [e21402] at b21403
  refine WP_istore_n (ls' := [(0, _), (1, _)]) dX10_book_14 (by decide) rfl ?_
  refine WP_aload_n dX10_book_15 rfl ?_
  refine WP_getr dX10_book_16 fX10_12 rfl (lyx_is hy 0 10 rfl) (rfx hr 0 0 1 (by decide)) ?_
  refine WQ_iconst (0) (0) dX10_book_19 rfl rfl (fun v21404 hv21404 => ?_)
  refine WQ_puti dX10_book_20 fX10_90 rfl rfl (lyx_is hy 1 5 rfl) (fun I21405 eI21405 => ?_)
  have hI21405 : XI g n v21404 I21405 := by rw [eI21405]; exact (xi_len hy hI21397 (by omega) (by omega))
  have e21406 : I21405 (ad g 1) 1 = v21404 := by rw [eI21405, pp_self]
  have fr21407 : fz 74 g [1, 3, 4] I I21405 := by rw [eI21405]; exact fzx_pp hy fr21400 (by decide) (by decide)
  clear eI21405
  refine WP_iload_n dX10_book_23 rfl ?_
  exact WP_iret dX10_book_24 rfl ⟨⟨⟨_, hI21405, by omega⟩, rfl, fr21407, fr21401⟩, _, rfl⟩
set_option maxHeartbeats 4000000 in
set_option maxRecDepth 100000 in
theorem sx_values_6 {g : GG} {n : Int} {L : Int32} (hy : LyX g) {aK aV : Nat → Nat} {fo : Option Nat} (hz : HZ g aK aV fo)  {I : pI} {J : pJ} {R : pR} (hr : RfX g R) (hT : R (ad g 5) 0 = some (ad g 6)) (hI : XI g n L I)   : SP g mX10_values [.ref (ad g 0)] I J R (fun r I' J' R' => ((∃ L2 : Int32, XI g n L2 I' ∧ L2.toInt = 0) ∧ R' = R ∧ fz 74 g [1, 4, 72, 73] I I' ∧ fz 74 g [1] J J') ∧ ∃ v : Int32, r = some (.int v)) := by
  refine SP_of ⟨by decide, rfl⟩ (Nat.le_of_ble_eq_true rfl) ?_
  have e21408 : I (ad g 1) 1 = L := hI.2
  have b21409 := BT_get hI.1 1 1 2 (0) (0) (900) (by decide) 1 (by decide) (by decide)
  rw [e21408] at b21409
  have fr0 : fz 74 g [1, 4, 72, 73] I I := fz_rf
  have frj0 : fz 74 g [1] J J := fz_rf
  refine WP_aload_n dX10_values_0 rfl ?_
  refine WP_getr dX10_values_1 fX10_21 rfl (lyx_is hy 0 10 rfl) (rfx hr 0 1 3 (by decide)) ?_
  refine WP_aload_n dX10_values_4 rfl ?_
  refine WP_getr dX10_values_5 fX10_33 rfl (lyx_is hy 0 10 rfl) (rfx hr 0 2 5 (by decide)) ?_
  refine WP_getr dX10_values_8 fX10_102 rfl (lyx_is hy 5 0 rfl) hT ?_
  refine WP_aload_n dX10_values_11 rfl ?_
  refine WP_getr dX10_values_12 fX10_83 rfl (lyx_is hy 0 10 rfl) (rfx hr 0 9 71 (by decide)) ?_
  refine WP_getr dX10_values_15 fX10_296 rfl (lyx_is hy 71 1 rfl) (rfx hr 71 2 72 (by decide)) ?_
  refine WP_callV2 (k := 3) dX10_values_18 ⟨⟨⟨by decide, by decide⟩, zX3_readValues⟩, lX10_299, by decide, rfl, vX3_readValues.1, vX3_readValues.2⟩ (lyx_is hy 3 3 rfl) (sx_readValues_6 hy hz hr hI  ) (Nat.le_of_ble_eq_true rfl) ?_
  intro r I21410 J21411 Ra hq
  obtain ⟨⟨hI21410, ec, fiI21410, fjI21410⟩, v21412, rfl, av21412, bv21412⟩ := hq
  show WP _ _ _ _ (.int _ :: _) _ _ _ _
  rw [ec]
  clear ec Ra
  have fr21413 : fz 74 g [1, 4, 72, 73] I I21410 := fz_tr fr0 (fz_mono fiI21410 (by decide))
  have fr21414 : fz 74 g [1] J J21411 := fz_tr frj0 (fz_mono fjI21410 (by decide))
  have e21415 : I21410 (ad g 1) 1 = L := hI21410.2
  have b21416 := BT_get hI21410.1 1 1 2 (0) (0) (900) (by decide) 1 (by decide) (by decide)
  rw [e21415] at b21416
  refine WP_istore_n (ls' := [(0, _), (1, _)]) dX10_values_21 (by decide) rfl ?_
  refine WP_aload_n dX10_values_22 rfl ?_
  refine WP_getr dX10_values_23 fX10_12 rfl (lyx_is hy 0 10 rfl) (rfx hr 0 0 1 (by decide)) ?_
  refine WQ_iconst (0) (0) dX10_values_26 rfl rfl (fun v21417 hv21417 => ?_)
  refine WQ_puti dX10_values_27 fX10_90 rfl rfl (lyx_is hy 1 5 rfl) (fun I21418 eI21418 => ?_)
  have hI21418 : XI g n v21417 I21418 := by rw [eI21418]; exact (xi_len hy hI21410 (by omega) (by omega))
  have e21419 : I21418 (ad g 1) 1 = v21417 := by rw [eI21418, pp_self]
  have fr21420 : fz 74 g [1, 4, 72, 73] I I21418 := by rw [eI21418]; exact fzx_pp hy fr21413 (by decide) (by decide)
  clear eI21418
  refine WP_iload_n dX10_values_30 rfl ?_
  refine WQ_if_ne 36 dX10_values_31 rfl (fun c21420 => ?_) (fun c21420 => ?_)
  · refine WP_aload_n dX10_values_36 rfl ?_
    refine WP_getr dX10_values_37 fX10_83 rfl (lyx_is hy 0 10 rfl) (rfx hr 0 9 71 (by decide)) ?_
    refine WP_callV0 (k := 1) dX10_values_40 ⟨⟨⟨by decide, by decide⟩, zX1_takeDraft⟩, lX10_303, by decide, rfl, vX1_takeDraft.1, vX1_takeDraft.2⟩ (lyx_is hy 71 1 rfl) (sx_takeDraft hy hr hI21418  ) (Nat.le_of_ble_eq_true rfl) ?_
    intro r I21422 J21423 Ra hq
    obtain ⟨⟨hI21422, ec, fiI21422, fjI21422⟩, rfl⟩ := hq
    rw [ec]
    clear ec Ra
    have fr21424 : fz 74 g [1, 4, 72, 73] I I21422 := fz_tr fr21420 (fz_mono fiI21422 (by decide))
    have fr21425 : fz 74 g [1] J J21423 := fz_tr fr21414 (fz_mono fjI21422 (by decide))
    have e21426 : I21422 (ad g 1) 1 = v21417 := hI21422.2
    have b21427 := BT_get hI21422.1 1 1 2 (0) (0) (900) (by decide) 1 (by decide) (by decide)
    rw [e21426] at b21427
    refine WQ_iconst (1) (1) dX10_values_43 rfl rfl (fun v21428 hv21428 => ?_)
    exact WP_iret dX10_values_44 rfl ⟨⟨⟨_, hI21422, by omega⟩, rfl, fr21424, fr21425⟩, _, rfl⟩
  · refine WQ_iconst (-1) (-1) dX10_values_34 rfl rfl (fun v21429 hv21429 => ?_)
    exact WP_iret dX10_values_35 rfl ⟨⟨⟨_, hI21418, by omega⟩, rfl, fr21420, fr21414⟩, _, rfl⟩
set_option maxHeartbeats 4000000 in
set_option maxRecDepth 100000 in
theorem sx_town_6 {g : GG} {n : Int} {L : Int32} (hy : LyX g) {aK aV : Nat → Nat} {fo : Option Nat} (hz : HZ g aK aV fo)  {I : pI} {J : pJ} {R : pR} (hr : RfX g R) (hP : NL g R) (hT : R (ad g 5) 0 = some (ad g 6)) (hI : XI g n L I)   (hn : 0 ≤ n) (hsp : R (ad g 0) 10 = some (ad g 27)) : SP g mX10_town [.ref (ad g 0)] I J R (fun r I' J' R' => ((∃ L2 : Int32, XI g n L2 I' ∧ L2.toInt = 0) ∧ (RfX g R' ∧ TS g R' ∧ NL g R') ∧ fz 74 g [0, 1, 3, 4, 22, 23, 24, 25, 26, 27, 28, 29, 30, 31, 32, 33, 34, 35, 36, 37, 38, 39, 40, 42, 53, 54, 55, 60, 63, 66, 73] I I' ∧ fz 74 g [1, 41, 53] J J') ∧ ∃ v : Int32, r = some (.int v)) := by
  refine SP_of ⟨by decide, rfl⟩ (Nat.le_of_ble_eq_true rfl) ?_
  have e21430 : I (ad g 1) 1 = L := hI.2
  have b21431 := BT_get hI.1 1 1 2 (0) (0) (900) (by decide) 1 (by decide) (by decide)
  rw [e21430] at b21431
  have fr0 : fz 74 g [0, 1, 3, 4, 22, 23, 24, 25, 26, 27, 28, 29, 30, 31, 32, 33, 34, 35, 36, 37, 38, 39, 40, 42, 53, 54, 55, 60, 63, 66, 73] I I := fz_rf
  have frj0 : fz 74 g [1, 41, 53] J J := fz_rf
  refine WP_aload_n dX10_town_0 rfl ?_
  refine WP_getr dX10_town_1 fX10_21 rfl (lyx_is hy 0 10 rfl) (rfx hr 0 1 3 (by decide)) ?_
  refine WP_aload_n dX10_town_4 rfl ?_
  refine WP_getr dX10_town_5 fX10_37 rfl (lyx_is hy 0 10 rfl) hsp ?_
  refine WP_callV1 (k := 3) dX10_town_8 ⟨⟨⟨by decide, by decide⟩, zX3_readTown⟩, lX10_98, by decide, rfl, vX3_readTown.1, vX3_readTown.2⟩ (lyx_is hy 3 3 rfl) (sx_readTown_27 hy hz hr hI  ) (Nat.le_of_ble_eq_true rfl) ?_
  intro r I21432 J21433 Ra hq
  obtain ⟨⟨hI21432, ec, fiI21432, fjI21432⟩, v21434, rfl, av21434, bv21434⟩ := hq
  show WP _ _ _ _ (.int _ :: _) _ _ _ _
  rw [ec]
  clear ec Ra
  have fr21435 : fz 74 g [0, 1, 3, 4, 22, 23, 24, 25, 26, 27, 28, 29, 30, 31, 32, 33, 34, 35, 36, 37, 38, 39, 40, 42, 53, 54, 55, 60, 63, 66, 73] I I21432 := fz_tr fr0 (fz_mono fiI21432 (by decide))
  have fr21436 : fz 74 g [1, 41, 53] J J21433 := fz_tr frj0 (fz_mono fjI21432 (by decide))
  have e21437 : I21432 (ad g 1) 1 = L := hI21432.2
  have b21438 := BT_get hI21432.1 1 1 2 (0) (0) (900) (by decide) 1 (by decide) (by decide)
  rw [e21437] at b21438
  refine WP_istore_n (ls' := [(0, _), (1, _)]) dX10_town_11 (by decide) rfl ?_
  refine WP_aload_n dX10_town_12 rfl ?_
  refine WP_getr dX10_town_13 fX10_12 rfl (lyx_is hy 0 10 rfl) (rfx hr 0 0 1 (by decide)) ?_
  refine WQ_iconst (0) (0) dX10_town_16 rfl rfl (fun v21439 hv21439 => ?_)
  refine WQ_puti dX10_town_17 fX10_90 rfl rfl (lyx_is hy 1 5 rfl) (fun I21440 eI21440 => ?_)
  have hI21440 : XI g n v21439 I21440 := by rw [eI21440]; exact (xi_len hy hI21432 (by omega) (by omega))
  have e21441 : I21440 (ad g 1) 1 = v21439 := by rw [eI21440, pp_self]
  have fr21442 : fz 74 g [0, 1, 3, 4, 22, 23, 24, 25, 26, 27, 28, 29, 30, 31, 32, 33, 34, 35, 36, 37, 38, 39, 40, 42, 53, 54, 55, 60, 63, 66, 73] I I21440 := by rw [eI21440]; exact fzx_pp hy fr21435 (by decide) (by decide)
  clear eI21440
  refine WP_iload_n dX10_town_20 rfl ?_
  refine WQ_if_ne 26 dX10_town_21 rfl (fun c21442 => ?_) (fun c21442 => ?_)
  · refine WP_aload_n dX10_town_26 rfl ?_
    refine WP_getr dX10_town_27 fX10_33 rfl (lyx_is hy 0 10 rfl) (rfx hr 0 2 5 (by decide)) ?_
    refine WP_getr dX10_town_30 fX10_102 rfl (lyx_is hy 5 0 rfl) hT ?_
    refine WP_astore_n (ls' := [(0, _), (1, _), (2, _)]) dX10_town_33 (by decide) rfl ?_
    refine WP_aload_n dX10_town_34 rfl ?_
    refine WP_getr dX10_town_35 fX10_33 rfl (lyx_is hy 0 10 rfl) (rfx hr 0 2 5 (by decide)) ?_
    refine WP_aload_n dX10_town_38 rfl ?_
    refine WP_getr dX10_town_39 fX10_37 rfl (lyx_is hy 0 10 rfl) hsp ?_
    refine WP_putr dX10_town_42 fX10_102 rfl rfl rfl rfl (lyx_is hy 5 0 rfl) ?_
    obtain ⟨R21444, eR21444⟩ : ∃ R9 : pR, R9 = pp R (ad g 5) 0 (some (ad g 27)) := ⟨_, rfl⟩
    rw [← eR21444]
    have hrR21444 : RfX g R21444 := by rw [eR21444]; exact rfx_pt hy hr (by decide)
    have hPR21444 : NL g R21444 := by rw [eR21444]; exact nl_pt hy hP (by decide) (by decide)
    have hOR21444 : R21444 (ad g 0) 10 = some (ad g 27) := by rw [eR21444, pp_ne _ _ (Or.inl (lyx_ne hy (by decide) (by decide) (by decide)))]; exact hsp
    have hQR21444 : R21444 (ad g 5) 0 = some (ad g 27) := by rw [eR21444, pp_self]
    clear eR21444
    refine WP_aload_n dX10_town_45 rfl ?_
    refine WP_aload_n dX10_town_46 rfl ?_
    refine WP_putr dX10_town_47 fX10_37 rfl rfl rfl rfl (lyx_is hy 0 10 rfl) ?_
    obtain ⟨R21445, eR21445⟩ : ∃ R9 : pR, R9 = pp R21444 (ad g 0) 10 (some (ad g 6)) := ⟨_, rfl⟩
    rw [← eR21445]
    have hrR21445 : RfX g R21445 := by rw [eR21445]; exact rfx_pt hy hrR21444 (by decide)
    have hPR21445 : NL g R21445 := by rw [eR21445]; exact nl_pt hy hPR21444 (by decide) (by decide)
    have hOR21445 : R21445 (ad g 5) 0 = some (ad g 27) := by rw [eR21445, pp_ne _ _ (Or.inl (lyx_ne hy (by decide) (by decide) (by decide)))]; exact hQR21444
    have hQR21445 : R21445 (ad g 0) 10 = some (ad g 6) := by rw [eR21445, pp_self]
    clear eR21445
    refine WP_aload_n dX10_town_50 rfl ?_
    refine WP_callV0 (k := 10) dX10_town_51 ⟨⟨⟨by decide, by decide⟩, zX10_settle⟩, lX10_87, by decide, rfl, vX10_settle.1, vX10_settle.2⟩ (lyx_is hy 0 10 rfl) (sx_settle_27 hy hrR21445 hOR21445 hI21440   (by omega)) (Nat.le_of_ble_eq_true rfl) ?_
    intro r I21446 J21447 Ra hq
    obtain ⟨⟨hI21446, ec, fiI21446, fjI21446⟩, rfl⟩ := hq
    rw [ec]
    clear ec Ra
    have fr21448 : fz 74 g [0, 1, 3, 4, 22, 23, 24, 25, 26, 27, 28, 29, 30, 31, 32, 33, 34, 35, 36, 37, 38, 39, 40, 42, 53, 54, 55, 60, 63, 66, 73] I I21446 := fz_tr fr21442 (fz_mono fiI21446 (by decide))
    have fr21449 : fz 74 g [1, 41, 53] J J21447 := fz_tr fr21436 (fz_mono fjI21446 (by decide))
    have e21450 : I21446 (ad g 1) 1 = v21439 := hI21446.2
    have b21451 := BT_get hI21446.1 1 1 2 (0) (0) (900) (by decide) 1 (by decide) (by decide)
    rw [e21450] at b21451
    refine WP_aload_n dX10_town_54 rfl ?_
    refine WP_getr dX10_town_55 fX10_33 rfl (lyx_is hy 0 10 rfl) (rfx hrR21445 0 2 5 (by decide)) ?_
    refine WP_getr dX10_town_58 fX10_102 rfl (lyx_is hy 5 0 rfl) hOR21445 ?_
    refine WQ_getiu dX10_town_61 fX10_105 rfl (lyx_is hy 27 7 rfl) (fun v21452 ev21452 => ?_)
    exact WP_iret dX10_town_64 rfl ⟨⟨⟨_, hI21446, by omega⟩, ⟨hrR21445, (Or.inr ⟨hOR21445, hQR21445⟩), hPR21445⟩, fr21448, fr21449⟩, _, rfl⟩
  · refine WQ_iconst (-1) (-1) dX10_town_24 rfl rfl (fun v21453 hv21453 => ?_)
    exact WP_iret dX10_town_25 rfl ⟨⟨⟨_, hI21440, by omega⟩, ⟨hr, (Or.inl ⟨hT, hsp⟩), hP⟩, fr21442, fr21436⟩, _, rfl⟩
set_option maxHeartbeats 4000000 in
set_option maxRecDepth 100000 in
theorem sx_book_27 {g : GG} {n : Int} {L : Int32} (hy : LyX g) {aK aV : Nat → Nat} {fo : Option Nat} (hz : HZ g aK aV fo)  {I : pI} {J : pJ} {R : pR} (hr : RfX g R) (hT : R (ad g 5) 0 = some (ad g 27)) (hI : XI g n L I)   : SP g mX10_book [.ref (ad g 0)] I J R (fun r I' J' R' => ((∃ L2 : Int32, XI g n L2 I' ∧ L2.toInt = 0) ∧ R' = R ∧ fz 74 g [1, 3, 4] I I' ∧ fz 74 g [1] J J') ∧ ∃ v : Int32, r = some (.int v)) := by
  refine SP_of ⟨by decide, rfl⟩ (Nat.le_of_ble_eq_true rfl) ?_
  have e21454 : I (ad g 1) 1 = L := hI.2
  have b21455 := BT_get hI.1 1 1 2 (0) (0) (900) (by decide) 1 (by decide) (by decide)
  rw [e21454] at b21455
  have fr0 : fz 74 g [1, 3, 4] I I := fz_rf
  have frj0 : fz 74 g [1] J J := fz_rf
  refine WP_aload_n dX10_book_0 rfl ?_
  refine WP_getr dX10_book_1 fX10_21 rfl (lyx_is hy 0 10 rfl) (rfx hr 0 1 3 (by decide)) ?_
  refine WP_aload_n dX10_book_4 rfl ?_
  refine WP_getr dX10_book_5 fX10_33 rfl (lyx_is hy 0 10 rfl) (rfx hr 0 2 5 (by decide)) ?_
  refine WP_getr dX10_book_8 fX10_102 rfl (lyx_is hy 5 0 rfl) hT ?_
  refine WP_callV1 (k := 3) dX10_book_11 ⟨⟨⟨by decide, by decide⟩, zX3_readBook⟩, lX10_328, by decide, rfl, vX3_readBook.1, vX3_readBook.2⟩ (lyx_is hy 3 3 rfl) (sx_readBook_27 hy hz hr hI  ) (Nat.le_of_ble_eq_true rfl) ?_
  intro r I21456 J21457 Ra hq
  obtain ⟨⟨hI21456, ec, fiI21456, fjI21456⟩, v21458, rfl⟩ := hq
  show WP _ _ _ _ (.int _ :: _) _ _ _ _
  rw [ec]
  clear ec Ra
  have fr21459 : fz 74 g [1, 3, 4] I I21456 := fz_tr fr0 (fz_mono fiI21456 (by decide))
  have fr21460 : fz 74 g [1] J J21457 := fz_tr frj0 (fz_mono fjI21456 (by decide))
  have e21461 : I21456 (ad g 1) 1 = L := hI21456.2
  have b21462 := BT_get hI21456.1 1 1 2 (0) (0) (900) (by decide) 1 (by decide) (by decide)
  rw [e21461] at b21462
  refine WP_istore_n (ls' := [(0, _), (1, _)]) dX10_book_14 (by decide) rfl ?_
  refine WP_aload_n dX10_book_15 rfl ?_
  refine WP_getr dX10_book_16 fX10_12 rfl (lyx_is hy 0 10 rfl) (rfx hr 0 0 1 (by decide)) ?_
  refine WQ_iconst (0) (0) dX10_book_19 rfl rfl (fun v21463 hv21463 => ?_)
  refine WQ_puti dX10_book_20 fX10_90 rfl rfl (lyx_is hy 1 5 rfl) (fun I21464 eI21464 => ?_)
  have hI21464 : XI g n v21463 I21464 := by rw [eI21464]; exact (xi_len hy hI21456 (by omega) (by omega))
  have e21465 : I21464 (ad g 1) 1 = v21463 := by rw [eI21464, pp_self]
  have fr21466 : fz 74 g [1, 3, 4] I I21464 := by rw [eI21464]; exact fzx_pp hy fr21459 (by decide) (by decide)
  clear eI21464
  refine WP_iload_n dX10_book_23 rfl ?_
  exact WP_iret dX10_book_24 rfl ⟨⟨⟨_, hI21464, by omega⟩, rfl, fr21466, fr21460⟩, _, rfl⟩
set_option maxHeartbeats 4000000 in
set_option maxRecDepth 100000 in
theorem sx_values_27 {g : GG} {n : Int} {L : Int32} (hy : LyX g) {aK aV : Nat → Nat} {fo : Option Nat} (hz : HZ g aK aV fo)  {I : pI} {J : pJ} {R : pR} (hr : RfX g R) (hT : R (ad g 5) 0 = some (ad g 27)) (hI : XI g n L I)   : SP g mX10_values [.ref (ad g 0)] I J R (fun r I' J' R' => ((∃ L2 : Int32, XI g n L2 I' ∧ L2.toInt = 0) ∧ R' = R ∧ fz 74 g [1, 4, 72, 73] I I' ∧ fz 74 g [1] J J') ∧ ∃ v : Int32, r = some (.int v)) := by
  refine SP_of ⟨by decide, rfl⟩ (Nat.le_of_ble_eq_true rfl) ?_
  have e21467 : I (ad g 1) 1 = L := hI.2
  have b21468 := BT_get hI.1 1 1 2 (0) (0) (900) (by decide) 1 (by decide) (by decide)
  rw [e21467] at b21468
  have fr0 : fz 74 g [1, 4, 72, 73] I I := fz_rf
  have frj0 : fz 74 g [1] J J := fz_rf
  refine WP_aload_n dX10_values_0 rfl ?_
  refine WP_getr dX10_values_1 fX10_21 rfl (lyx_is hy 0 10 rfl) (rfx hr 0 1 3 (by decide)) ?_
  refine WP_aload_n dX10_values_4 rfl ?_
  refine WP_getr dX10_values_5 fX10_33 rfl (lyx_is hy 0 10 rfl) (rfx hr 0 2 5 (by decide)) ?_
  refine WP_getr dX10_values_8 fX10_102 rfl (lyx_is hy 5 0 rfl) hT ?_
  refine WP_aload_n dX10_values_11 rfl ?_
  refine WP_getr dX10_values_12 fX10_83 rfl (lyx_is hy 0 10 rfl) (rfx hr 0 9 71 (by decide)) ?_
  refine WP_getr dX10_values_15 fX10_296 rfl (lyx_is hy 71 1 rfl) (rfx hr 71 2 72 (by decide)) ?_
  refine WP_callV2 (k := 3) dX10_values_18 ⟨⟨⟨by decide, by decide⟩, zX3_readValues⟩, lX10_299, by decide, rfl, vX3_readValues.1, vX3_readValues.2⟩ (lyx_is hy 3 3 rfl) (sx_readValues_27 hy hz hr hI  ) (Nat.le_of_ble_eq_true rfl) ?_
  intro r I21469 J21470 Ra hq
  obtain ⟨⟨hI21469, ec, fiI21469, fjI21469⟩, v21471, rfl, av21471, bv21471⟩ := hq
  show WP _ _ _ _ (.int _ :: _) _ _ _ _
  rw [ec]
  clear ec Ra
  have fr21472 : fz 74 g [1, 4, 72, 73] I I21469 := fz_tr fr0 (fz_mono fiI21469 (by decide))
  have fr21473 : fz 74 g [1] J J21470 := fz_tr frj0 (fz_mono fjI21469 (by decide))
  have e21474 : I21469 (ad g 1) 1 = L := hI21469.2
  have b21475 := BT_get hI21469.1 1 1 2 (0) (0) (900) (by decide) 1 (by decide) (by decide)
  rw [e21474] at b21475
  refine WP_istore_n (ls' := [(0, _), (1, _)]) dX10_values_21 (by decide) rfl ?_
  refine WP_aload_n dX10_values_22 rfl ?_
  refine WP_getr dX10_values_23 fX10_12 rfl (lyx_is hy 0 10 rfl) (rfx hr 0 0 1 (by decide)) ?_
  refine WQ_iconst (0) (0) dX10_values_26 rfl rfl (fun v21476 hv21476 => ?_)
  refine WQ_puti dX10_values_27 fX10_90 rfl rfl (lyx_is hy 1 5 rfl) (fun I21477 eI21477 => ?_)
  have hI21477 : XI g n v21476 I21477 := by rw [eI21477]; exact (xi_len hy hI21469 (by omega) (by omega))
  have e21478 : I21477 (ad g 1) 1 = v21476 := by rw [eI21477, pp_self]
  have fr21479 : fz 74 g [1, 4, 72, 73] I I21477 := by rw [eI21477]; exact fzx_pp hy fr21472 (by decide) (by decide)
  clear eI21477
  refine WP_iload_n dX10_values_30 rfl ?_
  refine WQ_if_ne 36 dX10_values_31 rfl (fun c21479 => ?_) (fun c21479 => ?_)
  · refine WP_aload_n dX10_values_36 rfl ?_
    refine WP_getr dX10_values_37 fX10_83 rfl (lyx_is hy 0 10 rfl) (rfx hr 0 9 71 (by decide)) ?_
    refine WP_callV0 (k := 1) dX10_values_40 ⟨⟨⟨by decide, by decide⟩, zX1_takeDraft⟩, lX10_303, by decide, rfl, vX1_takeDraft.1, vX1_takeDraft.2⟩ (lyx_is hy 71 1 rfl) (sx_takeDraft hy hr hI21477  ) (Nat.le_of_ble_eq_true rfl) ?_
    intro r I21481 J21482 Ra hq
    obtain ⟨⟨hI21481, ec, fiI21481, fjI21481⟩, rfl⟩ := hq
    rw [ec]
    clear ec Ra
    have fr21483 : fz 74 g [1, 4, 72, 73] I I21481 := fz_tr fr21479 (fz_mono fiI21481 (by decide))
    have fr21484 : fz 74 g [1] J J21482 := fz_tr fr21473 (fz_mono fjI21481 (by decide))
    have e21485 : I21481 (ad g 1) 1 = v21476 := hI21481.2
    have b21486 := BT_get hI21481.1 1 1 2 (0) (0) (900) (by decide) 1 (by decide) (by decide)
    rw [e21485] at b21486
    refine WQ_iconst (1) (1) dX10_values_43 rfl rfl (fun v21487 hv21487 => ?_)
    exact WP_iret dX10_values_44 rfl ⟨⟨⟨_, hI21481, by omega⟩, rfl, fr21483, fr21484⟩, _, rfl⟩
  · refine WQ_iconst (-1) (-1) dX10_values_34 rfl rfl (fun v21488 hv21488 => ?_)
    exact WP_iret dX10_values_35 rfl ⟨⟨⟨_, hI21477, by omega⟩, rfl, fr21479, fr21473⟩, _, rfl⟩
set_option maxHeartbeats 4000000 in
set_option maxRecDepth 100000 in
theorem sx_town_27 {g : GG} {n : Int} {L : Int32} (hy : LyX g) {aK aV : Nat → Nat} {fo : Option Nat} (hz : HZ g aK aV fo)  {I : pI} {J : pJ} {R : pR} (hr : RfX g R) (hP : NL g R) (hT : R (ad g 5) 0 = some (ad g 27)) (hI : XI g n L I)   (hn : 0 ≤ n) (hsp : R (ad g 0) 10 = some (ad g 6)) : SP g mX10_town [.ref (ad g 0)] I J R (fun r I' J' R' => ((∃ L2 : Int32, XI g n L2 I' ∧ L2.toInt = 0) ∧ (RfX g R' ∧ TS g R' ∧ NL g R') ∧ fz 74 g [0, 1, 3, 4, 6, 7, 8, 9, 10, 11, 12, 13, 14, 15, 16, 17, 18, 19, 21, 22, 23, 24, 25, 26, 53, 54, 55, 60, 63, 66, 73] I I' ∧ fz 74 g [1, 20, 53] J J') ∧ ∃ v : Int32, r = some (.int v)) := by
  refine SP_of ⟨by decide, rfl⟩ (Nat.le_of_ble_eq_true rfl) ?_
  have e21489 : I (ad g 1) 1 = L := hI.2
  have b21490 := BT_get hI.1 1 1 2 (0) (0) (900) (by decide) 1 (by decide) (by decide)
  rw [e21489] at b21490
  have fr0 : fz 74 g [0, 1, 3, 4, 6, 7, 8, 9, 10, 11, 12, 13, 14, 15, 16, 17, 18, 19, 21, 22, 23, 24, 25, 26, 53, 54, 55, 60, 63, 66, 73] I I := fz_rf
  have frj0 : fz 74 g [1, 20, 53] J J := fz_rf
  refine WP_aload_n dX10_town_0 rfl ?_
  refine WP_getr dX10_town_1 fX10_21 rfl (lyx_is hy 0 10 rfl) (rfx hr 0 1 3 (by decide)) ?_
  refine WP_aload_n dX10_town_4 rfl ?_
  refine WP_getr dX10_town_5 fX10_37 rfl (lyx_is hy 0 10 rfl) hsp ?_
  refine WP_callV1 (k := 3) dX10_town_8 ⟨⟨⟨by decide, by decide⟩, zX3_readTown⟩, lX10_98, by decide, rfl, vX3_readTown.1, vX3_readTown.2⟩ (lyx_is hy 3 3 rfl) (sx_readTown_6 hy hz hr hI  ) (Nat.le_of_ble_eq_true rfl) ?_
  intro r I21491 J21492 Ra hq
  obtain ⟨⟨hI21491, ec, fiI21491, fjI21491⟩, v21493, rfl, av21493, bv21493⟩ := hq
  show WP _ _ _ _ (.int _ :: _) _ _ _ _
  rw [ec]
  clear ec Ra
  have fr21494 : fz 74 g [0, 1, 3, 4, 6, 7, 8, 9, 10, 11, 12, 13, 14, 15, 16, 17, 18, 19, 21, 22, 23, 24, 25, 26, 53, 54, 55, 60, 63, 66, 73] I I21491 := fz_tr fr0 (fz_mono fiI21491 (by decide))
  have fr21495 : fz 74 g [1, 20, 53] J J21492 := fz_tr frj0 (fz_mono fjI21491 (by decide))
  have e21496 : I21491 (ad g 1) 1 = L := hI21491.2
  have b21497 := BT_get hI21491.1 1 1 2 (0) (0) (900) (by decide) 1 (by decide) (by decide)
  rw [e21496] at b21497
  refine WP_istore_n (ls' := [(0, _), (1, _)]) dX10_town_11 (by decide) rfl ?_
  refine WP_aload_n dX10_town_12 rfl ?_
  refine WP_getr dX10_town_13 fX10_12 rfl (lyx_is hy 0 10 rfl) (rfx hr 0 0 1 (by decide)) ?_
  refine WQ_iconst (0) (0) dX10_town_16 rfl rfl (fun v21498 hv21498 => ?_)
  refine WQ_puti dX10_town_17 fX10_90 rfl rfl (lyx_is hy 1 5 rfl) (fun I21499 eI21499 => ?_)
  have hI21499 : XI g n v21498 I21499 := by rw [eI21499]; exact (xi_len hy hI21491 (by omega) (by omega))
  have e21500 : I21499 (ad g 1) 1 = v21498 := by rw [eI21499, pp_self]
  have fr21501 : fz 74 g [0, 1, 3, 4, 6, 7, 8, 9, 10, 11, 12, 13, 14, 15, 16, 17, 18, 19, 21, 22, 23, 24, 25, 26, 53, 54, 55, 60, 63, 66, 73] I I21499 := by rw [eI21499]; exact fzx_pp hy fr21494 (by decide) (by decide)
  clear eI21499
  refine WP_iload_n dX10_town_20 rfl ?_
  refine WQ_if_ne 26 dX10_town_21 rfl (fun c21501 => ?_) (fun c21501 => ?_)
  · refine WP_aload_n dX10_town_26 rfl ?_
    refine WP_getr dX10_town_27 fX10_33 rfl (lyx_is hy 0 10 rfl) (rfx hr 0 2 5 (by decide)) ?_
    refine WP_getr dX10_town_30 fX10_102 rfl (lyx_is hy 5 0 rfl) hT ?_
    refine WP_astore_n (ls' := [(0, _), (1, _), (2, _)]) dX10_town_33 (by decide) rfl ?_
    refine WP_aload_n dX10_town_34 rfl ?_
    refine WP_getr dX10_town_35 fX10_33 rfl (lyx_is hy 0 10 rfl) (rfx hr 0 2 5 (by decide)) ?_
    refine WP_aload_n dX10_town_38 rfl ?_
    refine WP_getr dX10_town_39 fX10_37 rfl (lyx_is hy 0 10 rfl) hsp ?_
    refine WP_putr dX10_town_42 fX10_102 rfl rfl rfl rfl (lyx_is hy 5 0 rfl) ?_
    obtain ⟨R21503, eR21503⟩ : ∃ R9 : pR, R9 = pp R (ad g 5) 0 (some (ad g 6)) := ⟨_, rfl⟩
    rw [← eR21503]
    have hrR21503 : RfX g R21503 := by rw [eR21503]; exact rfx_pt hy hr (by decide)
    have hPR21503 : NL g R21503 := by rw [eR21503]; exact nl_pt hy hP (by decide) (by decide)
    have hOR21503 : R21503 (ad g 0) 10 = some (ad g 6) := by rw [eR21503, pp_ne _ _ (Or.inl (lyx_ne hy (by decide) (by decide) (by decide)))]; exact hsp
    have hQR21503 : R21503 (ad g 5) 0 = some (ad g 6) := by rw [eR21503, pp_self]
    clear eR21503
    refine WP_aload_n dX10_town_45 rfl ?_
    refine WP_aload_n dX10_town_46 rfl ?_
    refine WP_putr dX10_town_47 fX10_37 rfl rfl rfl rfl (lyx_is hy 0 10 rfl) ?_
    obtain ⟨R21504, eR21504⟩ : ∃ R9 : pR, R9 = pp R21503 (ad g 0) 10 (some (ad g 27)) := ⟨_, rfl⟩
    rw [← eR21504]
    have hrR21504 : RfX g R21504 := by rw [eR21504]; exact rfx_pt hy hrR21503 (by decide)
    have hPR21504 : NL g R21504 := by rw [eR21504]; exact nl_pt hy hPR21503 (by decide) (by decide)
    have hOR21504 : R21504 (ad g 5) 0 = some (ad g 6) := by rw [eR21504, pp_ne _ _ (Or.inl (lyx_ne hy (by decide) (by decide) (by decide)))]; exact hQR21503
    have hQR21504 : R21504 (ad g 0) 10 = some (ad g 27) := by rw [eR21504, pp_self]
    clear eR21504
    refine WP_aload_n dX10_town_50 rfl ?_
    refine WP_callV0 (k := 10) dX10_town_51 ⟨⟨⟨by decide, by decide⟩, zX10_settle⟩, lX10_87, by decide, rfl, vX10_settle.1, vX10_settle.2⟩ (lyx_is hy 0 10 rfl) (sx_settle_6 hy hrR21504 hOR21504 hI21499   (by omega)) (Nat.le_of_ble_eq_true rfl) ?_
    intro r I21505 J21506 Ra hq
    obtain ⟨⟨hI21505, ec, fiI21505, fjI21505⟩, rfl⟩ := hq
    rw [ec]
    clear ec Ra
    have fr21507 : fz 74 g [0, 1, 3, 4, 6, 7, 8, 9, 10, 11, 12, 13, 14, 15, 16, 17, 18, 19, 21, 22, 23, 24, 25, 26, 53, 54, 55, 60, 63, 66, 73] I I21505 := fz_tr fr21501 (fz_mono fiI21505 (by decide))
    have fr21508 : fz 74 g [1, 20, 53] J J21506 := fz_tr fr21495 (fz_mono fjI21505 (by decide))
    have e21509 : I21505 (ad g 1) 1 = v21498 := hI21505.2
    have b21510 := BT_get hI21505.1 1 1 2 (0) (0) (900) (by decide) 1 (by decide) (by decide)
    rw [e21509] at b21510
    refine WP_aload_n dX10_town_54 rfl ?_
    refine WP_getr dX10_town_55 fX10_33 rfl (lyx_is hy 0 10 rfl) (rfx hrR21504 0 2 5 (by decide)) ?_
    refine WP_getr dX10_town_58 fX10_102 rfl (lyx_is hy 5 0 rfl) hOR21504 ?_
    refine WQ_getiu dX10_town_61 fX10_105 rfl (lyx_is hy 6 7 rfl) (fun v21511 ev21511 => ?_)
    exact WP_iret dX10_town_64 rfl ⟨⟨⟨_, hI21505, by omega⟩, ⟨hrR21504, (Or.inl ⟨hOR21504, hQR21504⟩), hPR21504⟩, fr21507, fr21508⟩, _, rfl⟩
  · refine WQ_iconst (-1) (-1) dX10_town_24 rfl rfl (fun v21512 hv21512 => ?_)
    exact WP_iret dX10_town_25 rfl ⟨⟨⟨_, hI21499, by omega⟩, ⟨hr, (Or.inr ⟨hT, hsp⟩), hP⟩, fr21501, fr21495⟩, _, rfl⟩
