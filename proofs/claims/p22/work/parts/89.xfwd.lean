set_option maxHeartbeats 4000000 in
set_option maxRecDepth 100000 in
theorem sx_leastOf {g : GG} {n : Int} {L : Int32} (hy : LyX g)  {I : pI} {J : pJ} {R : pR} (hr : RfX g R) (hI : XI g n L I) (pa : Int32)  : SP g mX3_leastOf [.int pa] I J R (fun r I' J' R' => (I' = I ∧ J' = J ∧ R' = R) ∧ ∃ v : Int32, r = some (.int v) ∧ 0 ≤ v.toInt ∧ v.toInt ≤ 1) := by
  refine SP_of ⟨by decide, rfl⟩ (Nat.le_of_ble_eq_true rfl) ?_
  have e5472 : I (ad g 1) 1 = L := hI.2
  have b5473 := BT_get hI.1 1 1 2 (0) (0) (900) (by decide) 1 (by decide) (by decide)
  rw [e5472] at b5473
  refine WP_iload_n dX3_leastOf_0 rfl ?_
  refine WQ_bipush (80) (80) dX3_leastOf_1 rfl rfl (fun v5474 hv5474 => ?_)
  have jn29_5483 : ∀ (v5483 : Int32), 0 ≤ v5483.toInt → v5483.toInt ≤ 1 → WP g mX3_leastOf 29 [(0, .int pa)] [.int v5483] I J R (fun r I' J' R' => (I' = I ∧ J' = J ∧ R' = R) ∧ ∃ v : Int32, r = some (.int v) ∧ 0 ≤ v.toInt ∧ v.toInt ≤ 1) := by
    intro v5483 av5483 bv5483
    exact WP_iret dX3_leastOf_29 rfl ⟨⟨rfl, rfl, rfl⟩, _, rfl, by omega, by omega⟩
  refine WX_icmp_eq 24 dX3_leastOf_3 rfl ?_ ?_
  · refine WQ_iconst (1) (1) dX3_leastOf_24 rfl rfl (fun v5485 hv5485 => ?_)
    refine WP_goto 29 dX3_leastOf_25 rfl ?_
    exact WP_sub (fc rfl fn) (jn29_5483 v5485 (by omega) (by omega))
  · refine WP_iload_n dX3_leastOf_6 rfl ?_
    refine WQ_bipush (69) (69) dX3_leastOf_7 rfl rfl (fun v5486 hv5486 => ?_)
    refine WX_icmp_eq 24 dX3_leastOf_9 rfl ?_ ?_
    · refine WQ_iconst (1) (1) dX3_leastOf_24 rfl rfl (fun v5487 hv5487 => ?_)
      refine WP_goto 29 dX3_leastOf_25 rfl ?_
      exact WP_sub (fc rfl fn) (jn29_5483 v5487 (by omega) (by omega))
    · refine WP_iload_n dX3_leastOf_12 rfl ?_
      refine WQ_bipush (85) (85) dX3_leastOf_13 rfl rfl (fun v5488 hv5488 => ?_)
      refine WX_icmp_eq 24 dX3_leastOf_15 rfl ?_ ?_
      · refine WQ_iconst (1) (1) dX3_leastOf_24 rfl rfl (fun v5489 hv5489 => ?_)
        refine WP_goto 29 dX3_leastOf_25 rfl ?_
        exact WP_sub (fc rfl fn) (jn29_5483 v5489 (by omega) (by omega))
      · refine WP_iload_n dX3_leastOf_18 rfl ?_
        refine WQ_bipush (73) (73) dX3_leastOf_19 rfl rfl (fun v5490 hv5490 => ?_)
        refine WX_icmp_ne 28 dX3_leastOf_21 rfl ?_ ?_
        · refine WQ_iconst (0) (0) dX3_leastOf_28 rfl rfl (fun v5491 hv5491 => ?_)
          exact WP_sub (fc rfl fn) (jn29_5483 v5491 (by omega) (by omega))
        · refine WQ_iconst (1) (1) dX3_leastOf_24 rfl rfl (fun v5492 hv5492 => ?_)
          refine WP_goto 29 dX3_leastOf_25 rfl ?_
          exact WP_sub (fc rfl fn) (jn29_5483 v5492 (by omega) (by omega))
set_option maxHeartbeats 4000000 in
set_option maxRecDepth 100000 in
theorem sx_mostOf {g : GG} {n : Int} {L : Int32} (hy : LyX g)  {I : pI} {J : pJ} {R : pR} (hr : RfX g R) (hI : XI g n L I) (pa : Int32)  : SP g mX3_mostOf [.int pa] I J R (fun r I' J' R' => (I' = I ∧ J' = J ∧ R' = R) ∧ ∃ v : Int32, r = some (.int v) ∧ 0 ≤ v.toInt ∧ v.toInt ≤ 1000 ∧ ((pa.toInt = 68 → v.toInt = 6) ∧ (pa.toInt = 76 → v.toInt = 900) ∧ (pa.toInt = 80 → v.toInt = 99) ∧ (pa.toInt = 67 → v.toInt = 60) ∧ (pa.toInt = 71 → v.toInt = 9) ∧ (pa.toInt = 69 → v.toInt = 20) ∧ (pa.toInt = 77 → v.toInt = 999) ∧ (pa.toInt = 85 → v.toInt = 3) ∧ (pa.toInt = 73 → v.toInt = 127) ∧ (pa.toInt = 86 → v.toInt = 99))) := by
  refine SP_of ⟨by decide, rfl⟩ (Nat.le_of_ble_eq_true rfl) ?_
  have e5493 : I (ad g 1) 1 = L := hI.2
  have b5494 := BT_get hI.1 1 1 2 (0) (0) (900) (by decide) 1 (by decide) (by decide)
  rw [e5493] at b5494
  refine WP_iload_n dX3_mostOf_0 rfl ?_
  refine WP_tab 124 dX3_mostOf_1 rfl rfl (fun c5494 => ?_) (fun j off c5494 hj => ?_) (by decide)
  · refine WQ_bipush (99) (99) dX3_mostOf_124 rfl rfl (fun v5496 hv5496 => ?_)
    exact WP_iret dX3_mostOf_126 rfl ⟨⟨rfl, rfl, rfl⟩, _, rfl, by omega, by omega, by omega⟩
  · have hlt : j < 19 := by have := (Array.getElem?_eq_some_iff.mp hj).1; simpa using this
    have hcs : (j = 0 ∧ off = 105) ∨ (j = 1 ∧ off = 91) ∨ (j = 2 ∧ off = 111) ∨ (j = 3 ∧ off = 123) ∨ (j = 4 ∧ off = 108) ∨ (j = 5 ∧ off = 101) ∨ (j = 6 ∧ off = 120) ∨ (j = 7 ∧ off = 123) ∨ (j = 8 ∧ off = 123) ∨ (j = 9 ∧ off = 94) ∨ (j = 10 ∧ off = 114) ∨ (j = 11 ∧ off = 123) ∨ (j = 12 ∧ off = 123) ∨ (j = 13 ∧ off = 98) ∨ (j = 14 ∧ off = 123) ∨ (j = 15 ∧ off = 123) ∨ (j = 16 ∧ off = 123) ∨ (j = 17 ∧ off = 123) ∨ (j = 18 ∧ off = 118) := by
      match j, hlt, hj with
      | 0, _, hj => exact Or.inl ⟨rfl, (Option.some.inj hj).symm⟩
      | 1, _, hj => exact Or.inr (Or.inl ⟨rfl, (Option.some.inj hj).symm⟩)
      | 2, _, hj => exact Or.inr (Or.inr (Or.inl ⟨rfl, (Option.some.inj hj).symm⟩))
      | 3, _, hj => exact Or.inr (Or.inr (Or.inr (Or.inl ⟨rfl, (Option.some.inj hj).symm⟩)))
      | 4, _, hj => exact Or.inr (Or.inr (Or.inr (Or.inr (Or.inl ⟨rfl, (Option.some.inj hj).symm⟩))))
      | 5, _, hj => exact Or.inr (Or.inr (Or.inr (Or.inr (Or.inr (Or.inl ⟨rfl, (Option.some.inj hj).symm⟩)))))
      | 6, _, hj => exact Or.inr (Or.inr (Or.inr (Or.inr (Or.inr (Or.inr (Or.inl ⟨rfl, (Option.some.inj hj).symm⟩))))))
      | 7, _, hj => exact Or.inr (Or.inr (Or.inr (Or.inr (Or.inr (Or.inr (Or.inr (Or.inl ⟨rfl, (Option.some.inj hj).symm⟩)))))))
      | 8, _, hj => exact Or.inr (Or.inr (Or.inr (Or.inr (Or.inr (Or.inr (Or.inr (Or.inr (Or.inl ⟨rfl, (Option.some.inj hj).symm⟩))))))))
      | 9, _, hj => exact Or.inr (Or.inr (Or.inr (Or.inr (Or.inr (Or.inr (Or.inr (Or.inr (Or.inr (Or.inl ⟨rfl, (Option.some.inj hj).symm⟩)))))))))
      | 10, _, hj => exact Or.inr (Or.inr (Or.inr (Or.inr (Or.inr (Or.inr (Or.inr (Or.inr (Or.inr (Or.inr (Or.inl ⟨rfl, (Option.some.inj hj).symm⟩))))))))))
      | 11, _, hj => exact Or.inr (Or.inr (Or.inr (Or.inr (Or.inr (Or.inr (Or.inr (Or.inr (Or.inr (Or.inr (Or.inr (Or.inl ⟨rfl, (Option.some.inj hj).symm⟩)))))))))))
      | 12, _, hj => exact Or.inr (Or.inr (Or.inr (Or.inr (Or.inr (Or.inr (Or.inr (Or.inr (Or.inr (Or.inr (Or.inr (Or.inr (Or.inl ⟨rfl, (Option.some.inj hj).symm⟩))))))))))))
      | 13, _, hj => exact Or.inr (Or.inr (Or.inr (Or.inr (Or.inr (Or.inr (Or.inr (Or.inr (Or.inr (Or.inr (Or.inr (Or.inr (Or.inr (Or.inl ⟨rfl, (Option.some.inj hj).symm⟩)))))))))))))
      | 14, _, hj => exact Or.inr (Or.inr (Or.inr (Or.inr (Or.inr (Or.inr (Or.inr (Or.inr (Or.inr (Or.inr (Or.inr (Or.inr (Or.inr (Or.inr (Or.inl ⟨rfl, (Option.some.inj hj).symm⟩))))))))))))))
      | 15, _, hj => exact Or.inr (Or.inr (Or.inr (Or.inr (Or.inr (Or.inr (Or.inr (Or.inr (Or.inr (Or.inr (Or.inr (Or.inr (Or.inr (Or.inr (Or.inr (Or.inl ⟨rfl, (Option.some.inj hj).symm⟩)))))))))))))))
      | 16, _, hj => exact Or.inr (Or.inr (Or.inr (Or.inr (Or.inr (Or.inr (Or.inr (Or.inr (Or.inr (Or.inr (Or.inr (Or.inr (Or.inr (Or.inr (Or.inr (Or.inr (Or.inl ⟨rfl, (Option.some.inj hj).symm⟩))))))))))))))))
      | 17, _, hj => exact Or.inr (Or.inr (Or.inr (Or.inr (Or.inr (Or.inr (Or.inr (Or.inr (Or.inr (Or.inr (Or.inr (Or.inr (Or.inr (Or.inr (Or.inr (Or.inr (Or.inr (Or.inl ⟨rfl, (Option.some.inj hj).symm⟩)))))))))))))))))
      | 18, _, hj => exact Or.inr (Or.inr (Or.inr (Or.inr (Or.inr (Or.inr (Or.inr (Or.inr (Or.inr (Or.inr (Or.inr (Or.inr (Or.inr (Or.inr (Or.inr (Or.inr (Or.inr (Or.inr (⟨rfl, (Option.some.inj hj).symm⟩))))))))))))))))))
    clear hj hlt
    rcases hcs with ⟨rfl, rfl⟩ | ⟨rfl, rfl⟩ | ⟨rfl, rfl⟩ | ⟨rfl, rfl⟩ | ⟨rfl, rfl⟩ | ⟨rfl, rfl⟩ | ⟨rfl, rfl⟩ | ⟨rfl, rfl⟩ | ⟨rfl, rfl⟩ | ⟨rfl, rfl⟩ | ⟨rfl, rfl⟩ | ⟨rfl, rfl⟩ | ⟨rfl, rfl⟩ | ⟨rfl, rfl⟩ | ⟨rfl, rfl⟩ | ⟨rfl, rfl⟩ | ⟨rfl, rfl⟩ | ⟨rfl, rfl⟩ | ⟨rfl, rfl⟩
    · show WP _ _ 106 _ _ _ _ _ _
      refine WQ_bipush (60) (60) dX3_mostOf_106 rfl rfl (fun v5497 hv5497 => ?_)
      exact WP_iret dX3_mostOf_108 rfl ⟨⟨rfl, rfl, rfl⟩, _, rfl, by omega, by omega, by omega⟩
    · show WP _ _ 92 _ _ _ _ _ _
      refine WQ_bipush (6) (6) dX3_mostOf_92 rfl rfl (fun v5498 hv5498 => ?_)
      exact WP_iret dX3_mostOf_94 rfl ⟨⟨rfl, rfl, rfl⟩, _, rfl, by omega, by omega, by omega⟩
    · show WP _ _ 112 _ _ _ _ _ _
      refine WQ_bipush (20) (20) dX3_mostOf_112 rfl rfl (fun v5499 hv5499 => ?_)
      exact WP_iret dX3_mostOf_114 rfl ⟨⟨rfl, rfl, rfl⟩, _, rfl, by omega, by omega, by omega⟩
    · show WP _ _ 124 _ _ _ _ _ _
      refine WQ_bipush (99) (99) dX3_mostOf_124 rfl rfl (fun v5500 hv5500 => ?_)
      exact WP_iret dX3_mostOf_126 rfl ⟨⟨rfl, rfl, rfl⟩, _, rfl, by omega, by omega, by omega⟩
    · show WP _ _ 109 _ _ _ _ _ _
      refine WQ_bipush (9) (9) dX3_mostOf_109 rfl rfl (fun v5501 hv5501 => ?_)
      exact WP_iret dX3_mostOf_111 rfl ⟨⟨rfl, rfl, rfl⟩, _, rfl, by omega, by omega, by omega⟩
    · show WP _ _ 102 _ _ _ _ _ _
      refine WQ_sipush (1000) (1000) dX3_mostOf_102 rfl rfl (fun v5502 hv5502 => ?_)
      exact WP_iret dX3_mostOf_105 rfl ⟨⟨rfl, rfl, rfl⟩, _, rfl, by omega, by omega, by omega⟩
    · show WP _ _ 121 _ _ _ _ _ _
      refine WQ_bipush (127) (127) dX3_mostOf_121 rfl rfl (fun v5503 hv5503 => ?_)
      exact WP_iret dX3_mostOf_123 rfl ⟨⟨rfl, rfl, rfl⟩, _, rfl, by omega, by omega, by omega⟩
    · show WP _ _ 124 _ _ _ _ _ _
      refine WQ_bipush (99) (99) dX3_mostOf_124 rfl rfl (fun v5504 hv5504 => ?_)
      exact WP_iret dX3_mostOf_126 rfl ⟨⟨rfl, rfl, rfl⟩, _, rfl, by omega, by omega, by omega⟩
    · show WP _ _ 124 _ _ _ _ _ _
      refine WQ_bipush (99) (99) dX3_mostOf_124 rfl rfl (fun v5505 hv5505 => ?_)
      exact WP_iret dX3_mostOf_126 rfl ⟨⟨rfl, rfl, rfl⟩, _, rfl, by omega, by omega, by omega⟩
    · show WP _ _ 95 _ _ _ _ _ _
      refine WQ_sipush (900) (900) dX3_mostOf_95 rfl rfl (fun v5506 hv5506 => ?_)
      exact WP_iret dX3_mostOf_98 rfl ⟨⟨rfl, rfl, rfl⟩, _, rfl, by omega, by omega, by omega⟩
    · show WP _ _ 115 _ _ _ _ _ _
      refine WQ_sipush (999) (999) dX3_mostOf_115 rfl rfl (fun v5507 hv5507 => ?_)
      exact WP_iret dX3_mostOf_118 rfl ⟨⟨rfl, rfl, rfl⟩, _, rfl, by omega, by omega, by omega⟩
    · show WP _ _ 124 _ _ _ _ _ _
      refine WQ_bipush (99) (99) dX3_mostOf_124 rfl rfl (fun v5508 hv5508 => ?_)
      exact WP_iret dX3_mostOf_126 rfl ⟨⟨rfl, rfl, rfl⟩, _, rfl, by omega, by omega, by omega⟩
    · show WP _ _ 124 _ _ _ _ _ _
      refine WQ_bipush (99) (99) dX3_mostOf_124 rfl rfl (fun v5509 hv5509 => ?_)
      exact WP_iret dX3_mostOf_126 rfl ⟨⟨rfl, rfl, rfl⟩, _, rfl, by omega, by omega, by omega⟩
    · show WP _ _ 99 _ _ _ _ _ _
      refine WQ_bipush (99) (99) dX3_mostOf_99 rfl rfl (fun v5510 hv5510 => ?_)
      exact WP_iret dX3_mostOf_101 rfl ⟨⟨rfl, rfl, rfl⟩, _, rfl, by omega, by omega, by omega⟩
    · show WP _ _ 124 _ _ _ _ _ _
      refine WQ_bipush (99) (99) dX3_mostOf_124 rfl rfl (fun v5511 hv5511 => ?_)
      exact WP_iret dX3_mostOf_126 rfl ⟨⟨rfl, rfl, rfl⟩, _, rfl, by omega, by omega, by omega⟩
    · show WP _ _ 124 _ _ _ _ _ _
      refine WQ_bipush (99) (99) dX3_mostOf_124 rfl rfl (fun v5512 hv5512 => ?_)
      exact WP_iret dX3_mostOf_126 rfl ⟨⟨rfl, rfl, rfl⟩, _, rfl, by omega, by omega, by omega⟩
    · show WP _ _ 124 _ _ _ _ _ _
      refine WQ_bipush (99) (99) dX3_mostOf_124 rfl rfl (fun v5513 hv5513 => ?_)
      exact WP_iret dX3_mostOf_126 rfl ⟨⟨rfl, rfl, rfl⟩, _, rfl, by omega, by omega, by omega⟩
    · show WP _ _ 124 _ _ _ _ _ _
      refine WQ_bipush (99) (99) dX3_mostOf_124 rfl rfl (fun v5514 hv5514 => ?_)
      exact WP_iret dX3_mostOf_126 rfl ⟨⟨rfl, rfl, rfl⟩, _, rfl, by omega, by omega, by omega⟩
    · show WP _ _ 119 _ _ _ _ _ _
      refine WQ_iconst (3) (3) dX3_mostOf_119 rfl rfl (fun v5515 hv5515 => ?_)
      exact WP_iret dX3_mostOf_120 rfl ⟨⟨rfl, rfl, rfl⟩, _, rfl, by omega, by omega, by omega⟩
set_option maxHeartbeats 4000000 in
set_option maxRecDepth 100000 in
theorem sx_isLoss_6 {g : GG} {n : Int} {L : Int32} (hy : LyX g)  {I : pI} {J : pJ} {R : pR} (hr : RfX g R) (hI : XI g n L I)   (hb : (I (ad g 4) 0).toInt ≤ 3 ∧ (I (ad g 4) 2).toInt ≤ 6) : SP g mX7_isLoss [.ref (ad g 6), .ref (ad g 4)] I J R (fun r I' J' R' => (I' = I ∧ J' = J ∧ R' = R) ∧ ∃ v : Int32, r = some (.int v) ∧ 0 ≤ v.toInt ∧ v.toInt ≤ 1) := by
  refine SP_of ⟨by decide, rfl⟩ (Nat.le_of_ble_eq_true rfl) ?_
  have e5516 : I (ad g 1) 1 = L := hI.2
  have b5517 := BT_get hI.1 1 1 2 (0) (0) (900) (by decide) 1 (by decide) (by decide)
  rw [e5516] at b5517
  obtain ⟨w5518, ew5518⟩ : ∃ w : Int32, I (ad g 4) 0 = w := ⟨_, rfl⟩
  have bw5518 := BT_get hI.1 4 0 5 (0) (0) (1000) (by decide) 0 (by decide) (by decide)
  rw [ew5518] at bw5518
  obtain ⟨w5519, ew5519⟩ : ∃ w : Int32, I (ad g 4) 2 = w := ⟨_, rfl⟩
  have bw5519 := BT_get hI.1 4 0 5 (0) (0) (1000) (by decide) 2 (by decide) (by decide)
  rw [ew5519] at bw5519
  rw [ew5518, ew5519] at hb
  refine WP_aload_n dX7_isLoss_0 rfl ?_
  refine WQ_iconst (2) (2) dX7_isLoss_1 rfl rfl (fun v5520 hv5520 => ?_)
  refine WQ_ialdm (z := 2) dX7_isLoss_2 (lyx_is hy 4 13 rfl) (lyx_n hy 4 5 rfl) hv5520 (by decide) ew5519 ?_
  refine WP_istore_n (ls' := [(0, _), (1, _), (2, _)]) dX7_isLoss_3 (by decide) rfl ?_
  refine WP_aload_n dX7_isLoss_4 rfl ?_
  refine WQ_iconst (0) (0) dX7_isLoss_5 rfl rfl (fun v5522 hv5522 => ?_)
  refine WQ_ialdm (z := 0) dX7_isLoss_6 (lyx_is hy 4 13 rfl) (lyx_n hy 4 5 rfl) hv5522 (by decide) ew5518 ?_
  refine WQ_bipush (7) (7) dX7_isLoss_7 rfl rfl (fun v5524 hv5524 => ?_)
  refine WQ_imulk (7) dX7_isLoss_9 hv5524 (by omega) (by omega) (fun v5525 hv5525 => ?_)
  refine WP_iload_n dX7_isLoss_10 rfl ?_
  refine WQ_iadd dX7_isLoss_11 (by omega) (by omega) (fun v5526 hv5526 => ?_)
  refine WP_istore_n (ls' := [(0, _), (1, _), (2, _), (3, _)]) dX7_isLoss_12 (by decide) rfl ?_
  refine WP_aload_n dX7_isLoss_13 rfl ?_
  refine WP_getr dX7_isLoss_14 fX7_30 rfl (lyx_is hy 6 7 rfl) (rfx hr 6 11 13 (by decide)) ?_
  refine WP_iload_n dX7_isLoss_17 rfl ?_
  refine WQ_iald dX7_isLoss_18 (lyx_is hy 13 13 rfl) (lyx_n hy 13 28 rfl) (by omega) (by omega) (fun q hq => BT_get hI.1 13 0 28 (-1) (0) (2) (by decide) q (Nat.zero_le _) hq) (fun v5527 av5527 bv5527 ev5527 => ?_)
  clear ev5527
  refine WP_aload_n dX7_isLoss_19 rfl ?_
  refine WQ_iconst (1) (1) dX7_isLoss_20 rfl rfl (fun v5528 hv5528 => ?_)
  refine WQ_iald dX7_isLoss_21 (lyx_is hy 4 13 rfl) (lyx_n hy 4 5 rfl) (by omega) (by omega) (fun q hq => BT_get hI.1 4 0 5 (0) (0) (1000) (by decide) q (Nat.zero_le _) hq) (fun v5529 av5529 bv5529 ev5529 => ?_)
  clear ev5529
  refine WQ_icmp_ne 37 dX7_isLoss_22 rfl (fun c5529 => ?_) (fun c5529 => ?_)
  · refine WQ_iconst (1) (1) dX7_isLoss_37 rfl rfl (fun v5531 hv5531 => ?_)
    exact WP_zret dX7_isLoss_38 rfl (nar_z (by omega)) ⟨⟨rfl, rfl, rfl⟩, _, rfl, by omega, by omega⟩
  · refine WP_aload_n dX7_isLoss_25 rfl ?_
    refine WP_getr dX7_isLoss_26 fX7_33 rfl (lyx_is hy 6 7 rfl) (rfx hr 6 12 14 (by decide)) ?_
    refine WP_iload_n dX7_isLoss_29 rfl ?_
    refine WQ_iald dX7_isLoss_30 (lyx_is hy 14 13 rfl) (lyx_n hy 14 28 rfl) (by omega) (by omega) (fun q hq => BT_get hI.1 14 0 28 (0) (0) (3) (by decide) q (Nat.zero_le _) hq) (fun v5532 av5532 bv5532 ev5532 => ?_)
    clear ev5532
    refine WP_aload_n dX7_isLoss_31 rfl ?_
    refine WQ_iconst (3) (3) dX7_isLoss_32 rfl rfl (fun v5533 hv5533 => ?_)
    refine WQ_iald dX7_isLoss_33 (lyx_is hy 4 13 rfl) (lyx_n hy 4 5 rfl) (by omega) (by omega) (fun q hq => BT_get hI.1 4 0 5 (0) (0) (1000) (by decide) q (Nat.zero_le _) hq) (fun v5534 av5534 bv5534 ev5534 => ?_)
    clear ev5534
    refine WQ_icmp_ge 39 dX7_isLoss_34 rfl (fun c5534 => ?_) (fun c5534 => ?_)
    · refine WP_aload_n dX7_isLoss_39 rfl ?_
      refine WP_getr dX7_isLoss_40 fX7_36 rfl (lyx_is hy 6 7 rfl) (rfx hr 6 13 15 (by decide)) ?_
      refine WP_iload_n dX7_isLoss_43 rfl ?_
      refine WQ_iald dX7_isLoss_44 (lyx_is hy 15 13 rfl) (lyx_n hy 15 28 rfl) (by omega) (by omega) (fun q hq => BT_get hI.1 15 0 28 (0) (0) (99) (by decide) q (Nat.zero_le _) hq) (fun v5536 av5536 bv5536 ev5536 => ?_)
      clear ev5536
      refine WP_istore (ls' := [(0, _), (1, _), (2, _), (3, _), (4, _)]) dX7_isLoss_45 (by decide) rfl ?_
      refine WP_aload_n dX7_isLoss_47 rfl ?_
      refine WQ_iconst (4) (4) dX7_isLoss_48 rfl rfl (fun v5537 hv5537 => ?_)
      refine WQ_iald dX7_isLoss_49 (lyx_is hy 4 13 rfl) (lyx_n hy 4 5 rfl) (by omega) (by omega) (fun q hq => BT_get hI.1 4 0 5 (0) (0) (1000) (by decide) q (Nat.zero_le _) hq) (fun v5538 av5538 bv5538 ev5538 => ?_)
      clear ev5538
      refine WP_istore (ls' := [(0, _), (1, _), (2, _), (3, _), (4, _), (5, _)]) dX7_isLoss_50 (by decide) rfl ?_
      refine WP_aload_n dX7_isLoss_52 rfl ?_
      refine WP_getr dX7_isLoss_53 fX7_9 rfl (lyx_is hy 6 7 rfl) (rfx hr 6 5 7 (by decide)) ?_
      refine WP_iload_n dX7_isLoss_56 rfl ?_
      refine WQ_iald dX7_isLoss_57 (lyx_is hy 7 13 rfl) (lyx_n hy 7 7 rfl) (by omega) (by omega) (fun q hq => BT_get hI.1 7 0 7 (0) (0) (900) (by decide) q (Nat.zero_le _) hq) (fun v5539 av5539 bv5539 ev5539 => ?_)
      clear ev5539
      have jn88_5550 : ∀ (v5550 : Int32), 0 ≤ v5550.toInt → v5550.toInt ≤ 1 → WP g mX7_isLoss 88 [(0, .ref (ad g 6)), (1, .ref (ad g 4)), (2, .int w5519), (3, .int v5526), (4, .int v5536), (5, .int v5538)] [.int v5550] I J R (fun r I' J' R' => (I' = I ∧ J' = J ∧ R' = R) ∧ ∃ v : Int32, r = some (.int v) ∧ 0 ≤ v.toInt ∧ v.toInt ≤ 1) := by
        intro v5550 av5550 bv5550
        refine WP_istore (ls' := [(0, _), (1, _), (2, _), (3, _), (4, _), (5, _), (6, _)]) dX7_isLoss_88 (by decide) rfl ?_
        refine WP_iload dX7_isLoss_90 rfl ?_
        refine WP_iload dX7_isLoss_92 rfl ?_
        have jn107_5556 : ∀ (v5556 : Int32), 0 ≤ v5556.toInt → v5556.toInt ≤ 1 → WP g mX7_isLoss 107 [(0, .ref (ad g 6)), (1, .ref (ad g 4)), (2, .int w5519), (3, .int v5526), (4, .int v5536), (5, .int v5538), (6, .int v5550)] [.int v5556] I J R (fun r I' J' R' => (I' = I ∧ J' = J ∧ R' = R) ∧ ∃ v : Int32, r = some (.int v) ∧ 0 ≤ v.toInt ∧ v.toInt ≤ 1) := by
          intro v5556 av5556 bv5556
          exact WP_zret dX7_isLoss_107 rfl (nar_z (by omega)) ⟨⟨rfl, rfl, rfl⟩, _, rfl, by omega, by omega⟩
        refine WQ_icmp_ge 106 dX7_isLoss_94 rfl (fun c5557 => ?_) (fun c5557 => ?_)
        · refine WQ_iconst (0) (0) dX7_isLoss_106 rfl rfl (fun v5559 hv5559 => ?_)
          exact WP_sub (fc rfl (fc rfl (fc rfl (fc rfl (fc rfl (fc rfl (fc rfl fn))))))) (jn107_5556 v5559 (by omega) (by omega))
        · refine WP_iload dX7_isLoss_97 rfl ?_
          refine WQ_if_ne 106 dX7_isLoss_99 rfl (fun c5559 => ?_) (fun c5559 => ?_)
          · refine WQ_iconst (0) (0) dX7_isLoss_106 rfl rfl (fun v5561 hv5561 => ?_)
            exact WP_sub (fc rfl (fc rfl (fc rfl (fc rfl (fc rfl (fc rfl (fc rfl fn))))))) (jn107_5556 v5561 (by omega) (by omega))
          · refine WQ_iconst (1) (1) dX7_isLoss_102 rfl rfl (fun v5562 hv5562 => ?_)
            refine WP_goto 107 dX7_isLoss_103 rfl ?_
            exact WP_sub (fc rfl (fc rfl (fc rfl (fc rfl (fc rfl (fc rfl (fc rfl fn))))))) (jn107_5556 v5562 (by omega) (by omega))
      refine WQ_if_le 87 dX7_isLoss_58 rfl (fun c5562 => ?_) (fun c5562 => ?_)
      · refine WQ_iconst (0) (0) dX7_isLoss_87 rfl rfl (fun v5564 hv5564 => ?_)
        exact WP_sub (fc rfl (fc rfl (fc rfl (fc rfl (fc rfl (fc rfl fn)))))) (jn88_5550 v5564 (by omega) (by omega))
      · refine WP_iload dX7_isLoss_61 rfl ?_
        refine WQ_sipush (1000) (1000) dX7_isLoss_63 rfl rfl (fun v5565 hv5565 => ?_)
        refine WQ_imulk (1000) dX7_isLoss_66 hv5565 (by omega) (by omega) (fun v5566 hv5566 => ?_)
        refine WP_iload dX7_isLoss_67 rfl ?_
        refine WQ_sipush (1000) (1000) dX7_isLoss_69 rfl rfl (fun v5567 hv5567 => ?_)
        refine WP_aload_n dX7_isLoss_72 rfl ?_
        refine WP_getr dX7_isLoss_73 fX7_9 rfl (lyx_is hy 6 7 rfl) (rfx hr 6 5 7 (by decide)) ?_
        refine WP_iload_n dX7_isLoss_76 rfl ?_
        refine WQ_iald dX7_isLoss_77 (lyx_is hy 7 13 rfl) (lyx_n hy 7 7 rfl) (by omega) (by omega) (fun q hq => BT_get hI.1 7 0 7 (0) (0) (900) (by decide) q (Nat.zero_le _) hq) (fun v5568 av5568 bv5568 ev5568 => ?_)
        clear ev5568
        refine WQ_isub dX7_isLoss_78 (by omega) (by omega) (fun v5569 hv5569 => ?_)
        refine WQ_imulb (1000) (1000) dX7_isLoss_79 ⟨by omega, by omega⟩ ⟨by omega, by omega⟩ (by decide) (fun v5570 pv5570 av5570 bv5570 cv5570 => ?_)
        refine WQ_icmp_lt 87 dX7_isLoss_80 rfl (fun c5570 => ?_) (fun c5570 => ?_)
        · refine WQ_iconst (0) (0) dX7_isLoss_87 rfl rfl (fun v5572 hv5572 => ?_)
          exact WP_sub (fc rfl (fc rfl (fc rfl (fc rfl (fc rfl (fc rfl fn)))))) (jn88_5550 v5572 (by omega) (by omega))
        · refine WQ_iconst (1) (1) dX7_isLoss_83 rfl rfl (fun v5573 hv5573 => ?_)
          refine WP_goto 88 dX7_isLoss_84 rfl ?_
          exact WP_sub (fc rfl (fc rfl (fc rfl (fc rfl (fc rfl (fc rfl fn)))))) (jn88_5550 v5573 (by omega) (by omega))
    · refine WQ_iconst (1) (1) dX7_isLoss_37 rfl rfl (fun v5574 hv5574 => ?_)
      exact WP_zret dX7_isLoss_38 rfl (nar_z (by omega)) ⟨⟨rfl, rfl, rfl⟩, _, rfl, by omega, by omega⟩
set_option maxHeartbeats 4000000 in
set_option maxRecDepth 100000 in
theorem sx_isLoss_27 {g : GG} {n : Int} {L : Int32} (hy : LyX g)  {I : pI} {J : pJ} {R : pR} (hr : RfX g R) (hI : XI g n L I)   (hb : (I (ad g 4) 0).toInt ≤ 3 ∧ (I (ad g 4) 2).toInt ≤ 6) : SP g mX7_isLoss [.ref (ad g 27), .ref (ad g 4)] I J R (fun r I' J' R' => (I' = I ∧ J' = J ∧ R' = R) ∧ ∃ v : Int32, r = some (.int v) ∧ 0 ≤ v.toInt ∧ v.toInt ≤ 1) := by
  refine SP_of ⟨by decide, rfl⟩ (Nat.le_of_ble_eq_true rfl) ?_
  have e5575 : I (ad g 1) 1 = L := hI.2
  have b5576 := BT_get hI.1 1 1 2 (0) (0) (900) (by decide) 1 (by decide) (by decide)
  rw [e5575] at b5576
  obtain ⟨w5577, ew5577⟩ : ∃ w : Int32, I (ad g 4) 0 = w := ⟨_, rfl⟩
  have bw5577 := BT_get hI.1 4 0 5 (0) (0) (1000) (by decide) 0 (by decide) (by decide)
  rw [ew5577] at bw5577
  obtain ⟨w5578, ew5578⟩ : ∃ w : Int32, I (ad g 4) 2 = w := ⟨_, rfl⟩
  have bw5578 := BT_get hI.1 4 0 5 (0) (0) (1000) (by decide) 2 (by decide) (by decide)
  rw [ew5578] at bw5578
  rw [ew5577, ew5578] at hb
  refine WP_aload_n dX7_isLoss_0 rfl ?_
  refine WQ_iconst (2) (2) dX7_isLoss_1 rfl rfl (fun v5579 hv5579 => ?_)
  refine WQ_ialdm (z := 2) dX7_isLoss_2 (lyx_is hy 4 13 rfl) (lyx_n hy 4 5 rfl) hv5579 (by decide) ew5578 ?_
  refine WP_istore_n (ls' := [(0, _), (1, _), (2, _)]) dX7_isLoss_3 (by decide) rfl ?_
  refine WP_aload_n dX7_isLoss_4 rfl ?_
  refine WQ_iconst (0) (0) dX7_isLoss_5 rfl rfl (fun v5581 hv5581 => ?_)
  refine WQ_ialdm (z := 0) dX7_isLoss_6 (lyx_is hy 4 13 rfl) (lyx_n hy 4 5 rfl) hv5581 (by decide) ew5577 ?_
  refine WQ_bipush (7) (7) dX7_isLoss_7 rfl rfl (fun v5583 hv5583 => ?_)
  refine WQ_imulk (7) dX7_isLoss_9 hv5583 (by omega) (by omega) (fun v5584 hv5584 => ?_)
  refine WP_iload_n dX7_isLoss_10 rfl ?_
  refine WQ_iadd dX7_isLoss_11 (by omega) (by omega) (fun v5585 hv5585 => ?_)
  refine WP_istore_n (ls' := [(0, _), (1, _), (2, _), (3, _)]) dX7_isLoss_12 (by decide) rfl ?_
  refine WP_aload_n dX7_isLoss_13 rfl ?_
  refine WP_getr dX7_isLoss_14 fX7_30 rfl (lyx_is hy 27 7 rfl) (rfx hr 27 11 34 (by decide)) ?_
  refine WP_iload_n dX7_isLoss_17 rfl ?_
  refine WQ_iald dX7_isLoss_18 (lyx_is hy 34 13 rfl) (lyx_n hy 34 28 rfl) (by omega) (by omega) (fun q hq => BT_get hI.1 34 0 28 (-1) (0) (2) (by decide) q (Nat.zero_le _) hq) (fun v5586 av5586 bv5586 ev5586 => ?_)
  clear ev5586
  refine WP_aload_n dX7_isLoss_19 rfl ?_
  refine WQ_iconst (1) (1) dX7_isLoss_20 rfl rfl (fun v5587 hv5587 => ?_)
  refine WQ_iald dX7_isLoss_21 (lyx_is hy 4 13 rfl) (lyx_n hy 4 5 rfl) (by omega) (by omega) (fun q hq => BT_get hI.1 4 0 5 (0) (0) (1000) (by decide) q (Nat.zero_le _) hq) (fun v5588 av5588 bv5588 ev5588 => ?_)
  clear ev5588
  refine WQ_icmp_ne 37 dX7_isLoss_22 rfl (fun c5588 => ?_) (fun c5588 => ?_)
  · refine WQ_iconst (1) (1) dX7_isLoss_37 rfl rfl (fun v5590 hv5590 => ?_)
    exact WP_zret dX7_isLoss_38 rfl (nar_z (by omega)) ⟨⟨rfl, rfl, rfl⟩, _, rfl, by omega, by omega⟩
  · refine WP_aload_n dX7_isLoss_25 rfl ?_
    refine WP_getr dX7_isLoss_26 fX7_33 rfl (lyx_is hy 27 7 rfl) (rfx hr 27 12 35 (by decide)) ?_
    refine WP_iload_n dX7_isLoss_29 rfl ?_
    refine WQ_iald dX7_isLoss_30 (lyx_is hy 35 13 rfl) (lyx_n hy 35 28 rfl) (by omega) (by omega) (fun q hq => BT_get hI.1 35 0 28 (0) (0) (3) (by decide) q (Nat.zero_le _) hq) (fun v5591 av5591 bv5591 ev5591 => ?_)
    clear ev5591
    refine WP_aload_n dX7_isLoss_31 rfl ?_
    refine WQ_iconst (3) (3) dX7_isLoss_32 rfl rfl (fun v5592 hv5592 => ?_)
    refine WQ_iald dX7_isLoss_33 (lyx_is hy 4 13 rfl) (lyx_n hy 4 5 rfl) (by omega) (by omega) (fun q hq => BT_get hI.1 4 0 5 (0) (0) (1000) (by decide) q (Nat.zero_le _) hq) (fun v5593 av5593 bv5593 ev5593 => ?_)
    clear ev5593
    refine WQ_icmp_ge 39 dX7_isLoss_34 rfl (fun c5593 => ?_) (fun c5593 => ?_)
    · refine WP_aload_n dX7_isLoss_39 rfl ?_
      refine WP_getr dX7_isLoss_40 fX7_36 rfl (lyx_is hy 27 7 rfl) (rfx hr 27 13 36 (by decide)) ?_
      refine WP_iload_n dX7_isLoss_43 rfl ?_
      refine WQ_iald dX7_isLoss_44 (lyx_is hy 36 13 rfl) (lyx_n hy 36 28 rfl) (by omega) (by omega) (fun q hq => BT_get hI.1 36 0 28 (0) (0) (99) (by decide) q (Nat.zero_le _) hq) (fun v5595 av5595 bv5595 ev5595 => ?_)
      clear ev5595
      refine WP_istore (ls' := [(0, _), (1, _), (2, _), (3, _), (4, _)]) dX7_isLoss_45 (by decide) rfl ?_
      refine WP_aload_n dX7_isLoss_47 rfl ?_
      refine WQ_iconst (4) (4) dX7_isLoss_48 rfl rfl (fun v5596 hv5596 => ?_)
      refine WQ_iald dX7_isLoss_49 (lyx_is hy 4 13 rfl) (lyx_n hy 4 5 rfl) (by omega) (by omega) (fun q hq => BT_get hI.1 4 0 5 (0) (0) (1000) (by decide) q (Nat.zero_le _) hq) (fun v5597 av5597 bv5597 ev5597 => ?_)
      clear ev5597
      refine WP_istore (ls' := [(0, _), (1, _), (2, _), (3, _), (4, _), (5, _)]) dX7_isLoss_50 (by decide) rfl ?_
      refine WP_aload_n dX7_isLoss_52 rfl ?_
      refine WP_getr dX7_isLoss_53 fX7_9 rfl (lyx_is hy 27 7 rfl) (rfx hr 27 5 28 (by decide)) ?_
      refine WP_iload_n dX7_isLoss_56 rfl ?_
      refine WQ_iald dX7_isLoss_57 (lyx_is hy 28 13 rfl) (lyx_n hy 28 7 rfl) (by omega) (by omega) (fun q hq => BT_get hI.1 28 0 7 (0) (0) (900) (by decide) q (Nat.zero_le _) hq) (fun v5598 av5598 bv5598 ev5598 => ?_)
      clear ev5598
      have jn88_5609 : ∀ (v5609 : Int32), 0 ≤ v5609.toInt → v5609.toInt ≤ 1 → WP g mX7_isLoss 88 [(0, .ref (ad g 27)), (1, .ref (ad g 4)), (2, .int w5578), (3, .int v5585), (4, .int v5595), (5, .int v5597)] [.int v5609] I J R (fun r I' J' R' => (I' = I ∧ J' = J ∧ R' = R) ∧ ∃ v : Int32, r = some (.int v) ∧ 0 ≤ v.toInt ∧ v.toInt ≤ 1) := by
        intro v5609 av5609 bv5609
        refine WP_istore (ls' := [(0, _), (1, _), (2, _), (3, _), (4, _), (5, _), (6, _)]) dX7_isLoss_88 (by decide) rfl ?_
        refine WP_iload dX7_isLoss_90 rfl ?_
        refine WP_iload dX7_isLoss_92 rfl ?_
        have jn107_5615 : ∀ (v5615 : Int32), 0 ≤ v5615.toInt → v5615.toInt ≤ 1 → WP g mX7_isLoss 107 [(0, .ref (ad g 27)), (1, .ref (ad g 4)), (2, .int w5578), (3, .int v5585), (4, .int v5595), (5, .int v5597), (6, .int v5609)] [.int v5615] I J R (fun r I' J' R' => (I' = I ∧ J' = J ∧ R' = R) ∧ ∃ v : Int32, r = some (.int v) ∧ 0 ≤ v.toInt ∧ v.toInt ≤ 1) := by
          intro v5615 av5615 bv5615
          exact WP_zret dX7_isLoss_107 rfl (nar_z (by omega)) ⟨⟨rfl, rfl, rfl⟩, _, rfl, by omega, by omega⟩
        refine WQ_icmp_ge 106 dX7_isLoss_94 rfl (fun c5616 => ?_) (fun c5616 => ?_)
        · refine WQ_iconst (0) (0) dX7_isLoss_106 rfl rfl (fun v5618 hv5618 => ?_)
          exact WP_sub (fc rfl (fc rfl (fc rfl (fc rfl (fc rfl (fc rfl (fc rfl fn))))))) (jn107_5615 v5618 (by omega) (by omega))
        · refine WP_iload dX7_isLoss_97 rfl ?_
          refine WQ_if_ne 106 dX7_isLoss_99 rfl (fun c5618 => ?_) (fun c5618 => ?_)
          · refine WQ_iconst (0) (0) dX7_isLoss_106 rfl rfl (fun v5620 hv5620 => ?_)
            exact WP_sub (fc rfl (fc rfl (fc rfl (fc rfl (fc rfl (fc rfl (fc rfl fn))))))) (jn107_5615 v5620 (by omega) (by omega))
          · refine WQ_iconst (1) (1) dX7_isLoss_102 rfl rfl (fun v5621 hv5621 => ?_)
            refine WP_goto 107 dX7_isLoss_103 rfl ?_
            exact WP_sub (fc rfl (fc rfl (fc rfl (fc rfl (fc rfl (fc rfl (fc rfl fn))))))) (jn107_5615 v5621 (by omega) (by omega))
      refine WQ_if_le 87 dX7_isLoss_58 rfl (fun c5621 => ?_) (fun c5621 => ?_)
      · refine WQ_iconst (0) (0) dX7_isLoss_87 rfl rfl (fun v5623 hv5623 => ?_)
        exact WP_sub (fc rfl (fc rfl (fc rfl (fc rfl (fc rfl (fc rfl fn)))))) (jn88_5609 v5623 (by omega) (by omega))
      · refine WP_iload dX7_isLoss_61 rfl ?_
        refine WQ_sipush (1000) (1000) dX7_isLoss_63 rfl rfl (fun v5624 hv5624 => ?_)
        refine WQ_imulk (1000) dX7_isLoss_66 hv5624 (by omega) (by omega) (fun v5625 hv5625 => ?_)
        refine WP_iload dX7_isLoss_67 rfl ?_
        refine WQ_sipush (1000) (1000) dX7_isLoss_69 rfl rfl (fun v5626 hv5626 => ?_)
        refine WP_aload_n dX7_isLoss_72 rfl ?_
        refine WP_getr dX7_isLoss_73 fX7_9 rfl (lyx_is hy 27 7 rfl) (rfx hr 27 5 28 (by decide)) ?_
        refine WP_iload_n dX7_isLoss_76 rfl ?_
        refine WQ_iald dX7_isLoss_77 (lyx_is hy 28 13 rfl) (lyx_n hy 28 7 rfl) (by omega) (by omega) (fun q hq => BT_get hI.1 28 0 7 (0) (0) (900) (by decide) q (Nat.zero_le _) hq) (fun v5627 av5627 bv5627 ev5627 => ?_)
        clear ev5627
        refine WQ_isub dX7_isLoss_78 (by omega) (by omega) (fun v5628 hv5628 => ?_)
        refine WQ_imulb (1000) (1000) dX7_isLoss_79 ⟨by omega, by omega⟩ ⟨by omega, by omega⟩ (by decide) (fun v5629 pv5629 av5629 bv5629 cv5629 => ?_)
        refine WQ_icmp_lt 87 dX7_isLoss_80 rfl (fun c5629 => ?_) (fun c5629 => ?_)
        · refine WQ_iconst (0) (0) dX7_isLoss_87 rfl rfl (fun v5631 hv5631 => ?_)
          exact WP_sub (fc rfl (fc rfl (fc rfl (fc rfl (fc rfl (fc rfl fn)))))) (jn88_5609 v5631 (by omega) (by omega))
        · refine WQ_iconst (1) (1) dX7_isLoss_83 rfl rfl (fun v5632 hv5632 => ?_)
          refine WP_goto 88 dX7_isLoss_84 rfl ?_
          exact WP_sub (fc rfl (fc rfl (fc rfl (fc rfl (fc rfl (fc rfl fn)))))) (jn88_5609 v5632 (by omega) (by omega))
    · refine WQ_iconst (1) (1) dX7_isLoss_37 rfl rfl (fun v5633 hv5633 => ?_)
      exact WP_zret dX7_isLoss_38 rfl (nar_z (by omega)) ⟨⟨rfl, rfl, rfl⟩, _, rfl, by omega, by omega⟩
