set_option maxHeartbeats 4000000 in
set_option maxRecDepth 100000 in
theorem sx_name_6_1 {g : GG} {n : Int} {L : Int32} (hy : LyX g)  {I : pI} {J : pJ} {R : pR} (hr : RfX g R) (hI : XI g n L I) (os : Int32) (wd : Int64) (os_lo : 1 ≤ os.toInt) (os_hi : os.toInt ≤ 1) (hb : (I (ad g 6) 1).toInt ≤ 3) : SP g mX7_name [.ref (ad g 6), .int os, .long wd] I J R (fun r I' J' R' => (I' = I ∧ R' = R ∧ fz 74 g [20] J J') ∧ r = none) := by
  refine SP_of ⟨by decide, rfl⟩ (Nat.le_of_ble_eq_true rfl) ?_
  have e5634 : I (ad g 1) 1 = L := hI.2
  have b5635 := BT_get hI.1 1 1 2 (0) (0) (900) (by decide) 1 (by decide) (by decide)
  rw [e5634] at b5635
  have frj0 : fz 74 g [20] J J := fz_rf
  obtain ⟨w5636, ew5636⟩ : ∃ w : Int32, I (ad g 6) 1 = w := ⟨_, rfl⟩
  have bw5636 := BT_get hI.1 6 1 2 (0) (0) (4) (by decide) 1 (by decide) (by decide)
  rw [ew5636] at bw5636
  rw [ew5636] at hb
  refine WP_aload_n dX7_name_0 rfl ?_
  refine WP_getr dX7_name_1 fX7_51 rfl (lyx_is hy 6 7 rfl) (rfx hr 6 18 20 (by decide)) ?_
  refine WP_iload_n dX7_name_4 rfl ?_
  have jn21_5637 : ∀ (v5637 : Int32), 0 ≤ v5637.toInt → v5637.toInt ≤ 3 → WP g mX7_name 21 [(0, .ref (ad g 6)), (1, .int os), (2, .long wd)] [.int v5637, .ref (ad g 20)] I J R (fun r I' J' R' => (I' = I ∧ R' = R ∧ fz 74 g [20] J J') ∧ r = none) := by
    intro v5637 av5637 bv5637
    refine WP_lload_n dX7_name_21 rfl ?_
    refine WQ_last dX7_name_22 (lyx_is hy 20 14 rfl) (lyx_n hy 20 7 rfl) (by omega) (by omega) (fun J5639 eJ5639 => ?_)
    have fr5640 : fz 74 g [20] J J5639 := by rw [eJ5639]; exact fzx_pp hy frj0 (by decide) (by decide)
    clear eJ5639
    exact WP_vret dX7_name_23 rfl ⟨⟨rfl, rfl, fr5640⟩, rfl⟩
  refine WQ_if_eq 15 dX7_name_5 rfl (fun c5640 => False.elim (by omega)) (fun c5640 => ?_)
  refine WP_aload_n dX7_name_8 rfl ?_
  refine WQ_getim dX7_name_9 fX7_65 rfl (lyx_is hy 6 7 rfl) ew5636 ?_
  refine WP_goto 21 dX7_name_12 rfl ?_
  exact WP_sub (fc rfl (fc rfl (fc rfl fn))) (jn21_5637 w5636 (by omega) (by omega))
set_option maxHeartbeats 4000000 in
set_option maxRecDepth 100000 in
theorem sx_name_6_0 {g : GG} {n : Int} {L : Int32} (hy : LyX g)  {I : pI} {J : pJ} {R : pR} (hr : RfX g R) (hI : XI g n L I) (os : Int32) (wd : Int64) (os_lo : 0 ≤ os.toInt) (os_hi : os.toInt ≤ 0) (hb : (I (ad g 6) 2).toInt ≤ 2) : SP g mX7_name [.ref (ad g 6), .int os, .long wd] I J R (fun r I' J' R' => (I' = I ∧ R' = R ∧ fz 74 g [20] J J') ∧ r = none) := by
  refine SP_of ⟨by decide, rfl⟩ (Nat.le_of_ble_eq_true rfl) ?_
  have e5642 : I (ad g 1) 1 = L := hI.2
  have b5643 := BT_get hI.1 1 1 2 (0) (0) (900) (by decide) 1 (by decide) (by decide)
  rw [e5642] at b5643
  have frj0 : fz 74 g [20] J J := fz_rf
  obtain ⟨w5644, ew5644⟩ : ∃ w : Int32, I (ad g 6) 2 = w := ⟨_, rfl⟩
  have bw5644 := BT_get hI.1 6 2 3 (0) (0) (3) (by decide) 2 (by decide) (by decide)
  rw [ew5644] at bw5644
  rw [ew5644] at hb
  refine WP_aload_n dX7_name_0 rfl ?_
  refine WP_getr dX7_name_1 fX7_51 rfl (lyx_is hy 6 7 rfl) (rfx hr 6 18 20 (by decide)) ?_
  refine WP_iload_n dX7_name_4 rfl ?_
  have jn21_5647 : ∀ (v5647 : Int32), 4 ≤ v5647.toInt → v5647.toInt ≤ 6 → WP g mX7_name 21 [(0, .ref (ad g 6)), (1, .int os), (2, .long wd)] [.int v5647, .ref (ad g 20)] I J R (fun r I' J' R' => (I' = I ∧ R' = R ∧ fz 74 g [20] J J') ∧ r = none) := by
    intro v5647 av5647 bv5647
    refine WP_lload_n dX7_name_21 rfl ?_
    refine WQ_last dX7_name_22 (lyx_is hy 20 14 rfl) (lyx_n hy 20 7 rfl) (by omega) (by omega) (fun J5649 eJ5649 => ?_)
    have fr5650 : fz 74 g [20] J J5649 := by rw [eJ5649]; exact fzx_pp hy frj0 (by decide) (by decide)
    clear eJ5649
    exact WP_vret dX7_name_23 rfl ⟨⟨rfl, rfl, fr5650⟩, rfl⟩
  refine WQ_if_eq 15 dX7_name_5 rfl (fun c5650 => ?_) (fun c5650 => False.elim (by omega))
  refine WQ_iconst (4) (4) dX7_name_15 rfl rfl (fun v5652 hv5652 => ?_)
  refine WP_aload_n dX7_name_16 rfl ?_
  refine WQ_getim dX7_name_17 fX7_68 rfl (lyx_is hy 6 7 rfl) ew5644 ?_
  refine WQ_iadd dX7_name_20 (by omega) (by omega) (fun v5653 hv5653 => ?_)
  exact WP_sub (fc rfl (fc rfl (fc rfl fn))) (jn21_5647 v5653 (by omega) (by omega))
set_option maxHeartbeats 4000000 in
set_option maxRecDepth 100000 in
theorem sx_part_6_0_0 {g : GG} {n : Int} {L : Int32} (hy : LyX g)  {I : pI} {J : pJ} {R : pR} (hr : RfX g R) (hI : XI g n L I) (pa : Int32) (cz : Int32) (ix : Int32) (pa_lo : 68 ≤ pa.toInt) (pa_hi : pa.toInt ≤ 68) (cz_lo : 0 ≤ cz.toInt) (cz_hi : cz.toInt ≤ 0) (ix_lo : 0 ≤ ix.toInt) (ix_hi : ix.toInt ≤ 0) : SP g mX3_faultOfNumber [.ref (ad g 3), .int pa, .int cz, .int ix, .ref (ad g 6)] I J R (fun r I' J' R' => (XI g n L I' ∧ R' = R ∧ fz 74 g [4] I I' ∧ fz 74 g [] J J' ∧ True ∧ I' (ad g 6) 1 = I (ad g 6) 1 ∧ I' (ad g 6) 2 = I (ad g 6) 2) ∧ ∃ v : Int32, r = some (.int v) ∧ 0 ≤ v.toInt ∧ v.toInt ≤ 5 ∧ (v.toInt = 0 → (I' (ad g 4) 0).toInt ≤ 6)) := by
  refine SP_of ⟨by decide, rfl⟩ (Nat.le_of_ble_eq_true rfl) ?_
  have e5654 : I (ad g 1) 1 = L := hI.2
  have b5655 := BT_get hI.1 1 1 2 (0) (0) (900) (by decide) 1 (by decide) (by decide)
  rw [e5654] at b5655
  have fr0 : fz 74 g [4] I I := fz_rf
  have frj0 : fz 74 g [] J J := fz_rf
  obtain ⟨w5656, ew5656⟩ : ∃ w : Int32, I (ad g 6) 1 = w := ⟨_, rfl⟩
  have bw5656 := BT_get hI.1 6 1 2 (0) (0) (4) (by decide) 1 (by decide) (by decide)
  rw [ew5656] at bw5656
  obtain ⟨w5657, ew5657⟩ : ∃ w : Int32, I (ad g 6) 2 = w := ⟨_, rfl⟩
  have bw5657 := BT_get hI.1 6 2 3 (0) (0) (3) (by decide) 2 (by decide) (by decide)
  rw [ew5657] at bw5657
  refine WP_aload_n dX3_faultOfNumber_0 rfl ?_
  refine WP_getr dX3_faultOfNumber_1 fX3_15 rfl (lyx_is hy 3 3 rfl) (rfx hr 3 2 1 (by decide)) ?_
  refine WQ_getiu dX3_faultOfNumber_4 fX3_118 rfl (lyx_is hy 1 5 rfl) (fun v5658 ev5658 => ?_)
  refine WP_istore (ls' := [(0, _), (1, _), (2, _), (3, _), (4, _), (5, _)]) dX3_faultOfNumber_7 (by decide) rfl ?_
  refine WP_iload dX3_faultOfNumber_9 rfl ?_
  refine WP_iload_n dX3_faultOfNumber_11 rfl ?_
  refine WP_callS1 dX3_faultOfNumber_12 ⟨⟨⟨by decide, by decide⟩, zX3_leastOf⟩, lX3_121, tX3_leastOf⟩ (sx_leastOf hy hr hI pa ) (Nat.le_of_ble_eq_true rfl) ?_
  intro r Ia Ja Ra hq
  obtain ⟨⟨ea, eb, ec⟩, v5659, rfl, av5659, bv5659⟩ := hq
  show WP _ _ _ _ (.int _ :: _) _ _ _ _
  rw [ea, eb, ec]
  clear ea eb ec Ia Ja Ra
  refine WQ_icmp_lt 27 dX3_faultOfNumber_15 rfl (fun c5659 => ?_) (fun c5659 => ?_)
  · refine WQ_iconst (2) (2) dX3_faultOfNumber_27 rfl rfl (fun v5661 hv5661 => ?_)
    obtain ⟨w5662, ew5662⟩ : ∃ w : Int32, I (ad g 4) 0 = w := ⟨_, rfl⟩
    have bw5662 := BT_get hI.1 4 0 5 (0) (0) (1000) (by decide) 0 (by decide) (by decide)
    rw [ew5662] at bw5662
    exact WP_iret dX3_faultOfNumber_28 rfl ⟨⟨hI, rfl, fr0, frj0, ⟨trivial, rfl, rfl⟩⟩, _, rfl, by omega, by omega, by (try rw [ew5662]); omega⟩
  · refine WP_iload dX3_faultOfNumber_18 rfl ?_
    refine WP_iload_n dX3_faultOfNumber_20 rfl ?_
    refine WP_callS1 dX3_faultOfNumber_21 ⟨⟨⟨by decide, by decide⟩, zX3_mostOf⟩, lX3_125, tX3_mostOf⟩ (sx_mostOf hy hr hI pa ) (Nat.le_of_ble_eq_true rfl) ?_
    intro r Ia Ja Ra hq
    obtain ⟨⟨ea, eb, ec⟩, v5663, rfl, av5663, bv5663, cv5663⟩ := hq
    show WP _ _ _ _ (.int _ :: _) _ _ _ _
    rw [ea, eb, ec]
    clear ea eb ec Ia Ja Ra
    refine WQ_icmp_le 29 dX3_faultOfNumber_24 rfl (fun c5663 => ?_) (fun c5663 => ?_)
    · refine WP_aload_n dX3_faultOfNumber_29 rfl ?_
      refine WP_getr dX3_faultOfNumber_30 fX3_9 rfl (lyx_is hy 3 3 rfl) (rfx hr 3 3 4 (by decide)) ?_
      refine WP_iload_n dX3_faultOfNumber_33 rfl ?_
      refine WP_iload dX3_faultOfNumber_34 rfl ?_
      refine WQ_iast dX3_faultOfNumber_36 (lyx_is hy 4 13 rfl) (lyx_n hy 4 5 rfl) (by omega) (by omega) (fun I5665 fI5665 => ?_)
      have eI5665 := fI5665
      rw [cl (x := ix) (n := 0) (by omega)] at eI5665
      clear fI5665
      have hI5665 : XI g n L I5665 := by rw [eI5665]; exact (xi_f hy hI (c := 4) (0) (0) (1000) (by decide) (Or.inl (by decide)) (by decide) (by omega) (by omega))
      have e5666 : I5665 (ad g 1) 1 = L := by rw [eI5665, pp_ne _ _ (Or.inl (lyx_ne hy (by decide) (by decide) (by decide)))]; exact e5654
      have e5667 : I5665 (ad g 6) 1 = w5656 := by rw [eI5665, pp_ne _ _ (Or.inl (lyx_ne hy (by decide) (by decide) (by decide)))]; exact ew5656
      have e5668 : I5665 (ad g 6) 2 = w5657 := by rw [eI5665, pp_ne _ _ (Or.inl (lyx_ne hy (by decide) (by decide) (by decide)))]; exact ew5657
      have e5669 : I5665 (ad g 1) 4 = v5658 := by rw [eI5665, pp_ne _ _ (Or.inl (lyx_ne hy (by decide) (by decide) (by decide)))]; exact ev5658
      have e5670 : I5665 (ad g 4) 0 = v5658 := by rw [eI5665, pp_self]
      have fr5671 : fz 74 g [4] I I5665 := by rw [eI5665]; exact fzx_pp hy fr0 (by decide) (by decide)
      clear eI5665
      refine WP_iload_n dX3_faultOfNumber_37 rfl ?_
      refine WQ_bipush (68) (68) dX3_faultOfNumber_38 rfl rfl (fun v5672 hv5672 => ?_)
      refine WQ_icmp_eq 45 dX3_faultOfNumber_40 rfl (fun c5672 => ?_) (fun c5672 => False.elim (by omega))
      refine WP_aload dX3_faultOfNumber_45 rfl ?_
      refine WP_iload_n dX3_faultOfNumber_47 rfl ?_
      refine WP_iload_n dX3_faultOfNumber_48 rfl ?_
      refine WQ_if_ne 56 dX3_faultOfNumber_49 rfl (fun c5673 => False.elim (by omega)) (fun c5673 => ?_)
      refine WQ_iconst (0) (0) dX3_faultOfNumber_52 rfl rfl (fun v5675 hv5675 => ?_)
      refine WP_goto 62 dX3_faultOfNumber_53 rfl ?_
      refine WP_iload dX3_faultOfNumber_62 rfl ?_
      refine WP_callV3 (k := 7) dX3_faultOfNumber_64 ⟨⟨⟨by decide, by decide⟩, zX7_isTold⟩, lX3_114, by decide, rfl, vX7_isTold.1, vX7_isTold.2⟩ (lyx_is hy 6 7 rfl) (sx_isTold_6 hy hr hI5665 cz v5675 v5658 (by omega) (by omega) (by omega) (by omega) ) (Nat.le_of_ble_eq_true rfl) ?_
      intro r Ia Ja Ra hq
      obtain ⟨⟨ea, eb, ec⟩, v5676, rfl, av5676, bv5676⟩ := hq
      show WP _ _ _ _ (.int _ :: _) _ _ _ _
      rw [ea, eb, ec]
      clear ea eb ec Ia Ja Ra
      refine WQ_if_eq 74 dX3_faultOfNumber_67 rfl (fun c5676 => ?_) (fun c5676 => ?_)
      · refine WQ_iconst (0) (0) dX3_faultOfNumber_74 rfl rfl (fun v5678 hv5678 => ?_)
        exact WP_iret dX3_faultOfNumber_75 rfl ⟨⟨hI5665, rfl, fr5671, frj0, ⟨trivial, (by rw [e5667, ew5656] <;> exact (eq32 _ _).mpr (by omega)), (by rw [e5668, ew5657] <;> exact (eq32 _ _).mpr (by omega))⟩⟩, _, rfl, by omega, by omega, by (try rw [e5670]); omega⟩
      · refine WQ_iconst (3) (3) dX3_faultOfNumber_70 rfl rfl (fun v5679 hv5679 => ?_)
        refine WP_goto 75 dX3_faultOfNumber_71 rfl ?_
        exact WP_iret dX3_faultOfNumber_75 rfl ⟨⟨hI5665, rfl, fr5671, frj0, ⟨trivial, (by rw [e5667, ew5656] <;> exact (eq32 _ _).mpr (by omega)), (by rw [e5668, ew5657] <;> exact (eq32 _ _).mpr (by omega))⟩⟩, _, rfl, by omega, by omega, by (try rw [e5670]); omega⟩
    · refine WQ_iconst (2) (2) dX3_faultOfNumber_27 rfl rfl (fun v5680 hv5680 => ?_)
      obtain ⟨w5681, ew5681⟩ : ∃ w : Int32, I (ad g 4) 0 = w := ⟨_, rfl⟩
      have bw5681 := BT_get hI.1 4 0 5 (0) (0) (1000) (by decide) 0 (by decide) (by decide)
      rw [ew5681] at bw5681
      exact WP_iret dX3_faultOfNumber_28 rfl ⟨⟨hI, rfl, fr0, frj0, ⟨trivial, rfl, rfl⟩⟩, _, rfl, by omega, by omega, by (try rw [ew5681]); omega⟩
set_option maxHeartbeats 4000000 in
set_option maxRecDepth 100000 in
theorem sx_part_6_0_1 {g : GG} {n : Int} {L : Int32} (hy : LyX g)  {I : pI} {J : pJ} {R : pR} (hr : RfX g R) (hI : XI g n L I) (pa : Int32) (cz : Int32) (ix : Int32) (pa_lo : 76 ≤ pa.toInt) (pa_hi : pa.toInt ≤ 76) (cz_lo : 0 ≤ cz.toInt) (cz_hi : cz.toInt ≤ 0) (ix_lo : 1 ≤ ix.toInt) (ix_hi : ix.toInt ≤ 1) : SP g mX3_faultOfNumber [.ref (ad g 3), .int pa, .int cz, .int ix, .ref (ad g 6)] I J R (fun r I' J' R' => (XI g n L I' ∧ R' = R ∧ fz 74 g [4] I I' ∧ fz 74 g [] J J' ∧ True ∧ I' (ad g 4) 0 = I (ad g 4) 0 ∧ I' (ad g 6) 1 = I (ad g 6) 1 ∧ I' (ad g 6) 2 = I (ad g 6) 2) ∧ ∃ v : Int32, r = some (.int v) ∧ 0 ≤ v.toInt ∧ v.toInt ≤ 5 ∧ (v.toInt = 0 → (I' (ad g 4) 1).toInt ≤ 900)) := by
  refine SP_of ⟨by decide, rfl⟩ (Nat.le_of_ble_eq_true rfl) ?_
  have e5682 : I (ad g 1) 1 = L := hI.2
  have b5683 := BT_get hI.1 1 1 2 (0) (0) (900) (by decide) 1 (by decide) (by decide)
  rw [e5682] at b5683
  have fr0 : fz 74 g [4] I I := fz_rf
  have frj0 : fz 74 g [] J J := fz_rf
  obtain ⟨w5684, ew5684⟩ : ∃ w : Int32, I (ad g 4) 0 = w := ⟨_, rfl⟩
  have bw5684 := BT_get hI.1 4 0 5 (0) (0) (1000) (by decide) 0 (by decide) (by decide)
  rw [ew5684] at bw5684
  obtain ⟨w5685, ew5685⟩ : ∃ w : Int32, I (ad g 6) 1 = w := ⟨_, rfl⟩
  have bw5685 := BT_get hI.1 6 1 2 (0) (0) (4) (by decide) 1 (by decide) (by decide)
  rw [ew5685] at bw5685
  obtain ⟨w5686, ew5686⟩ : ∃ w : Int32, I (ad g 6) 2 = w := ⟨_, rfl⟩
  have bw5686 := BT_get hI.1 6 2 3 (0) (0) (3) (by decide) 2 (by decide) (by decide)
  rw [ew5686] at bw5686
  refine WP_aload_n dX3_faultOfNumber_0 rfl ?_
  refine WP_getr dX3_faultOfNumber_1 fX3_15 rfl (lyx_is hy 3 3 rfl) (rfx hr 3 2 1 (by decide)) ?_
  refine WQ_getiu dX3_faultOfNumber_4 fX3_118 rfl (lyx_is hy 1 5 rfl) (fun v5687 ev5687 => ?_)
  refine WP_istore (ls' := [(0, _), (1, _), (2, _), (3, _), (4, _), (5, _)]) dX3_faultOfNumber_7 (by decide) rfl ?_
  refine WP_iload dX3_faultOfNumber_9 rfl ?_
  refine WP_iload_n dX3_faultOfNumber_11 rfl ?_
  refine WP_callS1 dX3_faultOfNumber_12 ⟨⟨⟨by decide, by decide⟩, zX3_leastOf⟩, lX3_121, tX3_leastOf⟩ (sx_leastOf hy hr hI pa ) (Nat.le_of_ble_eq_true rfl) ?_
  intro r Ia Ja Ra hq
  obtain ⟨⟨ea, eb, ec⟩, v5688, rfl, av5688, bv5688⟩ := hq
  show WP _ _ _ _ (.int _ :: _) _ _ _ _
  rw [ea, eb, ec]
  clear ea eb ec Ia Ja Ra
  refine WQ_icmp_lt 27 dX3_faultOfNumber_15 rfl (fun c5688 => ?_) (fun c5688 => ?_)
  · refine WQ_iconst (2) (2) dX3_faultOfNumber_27 rfl rfl (fun v5690 hv5690 => ?_)
    obtain ⟨w5691, ew5691⟩ : ∃ w : Int32, I (ad g 4) 1 = w := ⟨_, rfl⟩
    have bw5691 := BT_get hI.1 4 0 5 (0) (0) (1000) (by decide) 1 (by decide) (by decide)
    rw [ew5691] at bw5691
    exact WP_iret dX3_faultOfNumber_28 rfl ⟨⟨hI, rfl, fr0, frj0, ⟨trivial, rfl, rfl, rfl⟩⟩, _, rfl, by omega, by omega, by (try rw [ew5691]); omega⟩
  · refine WP_iload dX3_faultOfNumber_18 rfl ?_
    refine WP_iload_n dX3_faultOfNumber_20 rfl ?_
    refine WP_callS1 dX3_faultOfNumber_21 ⟨⟨⟨by decide, by decide⟩, zX3_mostOf⟩, lX3_125, tX3_mostOf⟩ (sx_mostOf hy hr hI pa ) (Nat.le_of_ble_eq_true rfl) ?_
    intro r Ia Ja Ra hq
    obtain ⟨⟨ea, eb, ec⟩, v5692, rfl, av5692, bv5692, cv5692⟩ := hq
    show WP _ _ _ _ (.int _ :: _) _ _ _ _
    rw [ea, eb, ec]
    clear ea eb ec Ia Ja Ra
    refine WQ_icmp_le 29 dX3_faultOfNumber_24 rfl (fun c5692 => ?_) (fun c5692 => ?_)
    · refine WP_aload_n dX3_faultOfNumber_29 rfl ?_
      refine WP_getr dX3_faultOfNumber_30 fX3_9 rfl (lyx_is hy 3 3 rfl) (rfx hr 3 3 4 (by decide)) ?_
      refine WP_iload_n dX3_faultOfNumber_33 rfl ?_
      refine WP_iload dX3_faultOfNumber_34 rfl ?_
      refine WQ_iast dX3_faultOfNumber_36 (lyx_is hy 4 13 rfl) (lyx_n hy 4 5 rfl) (by omega) (by omega) (fun I5694 fI5694 => ?_)
      have eI5694 := fI5694
      rw [cl (x := ix) (n := 1) (by omega)] at eI5694
      clear fI5694
      have hI5694 : XI g n L I5694 := by rw [eI5694]; exact (xi_f hy hI (c := 4) (0) (0) (1000) (by decide) (Or.inl (by decide)) (by decide) (by omega) (by omega))
      have e5695 : I5694 (ad g 1) 1 = L := by rw [eI5694, pp_ne _ _ (Or.inl (lyx_ne hy (by decide) (by decide) (by decide)))]; exact e5682
      have e5696 : I5694 (ad g 4) 0 = w5684 := by rw [eI5694, pp_ne _ _ (Or.inr (by decide))]; exact ew5684
      have e5697 : I5694 (ad g 6) 1 = w5685 := by rw [eI5694, pp_ne _ _ (Or.inl (lyx_ne hy (by decide) (by decide) (by decide)))]; exact ew5685
      have e5698 : I5694 (ad g 6) 2 = w5686 := by rw [eI5694, pp_ne _ _ (Or.inl (lyx_ne hy (by decide) (by decide) (by decide)))]; exact ew5686
      have e5699 : I5694 (ad g 1) 4 = v5687 := by rw [eI5694, pp_ne _ _ (Or.inl (lyx_ne hy (by decide) (by decide) (by decide)))]; exact ev5687
      have e5700 : I5694 (ad g 4) 1 = v5687 := by rw [eI5694, pp_self]
      have fr5701 : fz 74 g [4] I I5694 := by rw [eI5694]; exact fzx_pp hy fr0 (by decide) (by decide)
      clear eI5694
      refine WP_iload_n dX3_faultOfNumber_37 rfl ?_
      refine WQ_bipush (68) (68) dX3_faultOfNumber_38 rfl rfl (fun v5702 hv5702 => ?_)
      refine WQ_icmp_eq 45 dX3_faultOfNumber_40 rfl (fun c5702 => False.elim (by omega)) (fun c5702 => ?_)
      refine WQ_iconst (0) (0) dX3_faultOfNumber_43 rfl rfl (fun v5704 hv5704 => ?_)
      exact WP_iret dX3_faultOfNumber_44 rfl ⟨⟨hI5694, rfl, fr5701, frj0, ⟨trivial, (by rw [e5696, ew5684] <;> exact (eq32 _ _).mpr (by omega)), (by rw [e5697, ew5685] <;> exact (eq32 _ _).mpr (by omega)), (by rw [e5698, ew5686] <;> exact (eq32 _ _).mpr (by omega))⟩⟩, _, rfl, by omega, by omega, by (try rw [e5700]); omega⟩
    · refine WQ_iconst (2) (2) dX3_faultOfNumber_27 rfl rfl (fun v5705 hv5705 => ?_)
      obtain ⟨w5706, ew5706⟩ : ∃ w : Int32, I (ad g 4) 1 = w := ⟨_, rfl⟩
      have bw5706 := BT_get hI.1 4 0 5 (0) (0) (1000) (by decide) 1 (by decide) (by decide)
      rw [ew5706] at bw5706
      exact WP_iret dX3_faultOfNumber_28 rfl ⟨⟨hI, rfl, fr0, frj0, ⟨trivial, rfl, rfl, rfl⟩⟩, _, rfl, by omega, by omega, by (try rw [ew5706]); omega⟩
set_option maxHeartbeats 4000000 in
set_option maxRecDepth 100000 in
theorem sx_part_6_1_0 {g : GG} {n : Int} {L : Int32} (hy : LyX g)  {I : pI} {J : pJ} {R : pR} (hr : RfX g R) (hI : XI g n L I) (pa : Int32) (cz : Int32) (ix : Int32) (pa_lo : 110 ≤ pa.toInt) (pa_hi : pa.toInt ≤ 110) (cz_lo : 1 ≤ cz.toInt) (cz_hi : cz.toInt ≤ 1) (ix_lo : 0 ≤ ix.toInt) (ix_hi : ix.toInt ≤ 0) (hb : (I (ad g 6) 1).toInt ≤ 3) : SP g mX3_faultOfName [.ref (ad g 3), .int pa, .int cz, .int ix, .ref (ad g 6)] I J R (fun r I' J' R' => (XI g n L I' ∧ R' = R ∧ fz 74 g [] I I' ∧ fz 74 g [20] J J' ∧ True ∧ I' (ad g 6) 1 = I (ad g 6) 1 ∧ I' (ad g 6) 2 = I (ad g 6) 2) ∧ ∃ v : Int32, r = some (.int v) ∧ 0 ≤ v.toInt ∧ v.toInt ≤ 5) := by
  refine SP_of ⟨by decide, rfl⟩ (Nat.le_of_ble_eq_true rfl) ?_
  have e5707 : I (ad g 1) 1 = L := hI.2
  have b5708 := BT_get hI.1 1 1 2 (0) (0) (900) (by decide) 1 (by decide) (by decide)
  rw [e5707] at b5708
  have fr0 : fz 74 g [] I I := fz_rf
  have frj0 : fz 74 g [20] J J := fz_rf
  obtain ⟨w5709, ew5709⟩ : ∃ w : Int32, I (ad g 6) 1 = w := ⟨_, rfl⟩
  have bw5709 := BT_get hI.1 6 1 2 (0) (0) (4) (by decide) 1 (by decide) (by decide)
  rw [ew5709] at bw5709
  obtain ⟨w5710, ew5710⟩ : ∃ w : Int32, I (ad g 6) 2 = w := ⟨_, rfl⟩
  have bw5710 := BT_get hI.1 6 2 3 (0) (0) (3) (by decide) 2 (by decide) (by decide)
  rw [ew5710] at bw5710
  rw [ew5709] at hb
  refine WP_iload_n dX3_faultOfName_0 rfl ?_
  refine WQ_bipush (115) (115) dX3_faultOfName_1 rfl rfl (fun v5711 hv5711 => ?_)
  have jn17_5715 : ∀ (v5715 : Int32), 1 ≤ v5715.toInt → v5715.toInt ≤ 1 → WP g mX3_faultOfName 17 [(0, .ref (ad g 3)), (1, .int pa), (2, .int cz), (3, .int ix), (4, .ref (ad g 6))] [.int v5715] I J R (fun r I' J' R' => (XI g n L I' ∧ R' = R ∧ fz 74 g [] I I' ∧ fz 74 g [20] J J' ∧ True ∧ I' (ad g 6) 1 = I (ad g 6) 1 ∧ I' (ad g 6) 2 = I (ad g 6) 2) ∧ ∃ v : Int32, r = some (.int v) ∧ 0 ≤ v.toInt ∧ v.toInt ≤ 5) := by
    intro v5715 av5715 bv5715
    refine WP_istore (ls' := [(0, _), (1, _), (2, _), (3, _), (4, _), (5, _)]) dX3_faultOfName_17 (by decide) rfl ?_
    refine WP_iload dX3_faultOfName_19 rfl ?_
    have jn51_5719 : ∀ (v5719 : Int32), -1 ≤ v5719.toInt → v5719.toInt ≤ 3 → WP g mX3_faultOfName 51 [(0, .ref (ad g 3)), (1, .int pa), (2, .int cz), (3, .int ix), (4, .ref (ad g 6)), (5, .int v5715)] [.int v5719] I J R (fun r I' J' R' => (XI g n L I' ∧ R' = R ∧ fz 74 g [] I I' ∧ fz 74 g [20] J J' ∧ True ∧ I' (ad g 6) 1 = I (ad g 6) 1 ∧ I' (ad g 6) 2 = I (ad g 6) 2) ∧ ∃ v : Int32, r = some (.int v) ∧ 0 ≤ v.toInt ∧ v.toInt ≤ 5) := by
      intro v5719 av5719 bv5719
      refine WP_istore (ls' := [(0, _), (1, _), (2, _), (3, _), (4, _), (5, _), (6, _)]) dX3_faultOfName_51 (by decide) rfl ?_
      refine WP_iload_n dX3_faultOfName_53 rfl ?_
      refine WQ_bipush (110) (110) dX3_faultOfName_54 rfl rfl (fun v5721 hv5721 => ?_)
      refine WQ_icmp_eq 65 dX3_faultOfName_56 rfl (fun c5721 => ?_) (fun c5721 => False.elim (by omega))
      refine WP_iload dX3_faultOfName_65 rfl ?_
      refine WQ_iconst (-1) (-1) dX3_faultOfName_67 rfl rfl (fun v5723 hv5723 => ?_)
      refine WQ_icmp_eq 73 dX3_faultOfName_68 rfl (fun c5723 => ?_) (fun c5723 => ?_)
      · refine WP_aload dX3_faultOfName_73 rfl ?_
        refine WP_iload_n dX3_faultOfName_75 rfl ?_
        refine WQ_bipush (110) (110) dX3_faultOfName_76 rfl rfl (fun v5725 hv5725 => ?_)
        have jn86_5727 : ∀ (v5727 : Int32), 1 ≤ v5727.toInt → v5727.toInt ≤ 1 → WP g mX3_faultOfName 86 [(0, .ref (ad g 3)), (1, .int pa), (2, .int cz), (3, .int ix), (4, .ref (ad g 6)), (5, .int v5715), (6, .int v5719)] [.int v5727, .ref (ad g 6)] I J R (fun r I' J' R' => (XI g n L I' ∧ R' = R ∧ fz 74 g [] I I' ∧ fz 74 g [20] J J' ∧ True ∧ I' (ad g 6) 1 = I (ad g 6) 1 ∧ I' (ad g 6) 2 = I (ad g 6) 2) ∧ ∃ v : Int32, r = some (.int v) ∧ 0 ≤ v.toInt ∧ v.toInt ≤ 5) := by
          intro v5727 av5727 bv5727
          refine WP_aload_n dX3_faultOfName_86 rfl ?_
          refine WP_getr dX3_faultOfName_87 fX3_15 rfl (lyx_is hy 3 3 rfl) (rfx hr 3 2 1 (by decide)) ?_
          refine WQ_getl dX3_faultOfName_90 fX3_80 rfl (lyx_is hy 1 5 rfl) (fun l5729 el5729 => ?_)
          refine WP_callV2 (k := 7) dX3_faultOfName_93 ⟨⟨⟨by decide, by decide⟩, zX7_name⟩, lX3_110, by decide, rfl, vX7_name.1, vX7_name.2⟩ (lyx_is hy 6 7 rfl) (sx_name_6_1 hy hr hI v5727 l5729 (by omega) (by omega) (by rw [ew5709]; omega)) (Nat.le_of_ble_eq_true rfl) ?_
          intro r Ia J5730 Ra hq
          obtain ⟨⟨ea, ec, fjJ5730⟩, rfl⟩ := hq
          rw [ea, ec]
          clear ea ec Ia Ra
          have fr5731 : fz 74 g [20] J J5730 := fz_tr frj0 (fz_mono fjJ5730 (by decide))
          refine WQ_iconst (0) (0) dX3_faultOfName_96 rfl rfl (fun v5732 hv5732 => ?_)
          exact WP_iret dX3_faultOfName_97 rfl ⟨⟨hI, rfl, fr0, fr5731, ⟨trivial, rfl, rfl⟩⟩, _, rfl, by omega, by omega⟩
        refine WQ_icmp_ne 85 dX3_faultOfName_78 rfl (fun c5732 => False.elim (by omega)) (fun c5732 => ?_)
        refine WQ_iconst (1) (1) dX3_faultOfName_81 rfl rfl (fun v5734 hv5734 => ?_)
        refine WP_goto 86 dX3_faultOfName_82 rfl ?_
        exact WP_sub (fc rfl (fc rfl (fc rfl (fc rfl (fc rfl (fc rfl (fc rfl fn))))))) (jn86_5727 v5734 (by omega) (by omega))
      · refine WQ_iconst (3) (3) dX3_faultOfName_71 rfl rfl (fun v5735 hv5735 => ?_)
        exact WP_iret dX3_faultOfName_72 rfl ⟨⟨hI, rfl, fr0, frj0, ⟨trivial, rfl, rfl⟩⟩, _, rfl, by omega, by omega⟩
    refine WQ_if_eq 39 dX3_faultOfName_21 rfl (fun c5735 => False.elim (by omega)) (fun c5735 => ?_)
    refine WP_aload dX3_faultOfName_24 rfl ?_
    refine WP_aload_n dX3_faultOfName_26 rfl ?_
    refine WP_getr dX3_faultOfName_27 fX3_15 rfl (lyx_is hy 3 3 rfl) (rfx hr 3 2 1 (by decide)) ?_
    refine WQ_getl dX3_faultOfName_30 fX3_80 rfl (lyx_is hy 1 5 rfl) (fun l5737 el5737 => ?_)
    refine WP_callV1 (k := 7) dX3_faultOfName_33 ⟨⟨⟨by decide, by decide⟩, zX7_sortNamed⟩, lX3_103, by decide, rfl, vX7_sortNamed.1, vX7_sortNamed.2⟩ (lyx_is hy 6 7 rfl) (sx_sortNamed_6 hy hr hI l5737 ) (Nat.le_of_ble_eq_true rfl) ?_
    intro r Ia Ja Ra hq
    obtain ⟨⟨ea, eb, ec⟩, v5738, rfl, av5738, bv5738⟩ := hq
    show WP _ _ _ _ (.int _ :: _) _ _ _ _
    rw [ea, eb, ec]
    clear ea eb ec Ia Ja Ra
    refine WP_goto 51 dX3_faultOfName_36 rfl ?_
    exact WP_sub (fc rfl (fc rfl (fc rfl (fc rfl (fc rfl (fc rfl fn)))))) (jn51_5719 v5738 (by omega) (by omega))
  refine WQ_icmp_eq 12 dX3_faultOfName_3 rfl (fun c5738 => False.elim (by omega)) (fun c5738 => ?_)
  refine WP_iload_n dX3_faultOfName_6 rfl ?_
  refine WQ_bipush (110) (110) dX3_faultOfName_7 rfl rfl (fun v5740 hv5740 => ?_)
  refine WQ_icmp_ne 16 dX3_faultOfName_9 rfl (fun c5740 => False.elim (by omega)) (fun c5740 => ?_)
  refine WQ_iconst (1) (1) dX3_faultOfName_12 rfl rfl (fun v5742 hv5742 => ?_)
  refine WP_goto 17 dX3_faultOfName_13 rfl ?_
  exact WP_sub (fc rfl (fc rfl (fc rfl (fc rfl (fc rfl fn))))) (jn17_5715 v5742 (by omega) (by omega))
set_option maxHeartbeats 4000000 in
set_option maxRecDepth 100000 in
theorem sx_part_6_1_1 {g : GG} {n : Int} {L : Int32} (hy : LyX g)  {I : pI} {J : pJ} {R : pR} (hr : RfX g R) (hI : XI g n L I) (pa : Int32) (cz : Int32) (ix : Int32) (pa_lo : 80 ≤ pa.toInt) (pa_hi : pa.toInt ≤ 80) (cz_lo : 1 ≤ cz.toInt) (cz_hi : cz.toInt ≤ 1) (ix_lo : 1 ≤ ix.toInt) (ix_hi : ix.toInt ≤ 1) : SP g mX3_faultOfNumber [.ref (ad g 3), .int pa, .int cz, .int ix, .ref (ad g 6)] I J R (fun r I' J' R' => (XI g n L I' ∧ R' = R ∧ fz 74 g [4] I I' ∧ fz 74 g [] J J' ∧ True ∧ I' (ad g 4) 0 = I (ad g 4) 0 ∧ I' (ad g 6) 1 = I (ad g 6) 1 ∧ I' (ad g 6) 2 = I (ad g 6) 2) ∧ ∃ v : Int32, r = some (.int v) ∧ 0 ≤ v.toInt ∧ v.toInt ≤ 5 ∧ (v.toInt = 0 → (I' (ad g 4) 1).toInt ≤ 99)) := by
  refine SP_of ⟨by decide, rfl⟩ (Nat.le_of_ble_eq_true rfl) ?_
  have e5743 : I (ad g 1) 1 = L := hI.2
  have b5744 := BT_get hI.1 1 1 2 (0) (0) (900) (by decide) 1 (by decide) (by decide)
  rw [e5743] at b5744
  have fr0 : fz 74 g [4] I I := fz_rf
  have frj0 : fz 74 g [] J J := fz_rf
  obtain ⟨w5745, ew5745⟩ : ∃ w : Int32, I (ad g 4) 0 = w := ⟨_, rfl⟩
  have bw5745 := BT_get hI.1 4 0 5 (0) (0) (1000) (by decide) 0 (by decide) (by decide)
  rw [ew5745] at bw5745
  obtain ⟨w5746, ew5746⟩ : ∃ w : Int32, I (ad g 6) 1 = w := ⟨_, rfl⟩
  have bw5746 := BT_get hI.1 6 1 2 (0) (0) (4) (by decide) 1 (by decide) (by decide)
  rw [ew5746] at bw5746
  obtain ⟨w5747, ew5747⟩ : ∃ w : Int32, I (ad g 6) 2 = w := ⟨_, rfl⟩
  have bw5747 := BT_get hI.1 6 2 3 (0) (0) (3) (by decide) 2 (by decide) (by decide)
  rw [ew5747] at bw5747
  refine WP_aload_n dX3_faultOfNumber_0 rfl ?_
  refine WP_getr dX3_faultOfNumber_1 fX3_15 rfl (lyx_is hy 3 3 rfl) (rfx hr 3 2 1 (by decide)) ?_
  refine WQ_getiu dX3_faultOfNumber_4 fX3_118 rfl (lyx_is hy 1 5 rfl) (fun v5748 ev5748 => ?_)
  refine WP_istore (ls' := [(0, _), (1, _), (2, _), (3, _), (4, _), (5, _)]) dX3_faultOfNumber_7 (by decide) rfl ?_
  refine WP_iload dX3_faultOfNumber_9 rfl ?_
  refine WP_iload_n dX3_faultOfNumber_11 rfl ?_
  refine WP_callS1 dX3_faultOfNumber_12 ⟨⟨⟨by decide, by decide⟩, zX3_leastOf⟩, lX3_121, tX3_leastOf⟩ (sx_leastOf hy hr hI pa ) (Nat.le_of_ble_eq_true rfl) ?_
  intro r Ia Ja Ra hq
  obtain ⟨⟨ea, eb, ec⟩, v5749, rfl, av5749, bv5749⟩ := hq
  show WP _ _ _ _ (.int _ :: _) _ _ _ _
  rw [ea, eb, ec]
  clear ea eb ec Ia Ja Ra
  refine WQ_icmp_lt 27 dX3_faultOfNumber_15 rfl (fun c5749 => ?_) (fun c5749 => ?_)
  · refine WQ_iconst (2) (2) dX3_faultOfNumber_27 rfl rfl (fun v5751 hv5751 => ?_)
    obtain ⟨w5752, ew5752⟩ : ∃ w : Int32, I (ad g 4) 1 = w := ⟨_, rfl⟩
    have bw5752 := BT_get hI.1 4 0 5 (0) (0) (1000) (by decide) 1 (by decide) (by decide)
    rw [ew5752] at bw5752
    exact WP_iret dX3_faultOfNumber_28 rfl ⟨⟨hI, rfl, fr0, frj0, ⟨trivial, rfl, rfl, rfl⟩⟩, _, rfl, by omega, by omega, by (try rw [ew5752]); omega⟩
  · refine WP_iload dX3_faultOfNumber_18 rfl ?_
    refine WP_iload_n dX3_faultOfNumber_20 rfl ?_
    refine WP_callS1 dX3_faultOfNumber_21 ⟨⟨⟨by decide, by decide⟩, zX3_mostOf⟩, lX3_125, tX3_mostOf⟩ (sx_mostOf hy hr hI pa ) (Nat.le_of_ble_eq_true rfl) ?_
    intro r Ia Ja Ra hq
    obtain ⟨⟨ea, eb, ec⟩, v5753, rfl, av5753, bv5753, cv5753⟩ := hq
    show WP _ _ _ _ (.int _ :: _) _ _ _ _
    rw [ea, eb, ec]
    clear ea eb ec Ia Ja Ra
    refine WQ_icmp_le 29 dX3_faultOfNumber_24 rfl (fun c5753 => ?_) (fun c5753 => ?_)
    · refine WP_aload_n dX3_faultOfNumber_29 rfl ?_
      refine WP_getr dX3_faultOfNumber_30 fX3_9 rfl (lyx_is hy 3 3 rfl) (rfx hr 3 3 4 (by decide)) ?_
      refine WP_iload_n dX3_faultOfNumber_33 rfl ?_
      refine WP_iload dX3_faultOfNumber_34 rfl ?_
      refine WQ_iast dX3_faultOfNumber_36 (lyx_is hy 4 13 rfl) (lyx_n hy 4 5 rfl) (by omega) (by omega) (fun I5755 fI5755 => ?_)
      have eI5755 := fI5755
      rw [cl (x := ix) (n := 1) (by omega)] at eI5755
      clear fI5755
      have hI5755 : XI g n L I5755 := by rw [eI5755]; exact (xi_f hy hI (c := 4) (0) (0) (1000) (by decide) (Or.inl (by decide)) (by decide) (by omega) (by omega))
      have e5756 : I5755 (ad g 1) 1 = L := by rw [eI5755, pp_ne _ _ (Or.inl (lyx_ne hy (by decide) (by decide) (by decide)))]; exact e5743
      have e5757 : I5755 (ad g 4) 0 = w5745 := by rw [eI5755, pp_ne _ _ (Or.inr (by decide))]; exact ew5745
      have e5758 : I5755 (ad g 6) 1 = w5746 := by rw [eI5755, pp_ne _ _ (Or.inl (lyx_ne hy (by decide) (by decide) (by decide)))]; exact ew5746
      have e5759 : I5755 (ad g 6) 2 = w5747 := by rw [eI5755, pp_ne _ _ (Or.inl (lyx_ne hy (by decide) (by decide) (by decide)))]; exact ew5747
      have e5760 : I5755 (ad g 1) 4 = v5748 := by rw [eI5755, pp_ne _ _ (Or.inl (lyx_ne hy (by decide) (by decide) (by decide)))]; exact ev5748
      have e5761 : I5755 (ad g 4) 1 = v5748 := by rw [eI5755, pp_self]
      have fr5762 : fz 74 g [4] I I5755 := by rw [eI5755]; exact fzx_pp hy fr0 (by decide) (by decide)
      clear eI5755
      refine WP_iload_n dX3_faultOfNumber_37 rfl ?_
      refine WQ_bipush (68) (68) dX3_faultOfNumber_38 rfl rfl (fun v5763 hv5763 => ?_)
      refine WQ_icmp_eq 45 dX3_faultOfNumber_40 rfl (fun c5763 => False.elim (by omega)) (fun c5763 => ?_)
      refine WQ_iconst (0) (0) dX3_faultOfNumber_43 rfl rfl (fun v5765 hv5765 => ?_)
      exact WP_iret dX3_faultOfNumber_44 rfl ⟨⟨hI5755, rfl, fr5762, frj0, ⟨trivial, (by rw [e5757, ew5745] <;> exact (eq32 _ _).mpr (by omega)), (by rw [e5758, ew5746] <;> exact (eq32 _ _).mpr (by omega)), (by rw [e5759, ew5747] <;> exact (eq32 _ _).mpr (by omega))⟩⟩, _, rfl, by omega, by omega, by (try rw [e5761]); omega⟩
    · refine WQ_iconst (2) (2) dX3_faultOfNumber_27 rfl rfl (fun v5766 hv5766 => ?_)
      obtain ⟨w5767, ew5767⟩ : ∃ w : Int32, I (ad g 4) 1 = w := ⟨_, rfl⟩
      have bw5767 := BT_get hI.1 4 0 5 (0) (0) (1000) (by decide) 1 (by decide) (by decide)
      rw [ew5767] at bw5767
      exact WP_iret dX3_faultOfNumber_28 rfl ⟨⟨hI, rfl, fr0, frj0, ⟨trivial, rfl, rfl, rfl⟩⟩, _, rfl, by omega, by omega, by (try rw [ew5767]); omega⟩
set_option maxHeartbeats 4000000 in
set_option maxRecDepth 100000 in
theorem sx_part_6_1_2 {g : GG} {n : Int} {L : Int32} (hy : LyX g)  {I : pI} {J : pJ} {R : pR} (hr : RfX g R) (hI : XI g n L I) (pa : Int32) (cz : Int32) (ix : Int32) (pa_lo : 72 ≤ pa.toInt) (pa_hi : pa.toInt ≤ 72) (cz_lo : 1 ≤ cz.toInt) (cz_hi : cz.toInt ≤ 1) (ix_lo : 2 ≤ ix.toInt) (ix_hi : ix.toInt ≤ 2) : SP g mX3_faultOfNumber [.ref (ad g 3), .int pa, .int cz, .int ix, .ref (ad g 6)] I J R (fun r I' J' R' => (XI g n L I' ∧ R' = R ∧ fz 74 g [4] I I' ∧ fz 74 g [] J J' ∧ True ∧ I' (ad g 4) 0 = I (ad g 4) 0 ∧ I' (ad g 4) 1 = I (ad g 4) 1 ∧ I' (ad g 6) 1 = I (ad g 6) 1 ∧ I' (ad g 6) 2 = I (ad g 6) 2) ∧ ∃ v : Int32, r = some (.int v) ∧ 0 ≤ v.toInt ∧ v.toInt ≤ 5 ∧ (v.toInt = 0 → (I' (ad g 4) 2).toInt ≤ 1000)) := by
  refine SP_of ⟨by decide, rfl⟩ (Nat.le_of_ble_eq_true rfl) ?_
  have e5768 : I (ad g 1) 1 = L := hI.2
  have b5769 := BT_get hI.1 1 1 2 (0) (0) (900) (by decide) 1 (by decide) (by decide)
  rw [e5768] at b5769
  have fr0 : fz 74 g [4] I I := fz_rf
  have frj0 : fz 74 g [] J J := fz_rf
  obtain ⟨w5770, ew5770⟩ : ∃ w : Int32, I (ad g 4) 0 = w := ⟨_, rfl⟩
  have bw5770 := BT_get hI.1 4 0 5 (0) (0) (1000) (by decide) 0 (by decide) (by decide)
  rw [ew5770] at bw5770
  obtain ⟨w5771, ew5771⟩ : ∃ w : Int32, I (ad g 4) 1 = w := ⟨_, rfl⟩
  have bw5771 := BT_get hI.1 4 0 5 (0) (0) (1000) (by decide) 1 (by decide) (by decide)
  rw [ew5771] at bw5771
  obtain ⟨w5772, ew5772⟩ : ∃ w : Int32, I (ad g 6) 1 = w := ⟨_, rfl⟩
  have bw5772 := BT_get hI.1 6 1 2 (0) (0) (4) (by decide) 1 (by decide) (by decide)
  rw [ew5772] at bw5772
  obtain ⟨w5773, ew5773⟩ : ∃ w : Int32, I (ad g 6) 2 = w := ⟨_, rfl⟩
  have bw5773 := BT_get hI.1 6 2 3 (0) (0) (3) (by decide) 2 (by decide) (by decide)
  rw [ew5773] at bw5773
  refine WP_aload_n dX3_faultOfNumber_0 rfl ?_
  refine WP_getr dX3_faultOfNumber_1 fX3_15 rfl (lyx_is hy 3 3 rfl) (rfx hr 3 2 1 (by decide)) ?_
  refine WQ_getiu dX3_faultOfNumber_4 fX3_118 rfl (lyx_is hy 1 5 rfl) (fun v5774 ev5774 => ?_)
  refine WP_istore (ls' := [(0, _), (1, _), (2, _), (3, _), (4, _), (5, _)]) dX3_faultOfNumber_7 (by decide) rfl ?_
  refine WP_iload dX3_faultOfNumber_9 rfl ?_
  refine WP_iload_n dX3_faultOfNumber_11 rfl ?_
  refine WP_callS1 dX3_faultOfNumber_12 ⟨⟨⟨by decide, by decide⟩, zX3_leastOf⟩, lX3_121, tX3_leastOf⟩ (sx_leastOf hy hr hI pa ) (Nat.le_of_ble_eq_true rfl) ?_
  intro r Ia Ja Ra hq
  obtain ⟨⟨ea, eb, ec⟩, v5775, rfl, av5775, bv5775⟩ := hq
  show WP _ _ _ _ (.int _ :: _) _ _ _ _
  rw [ea, eb, ec]
  clear ea eb ec Ia Ja Ra
  refine WQ_icmp_lt 27 dX3_faultOfNumber_15 rfl (fun c5775 => ?_) (fun c5775 => ?_)
  · refine WQ_iconst (2) (2) dX3_faultOfNumber_27 rfl rfl (fun v5777 hv5777 => ?_)
    obtain ⟨w5778, ew5778⟩ : ∃ w : Int32, I (ad g 4) 2 = w := ⟨_, rfl⟩
    have bw5778 := BT_get hI.1 4 0 5 (0) (0) (1000) (by decide) 2 (by decide) (by decide)
    rw [ew5778] at bw5778
    exact WP_iret dX3_faultOfNumber_28 rfl ⟨⟨hI, rfl, fr0, frj0, ⟨trivial, rfl, rfl, rfl, rfl⟩⟩, _, rfl, by omega, by omega, by (try rw [ew5778]); omega⟩
  · refine WP_iload dX3_faultOfNumber_18 rfl ?_
    refine WP_iload_n dX3_faultOfNumber_20 rfl ?_
    refine WP_callS1 dX3_faultOfNumber_21 ⟨⟨⟨by decide, by decide⟩, zX3_mostOf⟩, lX3_125, tX3_mostOf⟩ (sx_mostOf hy hr hI pa ) (Nat.le_of_ble_eq_true rfl) ?_
    intro r Ia Ja Ra hq
    obtain ⟨⟨ea, eb, ec⟩, v5779, rfl, av5779, bv5779, cv5779⟩ := hq
    show WP _ _ _ _ (.int _ :: _) _ _ _ _
    rw [ea, eb, ec]
    clear ea eb ec Ia Ja Ra
    refine WQ_icmp_le 29 dX3_faultOfNumber_24 rfl (fun c5779 => ?_) (fun c5779 => ?_)
    · refine WP_aload_n dX3_faultOfNumber_29 rfl ?_
      refine WP_getr dX3_faultOfNumber_30 fX3_9 rfl (lyx_is hy 3 3 rfl) (rfx hr 3 3 4 (by decide)) ?_
      refine WP_iload_n dX3_faultOfNumber_33 rfl ?_
      refine WP_iload dX3_faultOfNumber_34 rfl ?_
      refine WQ_iast dX3_faultOfNumber_36 (lyx_is hy 4 13 rfl) (lyx_n hy 4 5 rfl) (by omega) (by omega) (fun I5781 fI5781 => ?_)
      have eI5781 := fI5781
      rw [cl (x := ix) (n := 2) (by omega)] at eI5781
      clear fI5781
      have hI5781 : XI g n L I5781 := by rw [eI5781]; exact (xi_f hy hI (c := 4) (0) (0) (1000) (by decide) (Or.inl (by decide)) (by decide) (by omega) (by omega))
      have e5782 : I5781 (ad g 1) 1 = L := by rw [eI5781, pp_ne _ _ (Or.inl (lyx_ne hy (by decide) (by decide) (by decide)))]; exact e5768
      have e5783 : I5781 (ad g 4) 0 = w5770 := by rw [eI5781, pp_ne _ _ (Or.inr (by decide))]; exact ew5770
      have e5784 : I5781 (ad g 4) 1 = w5771 := by rw [eI5781, pp_ne _ _ (Or.inr (by decide))]; exact ew5771
      have e5785 : I5781 (ad g 6) 1 = w5772 := by rw [eI5781, pp_ne _ _ (Or.inl (lyx_ne hy (by decide) (by decide) (by decide)))]; exact ew5772
      have e5786 : I5781 (ad g 6) 2 = w5773 := by rw [eI5781, pp_ne _ _ (Or.inl (lyx_ne hy (by decide) (by decide) (by decide)))]; exact ew5773
      have e5787 : I5781 (ad g 1) 4 = v5774 := by rw [eI5781, pp_ne _ _ (Or.inl (lyx_ne hy (by decide) (by decide) (by decide)))]; exact ev5774
      have e5788 : I5781 (ad g 4) 2 = v5774 := by rw [eI5781, pp_self]
      have fr5789 : fz 74 g [4] I I5781 := by rw [eI5781]; exact fzx_pp hy fr0 (by decide) (by decide)
      clear eI5781
      refine WP_iload_n dX3_faultOfNumber_37 rfl ?_
      refine WQ_bipush (68) (68) dX3_faultOfNumber_38 rfl rfl (fun v5790 hv5790 => ?_)
      refine WQ_icmp_eq 45 dX3_faultOfNumber_40 rfl (fun c5790 => False.elim (by omega)) (fun c5790 => ?_)
      refine WQ_iconst (0) (0) dX3_faultOfNumber_43 rfl rfl (fun v5792 hv5792 => ?_)
      exact WP_iret dX3_faultOfNumber_44 rfl ⟨⟨hI5781, rfl, fr5789, frj0, ⟨trivial, (by rw [e5783, ew5770] <;> exact (eq32 _ _).mpr (by omega)), (by rw [e5784, ew5771] <;> exact (eq32 _ _).mpr (by omega)), (by rw [e5785, ew5772] <;> exact (eq32 _ _).mpr (by omega)), (by rw [e5786, ew5773] <;> exact (eq32 _ _).mpr (by omega))⟩⟩, _, rfl, by omega, by omega, by (try rw [e5788]); omega⟩
    · refine WQ_iconst (2) (2) dX3_faultOfNumber_27 rfl rfl (fun v5793 hv5793 => ?_)
      obtain ⟨w5794, ew5794⟩ : ∃ w : Int32, I (ad g 4) 2 = w := ⟨_, rfl⟩
      have bw5794 := BT_get hI.1 4 0 5 (0) (0) (1000) (by decide) 2 (by decide) (by decide)
      rw [ew5794] at bw5794
      exact WP_iret dX3_faultOfNumber_28 rfl ⟨⟨hI, rfl, fr0, frj0, ⟨trivial, rfl, rfl, rfl, rfl⟩⟩, _, rfl, by omega, by omega, by (try rw [ew5794]); omega⟩
set_option maxHeartbeats 4000000 in
set_option maxRecDepth 100000 in
theorem sx_part_6_1_3 {g : GG} {n : Int} {L : Int32} (hy : LyX g)  {I : pI} {J : pJ} {R : pR} (hr : RfX g R) (hI : XI g n L I) (pa : Int32) (cz : Int32) (ix : Int32) (pa_lo : 67 ≤ pa.toInt) (pa_hi : pa.toInt ≤ 67) (cz_lo : 1 ≤ cz.toInt) (cz_hi : cz.toInt ≤ 1) (ix_lo : 3 ≤ ix.toInt) (ix_hi : ix.toInt ≤ 3) : SP g mX3_faultOfNumber [.ref (ad g 3), .int pa, .int cz, .int ix, .ref (ad g 6)] I J R (fun r I' J' R' => (XI g n L I' ∧ R' = R ∧ fz 74 g [4] I I' ∧ fz 74 g [] J J' ∧ True ∧ I' (ad g 4) 0 = I (ad g 4) 0 ∧ I' (ad g 4) 1 = I (ad g 4) 1 ∧ I' (ad g 4) 2 = I (ad g 4) 2 ∧ I' (ad g 6) 1 = I (ad g 6) 1 ∧ I' (ad g 6) 2 = I (ad g 6) 2) ∧ ∃ v : Int32, r = some (.int v) ∧ 0 ≤ v.toInt ∧ v.toInt ≤ 5 ∧ (v.toInt = 0 → (I' (ad g 4) 3).toInt ≤ 60)) := by
  refine SP_of ⟨by decide, rfl⟩ (Nat.le_of_ble_eq_true rfl) ?_
  have e5795 : I (ad g 1) 1 = L := hI.2
  have b5796 := BT_get hI.1 1 1 2 (0) (0) (900) (by decide) 1 (by decide) (by decide)
  rw [e5795] at b5796
  have fr0 : fz 74 g [4] I I := fz_rf
  have frj0 : fz 74 g [] J J := fz_rf
  obtain ⟨w5797, ew5797⟩ : ∃ w : Int32, I (ad g 4) 0 = w := ⟨_, rfl⟩
  have bw5797 := BT_get hI.1 4 0 5 (0) (0) (1000) (by decide) 0 (by decide) (by decide)
  rw [ew5797] at bw5797
  obtain ⟨w5798, ew5798⟩ : ∃ w : Int32, I (ad g 4) 1 = w := ⟨_, rfl⟩
  have bw5798 := BT_get hI.1 4 0 5 (0) (0) (1000) (by decide) 1 (by decide) (by decide)
  rw [ew5798] at bw5798
  obtain ⟨w5799, ew5799⟩ : ∃ w : Int32, I (ad g 4) 2 = w := ⟨_, rfl⟩
  have bw5799 := BT_get hI.1 4 0 5 (0) (0) (1000) (by decide) 2 (by decide) (by decide)
  rw [ew5799] at bw5799
  obtain ⟨w5800, ew5800⟩ : ∃ w : Int32, I (ad g 6) 1 = w := ⟨_, rfl⟩
  have bw5800 := BT_get hI.1 6 1 2 (0) (0) (4) (by decide) 1 (by decide) (by decide)
  rw [ew5800] at bw5800
  obtain ⟨w5801, ew5801⟩ : ∃ w : Int32, I (ad g 6) 2 = w := ⟨_, rfl⟩
  have bw5801 := BT_get hI.1 6 2 3 (0) (0) (3) (by decide) 2 (by decide) (by decide)
  rw [ew5801] at bw5801
  refine WP_aload_n dX3_faultOfNumber_0 rfl ?_
  refine WP_getr dX3_faultOfNumber_1 fX3_15 rfl (lyx_is hy 3 3 rfl) (rfx hr 3 2 1 (by decide)) ?_
  refine WQ_getiu dX3_faultOfNumber_4 fX3_118 rfl (lyx_is hy 1 5 rfl) (fun v5802 ev5802 => ?_)
  refine WP_istore (ls' := [(0, _), (1, _), (2, _), (3, _), (4, _), (5, _)]) dX3_faultOfNumber_7 (by decide) rfl ?_
  refine WP_iload dX3_faultOfNumber_9 rfl ?_
  refine WP_iload_n dX3_faultOfNumber_11 rfl ?_
  refine WP_callS1 dX3_faultOfNumber_12 ⟨⟨⟨by decide, by decide⟩, zX3_leastOf⟩, lX3_121, tX3_leastOf⟩ (sx_leastOf hy hr hI pa ) (Nat.le_of_ble_eq_true rfl) ?_
  intro r Ia Ja Ra hq
  obtain ⟨⟨ea, eb, ec⟩, v5803, rfl, av5803, bv5803⟩ := hq
  show WP _ _ _ _ (.int _ :: _) _ _ _ _
  rw [ea, eb, ec]
  clear ea eb ec Ia Ja Ra
  refine WQ_icmp_lt 27 dX3_faultOfNumber_15 rfl (fun c5803 => ?_) (fun c5803 => ?_)
  · refine WQ_iconst (2) (2) dX3_faultOfNumber_27 rfl rfl (fun v5805 hv5805 => ?_)
    obtain ⟨w5806, ew5806⟩ : ∃ w : Int32, I (ad g 4) 3 = w := ⟨_, rfl⟩
    have bw5806 := BT_get hI.1 4 0 5 (0) (0) (1000) (by decide) 3 (by decide) (by decide)
    rw [ew5806] at bw5806
    exact WP_iret dX3_faultOfNumber_28 rfl ⟨⟨hI, rfl, fr0, frj0, ⟨trivial, rfl, rfl, rfl, rfl, rfl⟩⟩, _, rfl, by omega, by omega, by (try rw [ew5806]); omega⟩
  · refine WP_iload dX3_faultOfNumber_18 rfl ?_
    refine WP_iload_n dX3_faultOfNumber_20 rfl ?_
    refine WP_callS1 dX3_faultOfNumber_21 ⟨⟨⟨by decide, by decide⟩, zX3_mostOf⟩, lX3_125, tX3_mostOf⟩ (sx_mostOf hy hr hI pa ) (Nat.le_of_ble_eq_true rfl) ?_
    intro r Ia Ja Ra hq
    obtain ⟨⟨ea, eb, ec⟩, v5807, rfl, av5807, bv5807, cv5807⟩ := hq
    show WP _ _ _ _ (.int _ :: _) _ _ _ _
    rw [ea, eb, ec]
    clear ea eb ec Ia Ja Ra
    refine WQ_icmp_le 29 dX3_faultOfNumber_24 rfl (fun c5807 => ?_) (fun c5807 => ?_)
    · refine WP_aload_n dX3_faultOfNumber_29 rfl ?_
      refine WP_getr dX3_faultOfNumber_30 fX3_9 rfl (lyx_is hy 3 3 rfl) (rfx hr 3 3 4 (by decide)) ?_
      refine WP_iload_n dX3_faultOfNumber_33 rfl ?_
      refine WP_iload dX3_faultOfNumber_34 rfl ?_
      refine WQ_iast dX3_faultOfNumber_36 (lyx_is hy 4 13 rfl) (lyx_n hy 4 5 rfl) (by omega) (by omega) (fun I5809 fI5809 => ?_)
      have eI5809 := fI5809
      rw [cl (x := ix) (n := 3) (by omega)] at eI5809
      clear fI5809
      have hI5809 : XI g n L I5809 := by rw [eI5809]; exact (xi_f hy hI (c := 4) (0) (0) (1000) (by decide) (Or.inl (by decide)) (by decide) (by omega) (by omega))
      have e5810 : I5809 (ad g 1) 1 = L := by rw [eI5809, pp_ne _ _ (Or.inl (lyx_ne hy (by decide) (by decide) (by decide)))]; exact e5795
      have e5811 : I5809 (ad g 4) 0 = w5797 := by rw [eI5809, pp_ne _ _ (Or.inr (by decide))]; exact ew5797
      have e5812 : I5809 (ad g 4) 1 = w5798 := by rw [eI5809, pp_ne _ _ (Or.inr (by decide))]; exact ew5798
      have e5813 : I5809 (ad g 4) 2 = w5799 := by rw [eI5809, pp_ne _ _ (Or.inr (by decide))]; exact ew5799
      have e5814 : I5809 (ad g 6) 1 = w5800 := by rw [eI5809, pp_ne _ _ (Or.inl (lyx_ne hy (by decide) (by decide) (by decide)))]; exact ew5800
      have e5815 : I5809 (ad g 6) 2 = w5801 := by rw [eI5809, pp_ne _ _ (Or.inl (lyx_ne hy (by decide) (by decide) (by decide)))]; exact ew5801
      have e5816 : I5809 (ad g 1) 4 = v5802 := by rw [eI5809, pp_ne _ _ (Or.inl (lyx_ne hy (by decide) (by decide) (by decide)))]; exact ev5802
      have e5817 : I5809 (ad g 4) 3 = v5802 := by rw [eI5809, pp_self]
      have fr5818 : fz 74 g [4] I I5809 := by rw [eI5809]; exact fzx_pp hy fr0 (by decide) (by decide)
      clear eI5809
      refine WP_iload_n dX3_faultOfNumber_37 rfl ?_
      refine WQ_bipush (68) (68) dX3_faultOfNumber_38 rfl rfl (fun v5819 hv5819 => ?_)
      refine WQ_icmp_eq 45 dX3_faultOfNumber_40 rfl (fun c5819 => False.elim (by omega)) (fun c5819 => ?_)
      refine WQ_iconst (0) (0) dX3_faultOfNumber_43 rfl rfl (fun v5821 hv5821 => ?_)
      exact WP_iret dX3_faultOfNumber_44 rfl ⟨⟨hI5809, rfl, fr5818, frj0, ⟨trivial, (by rw [e5811, ew5797] <;> exact (eq32 _ _).mpr (by omega)), (by rw [e5812, ew5798] <;> exact (eq32 _ _).mpr (by omega)), (by rw [e5813, ew5799] <;> exact (eq32 _ _).mpr (by omega)), (by rw [e5814, ew5800] <;> exact (eq32 _ _).mpr (by omega)), (by rw [e5815, ew5801] <;> exact (eq32 _ _).mpr (by omega))⟩⟩, _, rfl, by omega, by omega, by (try rw [e5817]); omega⟩
    · refine WQ_iconst (2) (2) dX3_faultOfNumber_27 rfl rfl (fun v5822 hv5822 => ?_)
      obtain ⟨w5823, ew5823⟩ : ∃ w : Int32, I (ad g 4) 3 = w := ⟨_, rfl⟩
      have bw5823 := BT_get hI.1 4 0 5 (0) (0) (1000) (by decide) 3 (by decide) (by decide)
      rw [ew5823] at bw5823
      exact WP_iret dX3_faultOfNumber_28 rfl ⟨⟨hI, rfl, fr0, frj0, ⟨trivial, rfl, rfl, rfl, rfl, rfl⟩⟩, _, rfl, by omega, by omega, by (try rw [ew5823]); omega⟩
set_option maxHeartbeats 4000000 in
set_option maxRecDepth 100000 in
theorem sx_part_6_2_0 {g : GG} {n : Int} {L : Int32} (hy : LyX g)  {I : pI} {J : pJ} {R : pR} (hr : RfX g R) (hI : XI g n L I) (pa : Int32) (cz : Int32) (ix : Int32) (pa_lo : 109 ≤ pa.toInt) (pa_hi : pa.toInt ≤ 109) (cz_lo : 2 ≤ cz.toInt) (cz_hi : cz.toInt ≤ 2) (ix_lo : 0 ≤ ix.toInt) (ix_hi : ix.toInt ≤ 0) (hb : (I (ad g 6) 2).toInt ≤ 2) : SP g mX3_faultOfName [.ref (ad g 3), .int pa, .int cz, .int ix, .ref (ad g 6)] I J R (fun r I' J' R' => (XI g n L I' ∧ R' = R ∧ fz 74 g [] I I' ∧ fz 74 g [20] J J' ∧ True ∧ I' (ad g 6) 1 = I (ad g 6) 1 ∧ I' (ad g 6) 2 = I (ad g 6) 2) ∧ ∃ v : Int32, r = some (.int v) ∧ 0 ≤ v.toInt ∧ v.toInt ≤ 5) := by
  refine SP_of ⟨by decide, rfl⟩ (Nat.le_of_ble_eq_true rfl) ?_
  have e5824 : I (ad g 1) 1 = L := hI.2
  have b5825 := BT_get hI.1 1 1 2 (0) (0) (900) (by decide) 1 (by decide) (by decide)
  rw [e5824] at b5825
  have fr0 : fz 74 g [] I I := fz_rf
  have frj0 : fz 74 g [20] J J := fz_rf
  obtain ⟨w5826, ew5826⟩ : ∃ w : Int32, I (ad g 6) 1 = w := ⟨_, rfl⟩
  have bw5826 := BT_get hI.1 6 1 2 (0) (0) (4) (by decide) 1 (by decide) (by decide)
  rw [ew5826] at bw5826
  obtain ⟨w5827, ew5827⟩ : ∃ w : Int32, I (ad g 6) 2 = w := ⟨_, rfl⟩
  have bw5827 := BT_get hI.1 6 2 3 (0) (0) (3) (by decide) 2 (by decide) (by decide)
  rw [ew5827] at bw5827
  rw [ew5827] at hb
  refine WP_iload_n dX3_faultOfName_0 rfl ?_
  refine WQ_bipush (115) (115) dX3_faultOfName_1 rfl rfl (fun v5828 hv5828 => ?_)
  have jn17_5832 : ∀ (v5832 : Int32), 0 ≤ v5832.toInt → v5832.toInt ≤ 0 → WP g mX3_faultOfName 17 [(0, .ref (ad g 3)), (1, .int pa), (2, .int cz), (3, .int ix), (4, .ref (ad g 6))] [.int v5832] I J R (fun r I' J' R' => (XI g n L I' ∧ R' = R ∧ fz 74 g [] I I' ∧ fz 74 g [20] J J' ∧ True ∧ I' (ad g 6) 1 = I (ad g 6) 1 ∧ I' (ad g 6) 2 = I (ad g 6) 2) ∧ ∃ v : Int32, r = some (.int v) ∧ 0 ≤ v.toInt ∧ v.toInt ≤ 5) := by
    intro v5832 av5832 bv5832
    refine WP_istore (ls' := [(0, _), (1, _), (2, _), (3, _), (4, _), (5, _)]) dX3_faultOfName_17 (by decide) rfl ?_
    refine WP_iload dX3_faultOfName_19 rfl ?_
    have jn51_5836 : ∀ (v5836 : Int32), -1 ≤ v5836.toInt → v5836.toInt ≤ 2 → WP g mX3_faultOfName 51 [(0, .ref (ad g 3)), (1, .int pa), (2, .int cz), (3, .int ix), (4, .ref (ad g 6)), (5, .int v5832)] [.int v5836] I J R (fun r I' J' R' => (XI g n L I' ∧ R' = R ∧ fz 74 g [] I I' ∧ fz 74 g [20] J J' ∧ True ∧ I' (ad g 6) 1 = I (ad g 6) 1 ∧ I' (ad g 6) 2 = I (ad g 6) 2) ∧ ∃ v : Int32, r = some (.int v) ∧ 0 ≤ v.toInt ∧ v.toInt ≤ 5) := by
      intro v5836 av5836 bv5836
      refine WP_istore (ls' := [(0, _), (1, _), (2, _), (3, _), (4, _), (5, _), (6, _)]) dX3_faultOfName_51 (by decide) rfl ?_
      refine WP_iload_n dX3_faultOfName_53 rfl ?_
      refine WQ_bipush (110) (110) dX3_faultOfName_54 rfl rfl (fun v5838 hv5838 => ?_)
      refine WQ_icmp_eq 65 dX3_faultOfName_56 rfl (fun c5838 => False.elim (by omega)) (fun c5838 => ?_)
      refine WP_iload_n dX3_faultOfName_59 rfl ?_
      refine WQ_bipush (109) (109) dX3_faultOfName_60 rfl rfl (fun v5840 hv5840 => ?_)
      refine WQ_icmp_ne 98 dX3_faultOfName_62 rfl (fun c5840 => False.elim (by omega)) (fun c5840 => ?_)
      refine WP_iload dX3_faultOfName_65 rfl ?_
      refine WQ_iconst (-1) (-1) dX3_faultOfName_67 rfl rfl (fun v5842 hv5842 => ?_)
      refine WQ_icmp_eq 73 dX3_faultOfName_68 rfl (fun c5842 => ?_) (fun c5842 => ?_)
      · refine WP_aload dX3_faultOfName_73 rfl ?_
        refine WP_iload_n dX3_faultOfName_75 rfl ?_
        refine WQ_bipush (110) (110) dX3_faultOfName_76 rfl rfl (fun v5844 hv5844 => ?_)
        have jn86_5846 : ∀ (v5846 : Int32), 0 ≤ v5846.toInt → v5846.toInt ≤ 0 → WP g mX3_faultOfName 86 [(0, .ref (ad g 3)), (1, .int pa), (2, .int cz), (3, .int ix), (4, .ref (ad g 6)), (5, .int v5832), (6, .int v5836)] [.int v5846, .ref (ad g 6)] I J R (fun r I' J' R' => (XI g n L I' ∧ R' = R ∧ fz 74 g [] I I' ∧ fz 74 g [20] J J' ∧ True ∧ I' (ad g 6) 1 = I (ad g 6) 1 ∧ I' (ad g 6) 2 = I (ad g 6) 2) ∧ ∃ v : Int32, r = some (.int v) ∧ 0 ≤ v.toInt ∧ v.toInt ≤ 5) := by
          intro v5846 av5846 bv5846
          refine WP_aload_n dX3_faultOfName_86 rfl ?_
          refine WP_getr dX3_faultOfName_87 fX3_15 rfl (lyx_is hy 3 3 rfl) (rfx hr 3 2 1 (by decide)) ?_
          refine WQ_getl dX3_faultOfName_90 fX3_80 rfl (lyx_is hy 1 5 rfl) (fun l5848 el5848 => ?_)
          refine WP_callV2 (k := 7) dX3_faultOfName_93 ⟨⟨⟨by decide, by decide⟩, zX7_name⟩, lX3_110, by decide, rfl, vX7_name.1, vX7_name.2⟩ (lyx_is hy 6 7 rfl) (sx_name_6_0 hy hr hI v5846 l5848 (by omega) (by omega) (by rw [ew5827]; omega)) (Nat.le_of_ble_eq_true rfl) ?_
          intro r Ia J5849 Ra hq
          obtain ⟨⟨ea, ec, fjJ5849⟩, rfl⟩ := hq
          rw [ea, ec]
          clear ea ec Ia Ra
          have fr5850 : fz 74 g [20] J J5849 := fz_tr frj0 (fz_mono fjJ5849 (by decide))
          refine WQ_iconst (0) (0) dX3_faultOfName_96 rfl rfl (fun v5851 hv5851 => ?_)
          exact WP_iret dX3_faultOfName_97 rfl ⟨⟨hI, rfl, fr0, fr5850, ⟨trivial, rfl, rfl⟩⟩, _, rfl, by omega, by omega⟩
        refine WQ_icmp_ne 85 dX3_faultOfName_78 rfl (fun c5851 => ?_) (fun c5851 => False.elim (by omega))
        refine WQ_iconst (0) (0) dX3_faultOfName_85 rfl rfl (fun v5853 hv5853 => ?_)
        exact WP_sub (fc rfl (fc rfl (fc rfl (fc rfl (fc rfl (fc rfl (fc rfl fn))))))) (jn86_5846 v5853 (by omega) (by omega))
      · refine WQ_iconst (3) (3) dX3_faultOfName_71 rfl rfl (fun v5854 hv5854 => ?_)
        exact WP_iret dX3_faultOfName_72 rfl ⟨⟨hI, rfl, fr0, frj0, ⟨trivial, rfl, rfl⟩⟩, _, rfl, by omega, by omega⟩
    refine WQ_if_eq 39 dX3_faultOfName_21 rfl (fun c5854 => ?_) (fun c5854 => False.elim (by omega))
    refine WP_aload dX3_faultOfName_39 rfl ?_
    refine WP_aload_n dX3_faultOfName_41 rfl ?_
    refine WP_getr dX3_faultOfName_42 fX3_15 rfl (lyx_is hy 3 3 rfl) (rfx hr 3 2 1 (by decide)) ?_
    refine WQ_getl dX3_faultOfName_45 fX3_80 rfl (lyx_is hy 1 5 rfl) (fun l5856 el5856 => ?_)
    refine WP_callV1 (k := 7) dX3_faultOfName_48 ⟨⟨⟨by decide, by decide⟩, zX7_thingNamed⟩, lX3_107, by decide, rfl, vX7_thingNamed.1, vX7_thingNamed.2⟩ (lyx_is hy 6 7 rfl) (sx_thingNamed_6 hy hr hI l5856 ) (Nat.le_of_ble_eq_true rfl) ?_
    intro r Ia Ja Ra hq
    obtain ⟨⟨ea, eb, ec⟩, v5857, rfl, av5857, bv5857⟩ := hq
    show WP _ _ _ _ (.int _ :: _) _ _ _ _
    rw [ea, eb, ec]
    clear ea eb ec Ia Ja Ra
    exact WP_sub (fc rfl (fc rfl (fc rfl (fc rfl (fc rfl (fc rfl fn)))))) (jn51_5836 v5857 (by omega) (by omega))
  refine WQ_icmp_eq 12 dX3_faultOfName_3 rfl (fun c5857 => False.elim (by omega)) (fun c5857 => ?_)
  refine WP_iload_n dX3_faultOfName_6 rfl ?_
  refine WQ_bipush (110) (110) dX3_faultOfName_7 rfl rfl (fun v5859 hv5859 => ?_)
  refine WQ_icmp_ne 16 dX3_faultOfName_9 rfl (fun c5859 => ?_) (fun c5859 => False.elim (by omega))
  refine WQ_iconst (0) (0) dX3_faultOfName_16 rfl rfl (fun v5861 hv5861 => ?_)
  exact WP_sub (fc rfl (fc rfl (fc rfl (fc rfl (fc rfl fn))))) (jn17_5832 v5861 (by omega) (by omega))
set_option maxHeartbeats 4000000 in
set_option maxRecDepth 100000 in
theorem sx_part_6_2_1 {g : GG} {n : Int} {L : Int32} (hy : LyX g)  {I : pI} {J : pJ} {R : pR} (hr : RfX g R) (hI : XI g n L I) (pa : Int32) (cz : Int32) (ix : Int32) (pa_lo : 72 ≤ pa.toInt) (pa_hi : pa.toInt ≤ 72) (cz_lo : 2 ≤ cz.toInt) (cz_hi : cz.toInt ≤ 2) (ix_lo : 1 ≤ ix.toInt) (ix_hi : ix.toInt ≤ 1) : SP g mX3_faultOfNumber [.ref (ad g 3), .int pa, .int cz, .int ix, .ref (ad g 6)] I J R (fun r I' J' R' => (XI g n L I' ∧ R' = R ∧ fz 74 g [4] I I' ∧ fz 74 g [] J J' ∧ True ∧ I' (ad g 4) 0 = I (ad g 4) 0 ∧ I' (ad g 6) 1 = I (ad g 6) 1 ∧ I' (ad g 6) 2 = I (ad g 6) 2) ∧ ∃ v : Int32, r = some (.int v) ∧ 0 ≤ v.toInt ∧ v.toInt ≤ 5 ∧ (v.toInt = 0 → (I' (ad g 4) 1).toInt ≤ 1000)) := by
  refine SP_of ⟨by decide, rfl⟩ (Nat.le_of_ble_eq_true rfl) ?_
  have e5862 : I (ad g 1) 1 = L := hI.2
  have b5863 := BT_get hI.1 1 1 2 (0) (0) (900) (by decide) 1 (by decide) (by decide)
  rw [e5862] at b5863
  have fr0 : fz 74 g [4] I I := fz_rf
  have frj0 : fz 74 g [] J J := fz_rf
  obtain ⟨w5864, ew5864⟩ : ∃ w : Int32, I (ad g 4) 0 = w := ⟨_, rfl⟩
  have bw5864 := BT_get hI.1 4 0 5 (0) (0) (1000) (by decide) 0 (by decide) (by decide)
  rw [ew5864] at bw5864
  obtain ⟨w5865, ew5865⟩ : ∃ w : Int32, I (ad g 6) 1 = w := ⟨_, rfl⟩
  have bw5865 := BT_get hI.1 6 1 2 (0) (0) (4) (by decide) 1 (by decide) (by decide)
  rw [ew5865] at bw5865
  obtain ⟨w5866, ew5866⟩ : ∃ w : Int32, I (ad g 6) 2 = w := ⟨_, rfl⟩
  have bw5866 := BT_get hI.1 6 2 3 (0) (0) (3) (by decide) 2 (by decide) (by decide)
  rw [ew5866] at bw5866
  refine WP_aload_n dX3_faultOfNumber_0 rfl ?_
  refine WP_getr dX3_faultOfNumber_1 fX3_15 rfl (lyx_is hy 3 3 rfl) (rfx hr 3 2 1 (by decide)) ?_
  refine WQ_getiu dX3_faultOfNumber_4 fX3_118 rfl (lyx_is hy 1 5 rfl) (fun v5867 ev5867 => ?_)
  refine WP_istore (ls' := [(0, _), (1, _), (2, _), (3, _), (4, _), (5, _)]) dX3_faultOfNumber_7 (by decide) rfl ?_
  refine WP_iload dX3_faultOfNumber_9 rfl ?_
  refine WP_iload_n dX3_faultOfNumber_11 rfl ?_
  refine WP_callS1 dX3_faultOfNumber_12 ⟨⟨⟨by decide, by decide⟩, zX3_leastOf⟩, lX3_121, tX3_leastOf⟩ (sx_leastOf hy hr hI pa ) (Nat.le_of_ble_eq_true rfl) ?_
  intro r Ia Ja Ra hq
  obtain ⟨⟨ea, eb, ec⟩, v5868, rfl, av5868, bv5868⟩ := hq
  show WP _ _ _ _ (.int _ :: _) _ _ _ _
  rw [ea, eb, ec]
  clear ea eb ec Ia Ja Ra
  refine WQ_icmp_lt 27 dX3_faultOfNumber_15 rfl (fun c5868 => ?_) (fun c5868 => ?_)
  · refine WQ_iconst (2) (2) dX3_faultOfNumber_27 rfl rfl (fun v5870 hv5870 => ?_)
    obtain ⟨w5871, ew5871⟩ : ∃ w : Int32, I (ad g 4) 1 = w := ⟨_, rfl⟩
    have bw5871 := BT_get hI.1 4 0 5 (0) (0) (1000) (by decide) 1 (by decide) (by decide)
    rw [ew5871] at bw5871
    exact WP_iret dX3_faultOfNumber_28 rfl ⟨⟨hI, rfl, fr0, frj0, ⟨trivial, rfl, rfl, rfl⟩⟩, _, rfl, by omega, by omega, by (try rw [ew5871]); omega⟩
  · refine WP_iload dX3_faultOfNumber_18 rfl ?_
    refine WP_iload_n dX3_faultOfNumber_20 rfl ?_
    refine WP_callS1 dX3_faultOfNumber_21 ⟨⟨⟨by decide, by decide⟩, zX3_mostOf⟩, lX3_125, tX3_mostOf⟩ (sx_mostOf hy hr hI pa ) (Nat.le_of_ble_eq_true rfl) ?_
    intro r Ia Ja Ra hq
    obtain ⟨⟨ea, eb, ec⟩, v5872, rfl, av5872, bv5872, cv5872⟩ := hq
    show WP _ _ _ _ (.int _ :: _) _ _ _ _
    rw [ea, eb, ec]
    clear ea eb ec Ia Ja Ra
    refine WQ_icmp_le 29 dX3_faultOfNumber_24 rfl (fun c5872 => ?_) (fun c5872 => ?_)
    · refine WP_aload_n dX3_faultOfNumber_29 rfl ?_
      refine WP_getr dX3_faultOfNumber_30 fX3_9 rfl (lyx_is hy 3 3 rfl) (rfx hr 3 3 4 (by decide)) ?_
      refine WP_iload_n dX3_faultOfNumber_33 rfl ?_
      refine WP_iload dX3_faultOfNumber_34 rfl ?_
      refine WQ_iast dX3_faultOfNumber_36 (lyx_is hy 4 13 rfl) (lyx_n hy 4 5 rfl) (by omega) (by omega) (fun I5874 fI5874 => ?_)
      have eI5874 := fI5874
      rw [cl (x := ix) (n := 1) (by omega)] at eI5874
      clear fI5874
      have hI5874 : XI g n L I5874 := by rw [eI5874]; exact (xi_f hy hI (c := 4) (0) (0) (1000) (by decide) (Or.inl (by decide)) (by decide) (by omega) (by omega))
      have e5875 : I5874 (ad g 1) 1 = L := by rw [eI5874, pp_ne _ _ (Or.inl (lyx_ne hy (by decide) (by decide) (by decide)))]; exact e5862
      have e5876 : I5874 (ad g 4) 0 = w5864 := by rw [eI5874, pp_ne _ _ (Or.inr (by decide))]; exact ew5864
      have e5877 : I5874 (ad g 6) 1 = w5865 := by rw [eI5874, pp_ne _ _ (Or.inl (lyx_ne hy (by decide) (by decide) (by decide)))]; exact ew5865
      have e5878 : I5874 (ad g 6) 2 = w5866 := by rw [eI5874, pp_ne _ _ (Or.inl (lyx_ne hy (by decide) (by decide) (by decide)))]; exact ew5866
      have e5879 : I5874 (ad g 1) 4 = v5867 := by rw [eI5874, pp_ne _ _ (Or.inl (lyx_ne hy (by decide) (by decide) (by decide)))]; exact ev5867
      have e5880 : I5874 (ad g 4) 1 = v5867 := by rw [eI5874, pp_self]
      have fr5881 : fz 74 g [4] I I5874 := by rw [eI5874]; exact fzx_pp hy fr0 (by decide) (by decide)
      clear eI5874
      refine WP_iload_n dX3_faultOfNumber_37 rfl ?_
      refine WQ_bipush (68) (68) dX3_faultOfNumber_38 rfl rfl (fun v5882 hv5882 => ?_)
      refine WQ_icmp_eq 45 dX3_faultOfNumber_40 rfl (fun c5882 => False.elim (by omega)) (fun c5882 => ?_)
      refine WQ_iconst (0) (0) dX3_faultOfNumber_43 rfl rfl (fun v5884 hv5884 => ?_)
      exact WP_iret dX3_faultOfNumber_44 rfl ⟨⟨hI5874, rfl, fr5881, frj0, ⟨trivial, (by rw [e5876, ew5864] <;> exact (eq32 _ _).mpr (by omega)), (by rw [e5877, ew5865] <;> exact (eq32 _ _).mpr (by omega)), (by rw [e5878, ew5866] <;> exact (eq32 _ _).mpr (by omega))⟩⟩, _, rfl, by omega, by omega, by (try rw [e5880]); omega⟩
    · refine WQ_iconst (2) (2) dX3_faultOfNumber_27 rfl rfl (fun v5885 hv5885 => ?_)
      obtain ⟨w5886, ew5886⟩ : ∃ w : Int32, I (ad g 4) 1 = w := ⟨_, rfl⟩
      have bw5886 := BT_get hI.1 4 0 5 (0) (0) (1000) (by decide) 1 (by decide) (by decide)
      rw [ew5886] at bw5886
      exact WP_iret dX3_faultOfNumber_28 rfl ⟨⟨hI, rfl, fr0, frj0, ⟨trivial, rfl, rfl, rfl⟩⟩, _, rfl, by omega, by omega, by (try rw [ew5886]); omega⟩
set_option maxHeartbeats 4000000 in
set_option maxRecDepth 100000 in
theorem sx_part_6_2_2 {g : GG} {n : Int} {L : Int32} (hy : LyX g)  {I : pI} {J : pJ} {R : pR} (hr : RfX g R) (hI : XI g n L I) (pa : Int32) (cz : Int32) (ix : Int32) (pa_lo : 71 ≤ pa.toInt) (pa_hi : pa.toInt ≤ 71) (cz_lo : 2 ≤ cz.toInt) (cz_hi : cz.toInt ≤ 2) (ix_lo : 2 ≤ ix.toInt) (ix_hi : ix.toInt ≤ 2) : SP g mX3_faultOfNumber [.ref (ad g 3), .int pa, .int cz, .int ix, .ref (ad g 6)] I J R (fun r I' J' R' => (XI g n L I' ∧ R' = R ∧ fz 74 g [4] I I' ∧ fz 74 g [] J J' ∧ True ∧ I' (ad g 4) 0 = I (ad g 4) 0 ∧ I' (ad g 4) 1 = I (ad g 4) 1 ∧ I' (ad g 6) 1 = I (ad g 6) 1 ∧ I' (ad g 6) 2 = I (ad g 6) 2) ∧ ∃ v : Int32, r = some (.int v) ∧ 0 ≤ v.toInt ∧ v.toInt ≤ 5 ∧ (v.toInt = 0 → (I' (ad g 4) 2).toInt ≤ 9)) := by
  refine SP_of ⟨by decide, rfl⟩ (Nat.le_of_ble_eq_true rfl) ?_
  have e5887 : I (ad g 1) 1 = L := hI.2
  have b5888 := BT_get hI.1 1 1 2 (0) (0) (900) (by decide) 1 (by decide) (by decide)
  rw [e5887] at b5888
  have fr0 : fz 74 g [4] I I := fz_rf
  have frj0 : fz 74 g [] J J := fz_rf
  obtain ⟨w5889, ew5889⟩ : ∃ w : Int32, I (ad g 4) 0 = w := ⟨_, rfl⟩
  have bw5889 := BT_get hI.1 4 0 5 (0) (0) (1000) (by decide) 0 (by decide) (by decide)
  rw [ew5889] at bw5889
  obtain ⟨w5890, ew5890⟩ : ∃ w : Int32, I (ad g 4) 1 = w := ⟨_, rfl⟩
  have bw5890 := BT_get hI.1 4 0 5 (0) (0) (1000) (by decide) 1 (by decide) (by decide)
  rw [ew5890] at bw5890
  obtain ⟨w5891, ew5891⟩ : ∃ w : Int32, I (ad g 6) 1 = w := ⟨_, rfl⟩
  have bw5891 := BT_get hI.1 6 1 2 (0) (0) (4) (by decide) 1 (by decide) (by decide)
  rw [ew5891] at bw5891
  obtain ⟨w5892, ew5892⟩ : ∃ w : Int32, I (ad g 6) 2 = w := ⟨_, rfl⟩
  have bw5892 := BT_get hI.1 6 2 3 (0) (0) (3) (by decide) 2 (by decide) (by decide)
  rw [ew5892] at bw5892
  refine WP_aload_n dX3_faultOfNumber_0 rfl ?_
  refine WP_getr dX3_faultOfNumber_1 fX3_15 rfl (lyx_is hy 3 3 rfl) (rfx hr 3 2 1 (by decide)) ?_
  refine WQ_getiu dX3_faultOfNumber_4 fX3_118 rfl (lyx_is hy 1 5 rfl) (fun v5893 ev5893 => ?_)
  refine WP_istore (ls' := [(0, _), (1, _), (2, _), (3, _), (4, _), (5, _)]) dX3_faultOfNumber_7 (by decide) rfl ?_
  refine WP_iload dX3_faultOfNumber_9 rfl ?_
  refine WP_iload_n dX3_faultOfNumber_11 rfl ?_
  refine WP_callS1 dX3_faultOfNumber_12 ⟨⟨⟨by decide, by decide⟩, zX3_leastOf⟩, lX3_121, tX3_leastOf⟩ (sx_leastOf hy hr hI pa ) (Nat.le_of_ble_eq_true rfl) ?_
  intro r Ia Ja Ra hq
  obtain ⟨⟨ea, eb, ec⟩, v5894, rfl, av5894, bv5894⟩ := hq
  show WP _ _ _ _ (.int _ :: _) _ _ _ _
  rw [ea, eb, ec]
  clear ea eb ec Ia Ja Ra
  refine WQ_icmp_lt 27 dX3_faultOfNumber_15 rfl (fun c5894 => ?_) (fun c5894 => ?_)
  · refine WQ_iconst (2) (2) dX3_faultOfNumber_27 rfl rfl (fun v5896 hv5896 => ?_)
    obtain ⟨w5897, ew5897⟩ : ∃ w : Int32, I (ad g 4) 2 = w := ⟨_, rfl⟩
    have bw5897 := BT_get hI.1 4 0 5 (0) (0) (1000) (by decide) 2 (by decide) (by decide)
    rw [ew5897] at bw5897
    exact WP_iret dX3_faultOfNumber_28 rfl ⟨⟨hI, rfl, fr0, frj0, ⟨trivial, rfl, rfl, rfl, rfl⟩⟩, _, rfl, by omega, by omega, by (try rw [ew5897]); omega⟩
  · refine WP_iload dX3_faultOfNumber_18 rfl ?_
    refine WP_iload_n dX3_faultOfNumber_20 rfl ?_
    refine WP_callS1 dX3_faultOfNumber_21 ⟨⟨⟨by decide, by decide⟩, zX3_mostOf⟩, lX3_125, tX3_mostOf⟩ (sx_mostOf hy hr hI pa ) (Nat.le_of_ble_eq_true rfl) ?_
    intro r Ia Ja Ra hq
    obtain ⟨⟨ea, eb, ec⟩, v5898, rfl, av5898, bv5898, cv5898⟩ := hq
    show WP _ _ _ _ (.int _ :: _) _ _ _ _
    rw [ea, eb, ec]
    clear ea eb ec Ia Ja Ra
    refine WQ_icmp_le 29 dX3_faultOfNumber_24 rfl (fun c5898 => ?_) (fun c5898 => ?_)
    · refine WP_aload_n dX3_faultOfNumber_29 rfl ?_
      refine WP_getr dX3_faultOfNumber_30 fX3_9 rfl (lyx_is hy 3 3 rfl) (rfx hr 3 3 4 (by decide)) ?_
      refine WP_iload_n dX3_faultOfNumber_33 rfl ?_
      refine WP_iload dX3_faultOfNumber_34 rfl ?_
      refine WQ_iast dX3_faultOfNumber_36 (lyx_is hy 4 13 rfl) (lyx_n hy 4 5 rfl) (by omega) (by omega) (fun I5900 fI5900 => ?_)
      have eI5900 := fI5900
      rw [cl (x := ix) (n := 2) (by omega)] at eI5900
      clear fI5900
      have hI5900 : XI g n L I5900 := by rw [eI5900]; exact (xi_f hy hI (c := 4) (0) (0) (1000) (by decide) (Or.inl (by decide)) (by decide) (by omega) (by omega))
      have e5901 : I5900 (ad g 1) 1 = L := by rw [eI5900, pp_ne _ _ (Or.inl (lyx_ne hy (by decide) (by decide) (by decide)))]; exact e5887
      have e5902 : I5900 (ad g 4) 0 = w5889 := by rw [eI5900, pp_ne _ _ (Or.inr (by decide))]; exact ew5889
      have e5903 : I5900 (ad g 4) 1 = w5890 := by rw [eI5900, pp_ne _ _ (Or.inr (by decide))]; exact ew5890
      have e5904 : I5900 (ad g 6) 1 = w5891 := by rw [eI5900, pp_ne _ _ (Or.inl (lyx_ne hy (by decide) (by decide) (by decide)))]; exact ew5891
      have e5905 : I5900 (ad g 6) 2 = w5892 := by rw [eI5900, pp_ne _ _ (Or.inl (lyx_ne hy (by decide) (by decide) (by decide)))]; exact ew5892
      have e5906 : I5900 (ad g 1) 4 = v5893 := by rw [eI5900, pp_ne _ _ (Or.inl (lyx_ne hy (by decide) (by decide) (by decide)))]; exact ev5893
      have e5907 : I5900 (ad g 4) 2 = v5893 := by rw [eI5900, pp_self]
      have fr5908 : fz 74 g [4] I I5900 := by rw [eI5900]; exact fzx_pp hy fr0 (by decide) (by decide)
      clear eI5900
      refine WP_iload_n dX3_faultOfNumber_37 rfl ?_
      refine WQ_bipush (68) (68) dX3_faultOfNumber_38 rfl rfl (fun v5909 hv5909 => ?_)
      refine WQ_icmp_eq 45 dX3_faultOfNumber_40 rfl (fun c5909 => False.elim (by omega)) (fun c5909 => ?_)
      refine WQ_iconst (0) (0) dX3_faultOfNumber_43 rfl rfl (fun v5911 hv5911 => ?_)
      exact WP_iret dX3_faultOfNumber_44 rfl ⟨⟨hI5900, rfl, fr5908, frj0, ⟨trivial, (by rw [e5902, ew5889] <;> exact (eq32 _ _).mpr (by omega)), (by rw [e5903, ew5890] <;> exact (eq32 _ _).mpr (by omega)), (by rw [e5904, ew5891] <;> exact (eq32 _ _).mpr (by omega)), (by rw [e5905, ew5892] <;> exact (eq32 _ _).mpr (by omega))⟩⟩, _, rfl, by omega, by omega, by (try rw [e5907]); omega⟩
    · refine WQ_iconst (2) (2) dX3_faultOfNumber_27 rfl rfl (fun v5912 hv5912 => ?_)
      obtain ⟨w5913, ew5913⟩ : ∃ w : Int32, I (ad g 4) 2 = w := ⟨_, rfl⟩
      have bw5913 := BT_get hI.1 4 0 5 (0) (0) (1000) (by decide) 2 (by decide) (by decide)
      rw [ew5913] at bw5913
      exact WP_iret dX3_faultOfNumber_28 rfl ⟨⟨hI, rfl, fr0, frj0, ⟨trivial, rfl, rfl, rfl, rfl⟩⟩, _, rfl, by omega, by omega, by (try rw [ew5913]); omega⟩
set_option maxHeartbeats 4000000 in
set_option maxRecDepth 100000 in
theorem sx_part_6_3_0 {g : GG} {n : Int} {L : Int32} (hy : LyX g)  {I : pI} {J : pJ} {R : pR} (hr : RfX g R) (hI : XI g n L I) (pa : Int32) (cz : Int32) (ix : Int32) (pa_lo : 115 ≤ pa.toInt) (pa_hi : pa.toInt ≤ 115) (cz_lo : 3 ≤ cz.toInt) (cz_hi : cz.toInt ≤ 3) (ix_lo : 0 ≤ ix.toInt) (ix_hi : ix.toInt ≤ 0) : SP g mX3_faultOfName [.ref (ad g 3), .int pa, .int cz, .int ix, .ref (ad g 6)] I J R (fun r I' J' R' => (XI g n L I' ∧ R' = R ∧ fz 74 g [4] I I' ∧ fz 74 g [] J J' ∧ True ∧ I' (ad g 6) 1 = I (ad g 6) 1 ∧ I' (ad g 6) 2 = I (ad g 6) 2) ∧ ∃ v : Int32, r = some (.int v) ∧ 0 ≤ v.toInt ∧ v.toInt ≤ 5 ∧ (v.toInt = 0 → (I' (ad g 4) 0).toInt ≤ 3)) := by
  refine SP_of ⟨by decide, rfl⟩ (Nat.le_of_ble_eq_true rfl) ?_
  have e5914 : I (ad g 1) 1 = L := hI.2
  have b5915 := BT_get hI.1 1 1 2 (0) (0) (900) (by decide) 1 (by decide) (by decide)
  rw [e5914] at b5915
  have fr0 : fz 74 g [4] I I := fz_rf
  have frj0 : fz 74 g [] J J := fz_rf
  obtain ⟨w5916, ew5916⟩ : ∃ w : Int32, I (ad g 6) 1 = w := ⟨_, rfl⟩
  have bw5916 := BT_get hI.1 6 1 2 (0) (0) (4) (by decide) 1 (by decide) (by decide)
  rw [ew5916] at bw5916
  obtain ⟨w5917, ew5917⟩ : ∃ w : Int32, I (ad g 6) 2 = w := ⟨_, rfl⟩
  have bw5917 := BT_get hI.1 6 2 3 (0) (0) (3) (by decide) 2 (by decide) (by decide)
  rw [ew5917] at bw5917
  refine WP_iload_n dX3_faultOfName_0 rfl ?_
  refine WQ_bipush (115) (115) dX3_faultOfName_1 rfl rfl (fun v5918 hv5918 => ?_)
  refine WQ_icmp_eq 12 dX3_faultOfName_3 rfl (fun c5918 => ?_) (fun c5918 => False.elim (by omega))
  refine WQ_iconst (1) (1) dX3_faultOfName_12 rfl rfl (fun v5920 hv5920 => ?_)
  refine WP_goto 17 dX3_faultOfName_13 rfl ?_
  refine WP_istore (ls' := [(0, _), (1, _), (2, _), (3, _), (4, _), (5, _)]) dX3_faultOfName_17 (by decide) rfl ?_
  refine WP_iload dX3_faultOfName_19 rfl ?_
  refine WQ_if_eq 39 dX3_faultOfName_21 rfl (fun c5920 => False.elim (by omega)) (fun c5920 => ?_)
  refine WP_aload dX3_faultOfName_24 rfl ?_
  refine WP_aload_n dX3_faultOfName_26 rfl ?_
  refine WP_getr dX3_faultOfName_27 fX3_15 rfl (lyx_is hy 3 3 rfl) (rfx hr 3 2 1 (by decide)) ?_
  refine WQ_getl dX3_faultOfName_30 fX3_80 rfl (lyx_is hy 1 5 rfl) (fun l5922 el5922 => ?_)
  refine WP_callV1 (k := 7) dX3_faultOfName_33 ⟨⟨⟨by decide, by decide⟩, zX7_sortNamed⟩, lX3_103, by decide, rfl, vX7_sortNamed.1, vX7_sortNamed.2⟩ (lyx_is hy 6 7 rfl) (sx_sortNamed_6 hy hr hI l5922 ) (Nat.le_of_ble_eq_true rfl) ?_
  intro r Ia Ja Ra hq
  obtain ⟨⟨ea, eb, ec⟩, v5923, rfl, av5923, bv5923⟩ := hq
  show WP _ _ _ _ (.int _ :: _) _ _ _ _
  rw [ea, eb, ec]
  clear ea eb ec Ia Ja Ra
  refine WP_goto 51 dX3_faultOfName_36 rfl ?_
  refine WP_istore (ls' := [(0, _), (1, _), (2, _), (3, _), (4, _), (5, _), (6, _)]) dX3_faultOfName_51 (by decide) rfl ?_
  refine WP_iload_n dX3_faultOfName_53 rfl ?_
  refine WQ_bipush (110) (110) dX3_faultOfName_54 rfl rfl (fun v5924 hv5924 => ?_)
  refine WQ_icmp_eq 65 dX3_faultOfName_56 rfl (fun c5924 => False.elim (by omega)) (fun c5924 => ?_)
  refine WP_iload_n dX3_faultOfName_59 rfl ?_
  refine WQ_bipush (109) (109) dX3_faultOfName_60 rfl rfl (fun v5926 hv5926 => ?_)
  refine WQ_icmp_ne 98 dX3_faultOfName_62 rfl (fun c5926 => ?_) (fun c5926 => False.elim (by omega))
  refine WP_iload dX3_faultOfName_98 rfl ?_
  refine WQ_iconst (-1) (-1) dX3_faultOfName_100 rfl rfl (fun v5928 hv5928 => ?_)
  refine WQ_icmp_ne 106 dX3_faultOfName_101 rfl (fun c5928 => ?_) (fun c5928 => ?_)
  · refine WP_aload_n dX3_faultOfName_106 rfl ?_
    refine WP_getr dX3_faultOfName_107 fX3_9 rfl (lyx_is hy 3 3 rfl) (rfx hr 3 3 4 (by decide)) ?_
    refine WP_iload_n dX3_faultOfName_110 rfl ?_
    refine WP_iload dX3_faultOfName_111 rfl ?_
    refine WQ_iast dX3_faultOfName_113 (lyx_is hy 4 13 rfl) (lyx_n hy 4 5 rfl) (by omega) (by omega) (fun I5930 fI5930 => ?_)
    have eI5930 := fI5930
    rw [cl (x := ix) (n := 0) (by omega)] at eI5930
    clear fI5930
    have hI5930 : XI g n L I5930 := by rw [eI5930]; exact (xi_f hy hI (c := 4) (0) (0) (1000) (by decide) (Or.inl (by decide)) (by decide) (by omega) (by omega))
    have e5931 : I5930 (ad g 1) 1 = L := by rw [eI5930, pp_ne _ _ (Or.inl (lyx_ne hy (by decide) (by decide) (by decide)))]; exact e5914
    have e5932 : I5930 (ad g 6) 1 = w5916 := by rw [eI5930, pp_ne _ _ (Or.inl (lyx_ne hy (by decide) (by decide) (by decide)))]; exact ew5916
    have e5933 : I5930 (ad g 6) 2 = w5917 := by rw [eI5930, pp_ne _ _ (Or.inl (lyx_ne hy (by decide) (by decide) (by decide)))]; exact ew5917
    have e5934 : I5930 (ad g 4) 0 = v5923 := by rw [eI5930, pp_self]
    have fr5935 : fz 74 g [4] I I5930 := by rw [eI5930]; exact fzx_pp hy fr0 (by decide) (by decide)
    clear eI5930
    refine WP_iload_n dX3_faultOfName_114 rfl ?_
    refine WQ_bipush (7) (7) dX3_faultOfName_115 rfl rfl (fun v5936 hv5936 => ?_)
    refine WQ_icmp_ne 137 dX3_faultOfName_117 rfl (fun c5936 => ?_) (fun c5936 => False.elim (by omega))
    refine WQ_iconst (0) (0) dX3_faultOfName_137 rfl rfl (fun v5938 hv5938 => ?_)
    exact WP_iret dX3_faultOfName_138 rfl ⟨⟨hI5930, rfl, fr5935, frj0, ⟨trivial, (by rw [e5932, ew5916] <;> exact (eq32 _ _).mpr (by omega)), (by rw [e5933, ew5917] <;> exact (eq32 _ _).mpr (by omega))⟩⟩, _, rfl, by omega, by omega, by (try rw [e5934]); omega⟩
  · refine WQ_iconst (5) (5) dX3_faultOfName_104 rfl rfl (fun v5939 hv5939 => ?_)
    obtain ⟨w5940, ew5940⟩ : ∃ w : Int32, I (ad g 4) 0 = w := ⟨_, rfl⟩
    have bw5940 := BT_get hI.1 4 0 5 (0) (0) (1000) (by decide) 0 (by decide) (by decide)
    rw [ew5940] at bw5940
    exact WP_iret dX3_faultOfName_105 rfl ⟨⟨hI, rfl, fr0, frj0, ⟨trivial, rfl, rfl⟩⟩, _, rfl, by omega, by omega, by (try rw [ew5940]); omega⟩
set_option maxHeartbeats 4000000 in
set_option maxRecDepth 100000 in
theorem sx_part_6_3_1 {g : GG} {n : Int} {L : Int32} (hy : LyX g)  {I : pI} {J : pJ} {R : pR} (hr : RfX g R) (hI : XI g n L I) (pa : Int32) (cz : Int32) (ix : Int32) (pa_lo : 68 ≤ pa.toInt) (pa_hi : pa.toInt ≤ 68) (cz_lo : 3 ≤ cz.toInt) (cz_hi : cz.toInt ≤ 3) (ix_lo : 1 ≤ ix.toInt) (ix_hi : ix.toInt ≤ 1) (hb : (I (ad g 4) 0).toInt ≤ 3) : SP g mX3_faultOfNumber [.ref (ad g 3), .int pa, .int cz, .int ix, .ref (ad g 6)] I J R (fun r I' J' R' => (XI g n L I' ∧ R' = R ∧ fz 74 g [4] I I' ∧ fz 74 g [] J J' ∧ True ∧ I' (ad g 4) 0 = I (ad g 4) 0 ∧ I' (ad g 6) 1 = I (ad g 6) 1 ∧ I' (ad g 6) 2 = I (ad g 6) 2) ∧ ∃ v : Int32, r = some (.int v) ∧ 0 ≤ v.toInt ∧ v.toInt ≤ 5 ∧ (v.toInt = 0 → (I' (ad g 4) 1).toInt ≤ 6)) := by
  refine SP_of ⟨by decide, rfl⟩ (Nat.le_of_ble_eq_true rfl) ?_
  have e5941 : I (ad g 1) 1 = L := hI.2
  have b5942 := BT_get hI.1 1 1 2 (0) (0) (900) (by decide) 1 (by decide) (by decide)
  rw [e5941] at b5942
  have fr0 : fz 74 g [4] I I := fz_rf
  have frj0 : fz 74 g [] J J := fz_rf
  obtain ⟨w5943, ew5943⟩ : ∃ w : Int32, I (ad g 4) 0 = w := ⟨_, rfl⟩
  have bw5943 := BT_get hI.1 4 0 5 (0) (0) (1000) (by decide) 0 (by decide) (by decide)
  rw [ew5943] at bw5943
  obtain ⟨w5944, ew5944⟩ : ∃ w : Int32, I (ad g 6) 1 = w := ⟨_, rfl⟩
  have bw5944 := BT_get hI.1 6 1 2 (0) (0) (4) (by decide) 1 (by decide) (by decide)
  rw [ew5944] at bw5944
  obtain ⟨w5945, ew5945⟩ : ∃ w : Int32, I (ad g 6) 2 = w := ⟨_, rfl⟩
  have bw5945 := BT_get hI.1 6 2 3 (0) (0) (3) (by decide) 2 (by decide) (by decide)
  rw [ew5945] at bw5945
  rw [ew5943] at hb
  refine WP_aload_n dX3_faultOfNumber_0 rfl ?_
  refine WP_getr dX3_faultOfNumber_1 fX3_15 rfl (lyx_is hy 3 3 rfl) (rfx hr 3 2 1 (by decide)) ?_
  refine WQ_getiu dX3_faultOfNumber_4 fX3_118 rfl (lyx_is hy 1 5 rfl) (fun v5946 ev5946 => ?_)
  refine WP_istore (ls' := [(0, _), (1, _), (2, _), (3, _), (4, _), (5, _)]) dX3_faultOfNumber_7 (by decide) rfl ?_
  refine WP_iload dX3_faultOfNumber_9 rfl ?_
  refine WP_iload_n dX3_faultOfNumber_11 rfl ?_
  refine WP_callS1 dX3_faultOfNumber_12 ⟨⟨⟨by decide, by decide⟩, zX3_leastOf⟩, lX3_121, tX3_leastOf⟩ (sx_leastOf hy hr hI pa ) (Nat.le_of_ble_eq_true rfl) ?_
  intro r Ia Ja Ra hq
  obtain ⟨⟨ea, eb, ec⟩, v5947, rfl, av5947, bv5947⟩ := hq
  show WP _ _ _ _ (.int _ :: _) _ _ _ _
  rw [ea, eb, ec]
  clear ea eb ec Ia Ja Ra
  refine WQ_icmp_lt 27 dX3_faultOfNumber_15 rfl (fun c5947 => ?_) (fun c5947 => ?_)
  · refine WQ_iconst (2) (2) dX3_faultOfNumber_27 rfl rfl (fun v5949 hv5949 => ?_)
    obtain ⟨w5950, ew5950⟩ : ∃ w : Int32, I (ad g 4) 1 = w := ⟨_, rfl⟩
    have bw5950 := BT_get hI.1 4 0 5 (0) (0) (1000) (by decide) 1 (by decide) (by decide)
    rw [ew5950] at bw5950
    exact WP_iret dX3_faultOfNumber_28 rfl ⟨⟨hI, rfl, fr0, frj0, ⟨trivial, rfl, rfl, rfl⟩⟩, _, rfl, by omega, by omega, by (try rw [ew5950]); omega⟩
  · refine WP_iload dX3_faultOfNumber_18 rfl ?_
    refine WP_iload_n dX3_faultOfNumber_20 rfl ?_
    refine WP_callS1 dX3_faultOfNumber_21 ⟨⟨⟨by decide, by decide⟩, zX3_mostOf⟩, lX3_125, tX3_mostOf⟩ (sx_mostOf hy hr hI pa ) (Nat.le_of_ble_eq_true rfl) ?_
    intro r Ia Ja Ra hq
    obtain ⟨⟨ea, eb, ec⟩, v5951, rfl, av5951, bv5951, cv5951⟩ := hq
    show WP _ _ _ _ (.int _ :: _) _ _ _ _
    rw [ea, eb, ec]
    clear ea eb ec Ia Ja Ra
    refine WQ_icmp_le 29 dX3_faultOfNumber_24 rfl (fun c5951 => ?_) (fun c5951 => ?_)
    · refine WP_aload_n dX3_faultOfNumber_29 rfl ?_
      refine WP_getr dX3_faultOfNumber_30 fX3_9 rfl (lyx_is hy 3 3 rfl) (rfx hr 3 3 4 (by decide)) ?_
      refine WP_iload_n dX3_faultOfNumber_33 rfl ?_
      refine WP_iload dX3_faultOfNumber_34 rfl ?_
      refine WQ_iast dX3_faultOfNumber_36 (lyx_is hy 4 13 rfl) (lyx_n hy 4 5 rfl) (by omega) (by omega) (fun I5953 fI5953 => ?_)
      have eI5953 := fI5953
      rw [cl (x := ix) (n := 1) (by omega)] at eI5953
      clear fI5953
      have hI5953 : XI g n L I5953 := by rw [eI5953]; exact (xi_f hy hI (c := 4) (0) (0) (1000) (by decide) (Or.inl (by decide)) (by decide) (by omega) (by omega))
      have e5954 : I5953 (ad g 1) 1 = L := by rw [eI5953, pp_ne _ _ (Or.inl (lyx_ne hy (by decide) (by decide) (by decide)))]; exact e5941
      have e5955 : I5953 (ad g 4) 0 = w5943 := by rw [eI5953, pp_ne _ _ (Or.inr (by decide))]; exact ew5943
      have e5956 : I5953 (ad g 6) 1 = w5944 := by rw [eI5953, pp_ne _ _ (Or.inl (lyx_ne hy (by decide) (by decide) (by decide)))]; exact ew5944
      have e5957 : I5953 (ad g 6) 2 = w5945 := by rw [eI5953, pp_ne _ _ (Or.inl (lyx_ne hy (by decide) (by decide) (by decide)))]; exact ew5945
      have e5958 : I5953 (ad g 1) 4 = v5946 := by rw [eI5953, pp_ne _ _ (Or.inl (lyx_ne hy (by decide) (by decide) (by decide)))]; exact ev5946
      have e5959 : I5953 (ad g 4) 1 = v5946 := by rw [eI5953, pp_self]
      have fr5960 : fz 74 g [4] I I5953 := by rw [eI5953]; exact fzx_pp hy fr0 (by decide) (by decide)
      clear eI5953
      refine WP_iload_n dX3_faultOfNumber_37 rfl ?_
      refine WQ_bipush (68) (68) dX3_faultOfNumber_38 rfl rfl (fun v5961 hv5961 => ?_)
      refine WQ_icmp_eq 45 dX3_faultOfNumber_40 rfl (fun c5961 => ?_) (fun c5961 => False.elim (by omega))
      refine WP_aload dX3_faultOfNumber_45 rfl ?_
      refine WP_iload_n dX3_faultOfNumber_47 rfl ?_
      refine WP_iload_n dX3_faultOfNumber_48 rfl ?_
      refine WQ_if_ne 56 dX3_faultOfNumber_49 rfl (fun c5962 => ?_) (fun c5962 => False.elim (by omega))
      refine WP_aload_n dX3_faultOfNumber_56 rfl ?_
      refine WP_getr dX3_faultOfNumber_57 fX3_9 rfl (lyx_is hy 3 3 rfl) (rfx hr 3 3 4 (by decide)) ?_
      refine WQ_iconst (0) (0) dX3_faultOfNumber_60 rfl rfl (fun v5964 hv5964 => ?_)
      refine WQ_ialdm (z := 0) dX3_faultOfNumber_61 (lyx_is hy 4 13 rfl) (lyx_n hy 4 5 rfl) hv5964 (by decide) e5955 ?_
      refine WP_iload dX3_faultOfNumber_62 rfl ?_
      refine WP_callV3 (k := 7) dX3_faultOfNumber_64 ⟨⟨⟨by decide, by decide⟩, zX7_isTold⟩, lX3_114, by decide, rfl, vX7_isTold.1, vX7_isTold.2⟩ (lyx_is hy 6 7 rfl) (sx_isTold_6 hy hr hI5953 cz w5943 v5946 (by omega) (by omega) (by omega) (by omega) ) (Nat.le_of_ble_eq_true rfl) ?_
      intro r Ia Ja Ra hq
      obtain ⟨⟨ea, eb, ec⟩, v5966, rfl, av5966, bv5966⟩ := hq
      show WP _ _ _ _ (.int _ :: _) _ _ _ _
      rw [ea, eb, ec]
      clear ea eb ec Ia Ja Ra
      refine WQ_if_eq 74 dX3_faultOfNumber_67 rfl (fun c5966 => ?_) (fun c5966 => ?_)
      · refine WQ_iconst (0) (0) dX3_faultOfNumber_74 rfl rfl (fun v5968 hv5968 => ?_)
        exact WP_iret dX3_faultOfNumber_75 rfl ⟨⟨hI5953, rfl, fr5960, frj0, ⟨trivial, (by rw [e5955, ew5943] <;> exact (eq32 _ _).mpr (by omega)), (by rw [e5956, ew5944] <;> exact (eq32 _ _).mpr (by omega)), (by rw [e5957, ew5945] <;> exact (eq32 _ _).mpr (by omega))⟩⟩, _, rfl, by omega, by omega, by (try rw [e5959]); omega⟩
      · refine WQ_iconst (3) (3) dX3_faultOfNumber_70 rfl rfl (fun v5969 hv5969 => ?_)
        refine WP_goto 75 dX3_faultOfNumber_71 rfl ?_
        exact WP_iret dX3_faultOfNumber_75 rfl ⟨⟨hI5953, rfl, fr5960, frj0, ⟨trivial, (by rw [e5955, ew5943] <;> exact (eq32 _ _).mpr (by omega)), (by rw [e5956, ew5944] <;> exact (eq32 _ _).mpr (by omega)), (by rw [e5957, ew5945] <;> exact (eq32 _ _).mpr (by omega))⟩⟩, _, rfl, by omega, by omega, by (try rw [e5959]); omega⟩
    · refine WQ_iconst (2) (2) dX3_faultOfNumber_27 rfl rfl (fun v5970 hv5970 => ?_)
      obtain ⟨w5971, ew5971⟩ : ∃ w : Int32, I (ad g 4) 1 = w := ⟨_, rfl⟩
      have bw5971 := BT_get hI.1 4 0 5 (0) (0) (1000) (by decide) 1 (by decide) (by decide)
      rw [ew5971] at bw5971
      exact WP_iret dX3_faultOfNumber_28 rfl ⟨⟨hI, rfl, fr0, frj0, ⟨trivial, rfl, rfl, rfl⟩⟩, _, rfl, by omega, by omega, by (try rw [ew5971]); omega⟩
set_option maxHeartbeats 4000000 in
set_option maxRecDepth 100000 in
theorem sx_part_6_3_2 {g : GG} {n : Int} {L : Int32} (hy : LyX g)  {I : pI} {J : pJ} {R : pR} (hr : RfX g R) (hI : XI g n L I) (pa : Int32) (cz : Int32) (ix : Int32) (pa_lo : 69 ≤ pa.toInt) (pa_hi : pa.toInt ≤ 69) (cz_lo : 3 ≤ cz.toInt) (cz_hi : cz.toInt ≤ 3) (ix_lo : 2 ≤ ix.toInt) (ix_hi : ix.toInt ≤ 2) : SP g mX3_faultOfNumber [.ref (ad g 3), .int pa, .int cz, .int ix, .ref (ad g 6)] I J R (fun r I' J' R' => (XI g n L I' ∧ R' = R ∧ fz 74 g [4] I I' ∧ fz 74 g [] J J' ∧ True ∧ I' (ad g 4) 0 = I (ad g 4) 0 ∧ I' (ad g 4) 1 = I (ad g 4) 1 ∧ I' (ad g 6) 1 = I (ad g 6) 1 ∧ I' (ad g 6) 2 = I (ad g 6) 2) ∧ ∃ v : Int32, r = some (.int v) ∧ 0 ≤ v.toInt ∧ v.toInt ≤ 5 ∧ (v.toInt = 0 → (I' (ad g 4) 2).toInt ≤ 20)) := by
  refine SP_of ⟨by decide, rfl⟩ (Nat.le_of_ble_eq_true rfl) ?_
  have e5972 : I (ad g 1) 1 = L := hI.2
  have b5973 := BT_get hI.1 1 1 2 (0) (0) (900) (by decide) 1 (by decide) (by decide)
  rw [e5972] at b5973
  have fr0 : fz 74 g [4] I I := fz_rf
  have frj0 : fz 74 g [] J J := fz_rf
  obtain ⟨w5974, ew5974⟩ : ∃ w : Int32, I (ad g 4) 0 = w := ⟨_, rfl⟩
  have bw5974 := BT_get hI.1 4 0 5 (0) (0) (1000) (by decide) 0 (by decide) (by decide)
  rw [ew5974] at bw5974
  obtain ⟨w5975, ew5975⟩ : ∃ w : Int32, I (ad g 4) 1 = w := ⟨_, rfl⟩
  have bw5975 := BT_get hI.1 4 0 5 (0) (0) (1000) (by decide) 1 (by decide) (by decide)
  rw [ew5975] at bw5975
  obtain ⟨w5976, ew5976⟩ : ∃ w : Int32, I (ad g 6) 1 = w := ⟨_, rfl⟩
  have bw5976 := BT_get hI.1 6 1 2 (0) (0) (4) (by decide) 1 (by decide) (by decide)
  rw [ew5976] at bw5976
  obtain ⟨w5977, ew5977⟩ : ∃ w : Int32, I (ad g 6) 2 = w := ⟨_, rfl⟩
  have bw5977 := BT_get hI.1 6 2 3 (0) (0) (3) (by decide) 2 (by decide) (by decide)
  rw [ew5977] at bw5977
  refine WP_aload_n dX3_faultOfNumber_0 rfl ?_
  refine WP_getr dX3_faultOfNumber_1 fX3_15 rfl (lyx_is hy 3 3 rfl) (rfx hr 3 2 1 (by decide)) ?_
  refine WQ_getiu dX3_faultOfNumber_4 fX3_118 rfl (lyx_is hy 1 5 rfl) (fun v5978 ev5978 => ?_)
  refine WP_istore (ls' := [(0, _), (1, _), (2, _), (3, _), (4, _), (5, _)]) dX3_faultOfNumber_7 (by decide) rfl ?_
  refine WP_iload dX3_faultOfNumber_9 rfl ?_
  refine WP_iload_n dX3_faultOfNumber_11 rfl ?_
  refine WP_callS1 dX3_faultOfNumber_12 ⟨⟨⟨by decide, by decide⟩, zX3_leastOf⟩, lX3_121, tX3_leastOf⟩ (sx_leastOf hy hr hI pa ) (Nat.le_of_ble_eq_true rfl) ?_
  intro r Ia Ja Ra hq
  obtain ⟨⟨ea, eb, ec⟩, v5979, rfl, av5979, bv5979⟩ := hq
  show WP _ _ _ _ (.int _ :: _) _ _ _ _
  rw [ea, eb, ec]
  clear ea eb ec Ia Ja Ra
  refine WQ_icmp_lt 27 dX3_faultOfNumber_15 rfl (fun c5979 => ?_) (fun c5979 => ?_)
  · refine WQ_iconst (2) (2) dX3_faultOfNumber_27 rfl rfl (fun v5981 hv5981 => ?_)
    obtain ⟨w5982, ew5982⟩ : ∃ w : Int32, I (ad g 4) 2 = w := ⟨_, rfl⟩
    have bw5982 := BT_get hI.1 4 0 5 (0) (0) (1000) (by decide) 2 (by decide) (by decide)
    rw [ew5982] at bw5982
    exact WP_iret dX3_faultOfNumber_28 rfl ⟨⟨hI, rfl, fr0, frj0, ⟨trivial, rfl, rfl, rfl, rfl⟩⟩, _, rfl, by omega, by omega, by (try rw [ew5982]); omega⟩
  · refine WP_iload dX3_faultOfNumber_18 rfl ?_
    refine WP_iload_n dX3_faultOfNumber_20 rfl ?_
    refine WP_callS1 dX3_faultOfNumber_21 ⟨⟨⟨by decide, by decide⟩, zX3_mostOf⟩, lX3_125, tX3_mostOf⟩ (sx_mostOf hy hr hI pa ) (Nat.le_of_ble_eq_true rfl) ?_
    intro r Ia Ja Ra hq
    obtain ⟨⟨ea, eb, ec⟩, v5983, rfl, av5983, bv5983, cv5983⟩ := hq
    show WP _ _ _ _ (.int _ :: _) _ _ _ _
    rw [ea, eb, ec]
    clear ea eb ec Ia Ja Ra
    refine WQ_icmp_le 29 dX3_faultOfNumber_24 rfl (fun c5983 => ?_) (fun c5983 => ?_)
    · refine WP_aload_n dX3_faultOfNumber_29 rfl ?_
      refine WP_getr dX3_faultOfNumber_30 fX3_9 rfl (lyx_is hy 3 3 rfl) (rfx hr 3 3 4 (by decide)) ?_
      refine WP_iload_n dX3_faultOfNumber_33 rfl ?_
      refine WP_iload dX3_faultOfNumber_34 rfl ?_
      refine WQ_iast dX3_faultOfNumber_36 (lyx_is hy 4 13 rfl) (lyx_n hy 4 5 rfl) (by omega) (by omega) (fun I5985 fI5985 => ?_)
      have eI5985 := fI5985
      rw [cl (x := ix) (n := 2) (by omega)] at eI5985
      clear fI5985
      have hI5985 : XI g n L I5985 := by rw [eI5985]; exact (xi_f hy hI (c := 4) (0) (0) (1000) (by decide) (Or.inl (by decide)) (by decide) (by omega) (by omega))
      have e5986 : I5985 (ad g 1) 1 = L := by rw [eI5985, pp_ne _ _ (Or.inl (lyx_ne hy (by decide) (by decide) (by decide)))]; exact e5972
      have e5987 : I5985 (ad g 4) 0 = w5974 := by rw [eI5985, pp_ne _ _ (Or.inr (by decide))]; exact ew5974
      have e5988 : I5985 (ad g 4) 1 = w5975 := by rw [eI5985, pp_ne _ _ (Or.inr (by decide))]; exact ew5975
      have e5989 : I5985 (ad g 6) 1 = w5976 := by rw [eI5985, pp_ne _ _ (Or.inl (lyx_ne hy (by decide) (by decide) (by decide)))]; exact ew5976
      have e5990 : I5985 (ad g 6) 2 = w5977 := by rw [eI5985, pp_ne _ _ (Or.inl (lyx_ne hy (by decide) (by decide) (by decide)))]; exact ew5977
      have e5991 : I5985 (ad g 1) 4 = v5978 := by rw [eI5985, pp_ne _ _ (Or.inl (lyx_ne hy (by decide) (by decide) (by decide)))]; exact ev5978
      have e5992 : I5985 (ad g 4) 2 = v5978 := by rw [eI5985, pp_self]
      have fr5993 : fz 74 g [4] I I5985 := by rw [eI5985]; exact fzx_pp hy fr0 (by decide) (by decide)
      clear eI5985
      refine WP_iload_n dX3_faultOfNumber_37 rfl ?_
      refine WQ_bipush (68) (68) dX3_faultOfNumber_38 rfl rfl (fun v5994 hv5994 => ?_)
      refine WQ_icmp_eq 45 dX3_faultOfNumber_40 rfl (fun c5994 => False.elim (by omega)) (fun c5994 => ?_)
      refine WQ_iconst (0) (0) dX3_faultOfNumber_43 rfl rfl (fun v5996 hv5996 => ?_)
      exact WP_iret dX3_faultOfNumber_44 rfl ⟨⟨hI5985, rfl, fr5993, frj0, ⟨trivial, (by rw [e5987, ew5974] <;> exact (eq32 _ _).mpr (by omega)), (by rw [e5988, ew5975] <;> exact (eq32 _ _).mpr (by omega)), (by rw [e5989, ew5976] <;> exact (eq32 _ _).mpr (by omega)), (by rw [e5990, ew5977] <;> exact (eq32 _ _).mpr (by omega))⟩⟩, _, rfl, by omega, by omega, by (try rw [e5992]); omega⟩
    · refine WQ_iconst (2) (2) dX3_faultOfNumber_27 rfl rfl (fun v5997 hv5997 => ?_)
      obtain ⟨w5998, ew5998⟩ : ∃ w : Int32, I (ad g 4) 2 = w := ⟨_, rfl⟩
      have bw5998 := BT_get hI.1 4 0 5 (0) (0) (1000) (by decide) 2 (by decide) (by decide)
      rw [ew5998] at bw5998
      exact WP_iret dX3_faultOfNumber_28 rfl ⟨⟨hI, rfl, fr0, frj0, ⟨trivial, rfl, rfl, rfl, rfl⟩⟩, _, rfl, by omega, by omega, by (try rw [ew5998]); omega⟩
set_option maxHeartbeats 4000000 in
set_option maxRecDepth 100000 in
theorem sx_part_6_4_0 {g : GG} {n : Int} {L : Int32} (hy : LyX g)  {I : pI} {J : pJ} {R : pR} (hr : RfX g R) (hI : XI g n L I) (pa : Int32) (cz : Int32) (ix : Int32) (pa_lo : 116 ≤ pa.toInt) (pa_hi : pa.toInt ≤ 116) (cz_lo : 4 ≤ cz.toInt) (cz_hi : cz.toInt ≤ 4) (ix_lo : 0 ≤ ix.toInt) (ix_hi : ix.toInt ≤ 0) : SP g mX3_faultOfName [.ref (ad g 3), .int pa, .int cz, .int ix, .ref (ad g 6)] I J R (fun r I' J' R' => (XI g n L I' ∧ R' = R ∧ fz 74 g [4] I I' ∧ fz 74 g [] J J' ∧ True ∧ I' (ad g 6) 1 = I (ad g 6) 1 ∧ I' (ad g 6) 2 = I (ad g 6) 2) ∧ ∃ v : Int32, r = some (.int v) ∧ 0 ≤ v.toInt ∧ v.toInt ≤ 5 ∧ (v.toInt = 0 → (I' (ad g 4) 0).toInt ≤ 2)) := by
  refine SP_of ⟨by decide, rfl⟩ (Nat.le_of_ble_eq_true rfl) ?_
  have e5999 : I (ad g 1) 1 = L := hI.2
  have b6000 := BT_get hI.1 1 1 2 (0) (0) (900) (by decide) 1 (by decide) (by decide)
  rw [e5999] at b6000
  have fr0 : fz 74 g [4] I I := fz_rf
  have frj0 : fz 74 g [] J J := fz_rf
  obtain ⟨w6001, ew6001⟩ : ∃ w : Int32, I (ad g 6) 1 = w := ⟨_, rfl⟩
  have bw6001 := BT_get hI.1 6 1 2 (0) (0) (4) (by decide) 1 (by decide) (by decide)
  rw [ew6001] at bw6001
  obtain ⟨w6002, ew6002⟩ : ∃ w : Int32, I (ad g 6) 2 = w := ⟨_, rfl⟩
  have bw6002 := BT_get hI.1 6 2 3 (0) (0) (3) (by decide) 2 (by decide) (by decide)
  rw [ew6002] at bw6002
  refine WP_iload_n dX3_faultOfName_0 rfl ?_
  refine WQ_bipush (115) (115) dX3_faultOfName_1 rfl rfl (fun v6003 hv6003 => ?_)
  refine WQ_icmp_eq 12 dX3_faultOfName_3 rfl (fun c6003 => False.elim (by omega)) (fun c6003 => ?_)
  refine WP_iload_n dX3_faultOfName_6 rfl ?_
  refine WQ_bipush (110) (110) dX3_faultOfName_7 rfl rfl (fun v6005 hv6005 => ?_)
  refine WQ_icmp_ne 16 dX3_faultOfName_9 rfl (fun c6005 => ?_) (fun c6005 => False.elim (by omega))
  refine WQ_iconst (0) (0) dX3_faultOfName_16 rfl rfl (fun v6007 hv6007 => ?_)
  refine WP_istore (ls' := [(0, _), (1, _), (2, _), (3, _), (4, _), (5, _)]) dX3_faultOfName_17 (by decide) rfl ?_
  refine WP_iload dX3_faultOfName_19 rfl ?_
  refine WQ_if_eq 39 dX3_faultOfName_21 rfl (fun c6007 => ?_) (fun c6007 => False.elim (by omega))
  refine WP_aload dX3_faultOfName_39 rfl ?_
  refine WP_aload_n dX3_faultOfName_41 rfl ?_
  refine WP_getr dX3_faultOfName_42 fX3_15 rfl (lyx_is hy 3 3 rfl) (rfx hr 3 2 1 (by decide)) ?_
  refine WQ_getl dX3_faultOfName_45 fX3_80 rfl (lyx_is hy 1 5 rfl) (fun l6009 el6009 => ?_)
  refine WP_callV1 (k := 7) dX3_faultOfName_48 ⟨⟨⟨by decide, by decide⟩, zX7_thingNamed⟩, lX3_107, by decide, rfl, vX7_thingNamed.1, vX7_thingNamed.2⟩ (lyx_is hy 6 7 rfl) (sx_thingNamed_6 hy hr hI l6009 ) (Nat.le_of_ble_eq_true rfl) ?_
  intro r Ia Ja Ra hq
  obtain ⟨⟨ea, eb, ec⟩, v6010, rfl, av6010, bv6010⟩ := hq
  show WP _ _ _ _ (.int _ :: _) _ _ _ _
  rw [ea, eb, ec]
  clear ea eb ec Ia Ja Ra
  refine WP_istore (ls' := [(0, _), (1, _), (2, _), (3, _), (4, _), (5, _), (6, _)]) dX3_faultOfName_51 (by decide) rfl ?_
  refine WP_iload_n dX3_faultOfName_53 rfl ?_
  refine WQ_bipush (110) (110) dX3_faultOfName_54 rfl rfl (fun v6011 hv6011 => ?_)
  refine WQ_icmp_eq 65 dX3_faultOfName_56 rfl (fun c6011 => False.elim (by omega)) (fun c6011 => ?_)
  refine WP_iload_n dX3_faultOfName_59 rfl ?_
  refine WQ_bipush (109) (109) dX3_faultOfName_60 rfl rfl (fun v6013 hv6013 => ?_)
  refine WQ_icmp_ne 98 dX3_faultOfName_62 rfl (fun c6013 => ?_) (fun c6013 => False.elim (by omega))
  refine WP_iload dX3_faultOfName_98 rfl ?_
  refine WQ_iconst (-1) (-1) dX3_faultOfName_100 rfl rfl (fun v6015 hv6015 => ?_)
  refine WQ_icmp_ne 106 dX3_faultOfName_101 rfl (fun c6015 => ?_) (fun c6015 => ?_)
  · refine WP_aload_n dX3_faultOfName_106 rfl ?_
    refine WP_getr dX3_faultOfName_107 fX3_9 rfl (lyx_is hy 3 3 rfl) (rfx hr 3 3 4 (by decide)) ?_
    refine WP_iload_n dX3_faultOfName_110 rfl ?_
    refine WP_iload dX3_faultOfName_111 rfl ?_
    refine WQ_iast dX3_faultOfName_113 (lyx_is hy 4 13 rfl) (lyx_n hy 4 5 rfl) (by omega) (by omega) (fun I6017 fI6017 => ?_)
    have eI6017 := fI6017
    rw [cl (x := ix) (n := 0) (by omega)] at eI6017
    clear fI6017
    have hI6017 : XI g n L I6017 := by rw [eI6017]; exact (xi_f hy hI (c := 4) (0) (0) (1000) (by decide) (Or.inl (by decide)) (by decide) (by omega) (by omega))
    have e6018 : I6017 (ad g 1) 1 = L := by rw [eI6017, pp_ne _ _ (Or.inl (lyx_ne hy (by decide) (by decide) (by decide)))]; exact e5999
    have e6019 : I6017 (ad g 6) 1 = w6001 := by rw [eI6017, pp_ne _ _ (Or.inl (lyx_ne hy (by decide) (by decide) (by decide)))]; exact ew6001
    have e6020 : I6017 (ad g 6) 2 = w6002 := by rw [eI6017, pp_ne _ _ (Or.inl (lyx_ne hy (by decide) (by decide) (by decide)))]; exact ew6002
    have e6021 : I6017 (ad g 4) 0 = v6010 := by rw [eI6017, pp_self]
    have fr6022 : fz 74 g [4] I I6017 := by rw [eI6017]; exact fzx_pp hy fr0 (by decide) (by decide)
    clear eI6017
    refine WP_iload_n dX3_faultOfName_114 rfl ?_
    refine WQ_bipush (7) (7) dX3_faultOfName_115 rfl rfl (fun v6023 hv6023 => ?_)
    refine WQ_icmp_ne 137 dX3_faultOfName_117 rfl (fun c6023 => ?_) (fun c6023 => False.elim (by omega))
    refine WQ_iconst (0) (0) dX3_faultOfName_137 rfl rfl (fun v6025 hv6025 => ?_)
    exact WP_iret dX3_faultOfName_138 rfl ⟨⟨hI6017, rfl, fr6022, frj0, ⟨trivial, (by rw [e6019, ew6001] <;> exact (eq32 _ _).mpr (by omega)), (by rw [e6020, ew6002] <;> exact (eq32 _ _).mpr (by omega))⟩⟩, _, rfl, by omega, by omega, by (try rw [e6021]); omega⟩
  · refine WQ_iconst (5) (5) dX3_faultOfName_104 rfl rfl (fun v6026 hv6026 => ?_)
    obtain ⟨w6027, ew6027⟩ : ∃ w : Int32, I (ad g 4) 0 = w := ⟨_, rfl⟩
    have bw6027 := BT_get hI.1 4 0 5 (0) (0) (1000) (by decide) 0 (by decide) (by decide)
    rw [ew6027] at bw6027
    exact WP_iret dX3_faultOfName_105 rfl ⟨⟨hI, rfl, fr0, frj0, ⟨trivial, rfl, rfl⟩⟩, _, rfl, by omega, by omega, by (try rw [ew6027]); omega⟩
set_option maxHeartbeats 4000000 in
set_option maxRecDepth 100000 in
theorem sx_part_6_4_1 {g : GG} {n : Int} {L : Int32} (hy : LyX g)  {I : pI} {J : pJ} {R : pR} (hr : RfX g R) (hI : XI g n L I) (pa : Int32) (cz : Int32) (ix : Int32) (pa_lo : 68 ≤ pa.toInt) (pa_hi : pa.toInt ≤ 68) (cz_lo : 4 ≤ cz.toInt) (cz_hi : cz.toInt ≤ 4) (ix_lo : 1 ≤ ix.toInt) (ix_hi : ix.toInt ≤ 1) (hb : (I (ad g 4) 0).toInt ≤ 3) : SP g mX3_faultOfNumber [.ref (ad g 3), .int pa, .int cz, .int ix, .ref (ad g 6)] I J R (fun r I' J' R' => (XI g n L I' ∧ R' = R ∧ fz 74 g [4] I I' ∧ fz 74 g [] J J' ∧ True ∧ I' (ad g 4) 0 = I (ad g 4) 0 ∧ I' (ad g 6) 1 = I (ad g 6) 1 ∧ I' (ad g 6) 2 = I (ad g 6) 2) ∧ ∃ v : Int32, r = some (.int v) ∧ 0 ≤ v.toInt ∧ v.toInt ≤ 5 ∧ (v.toInt = 0 → (I' (ad g 4) 1).toInt ≤ 6)) := by
  refine SP_of ⟨by decide, rfl⟩ (Nat.le_of_ble_eq_true rfl) ?_
  have e6028 : I (ad g 1) 1 = L := hI.2
  have b6029 := BT_get hI.1 1 1 2 (0) (0) (900) (by decide) 1 (by decide) (by decide)
  rw [e6028] at b6029
  have fr0 : fz 74 g [4] I I := fz_rf
  have frj0 : fz 74 g [] J J := fz_rf
  obtain ⟨w6030, ew6030⟩ : ∃ w : Int32, I (ad g 4) 0 = w := ⟨_, rfl⟩
  have bw6030 := BT_get hI.1 4 0 5 (0) (0) (1000) (by decide) 0 (by decide) (by decide)
  rw [ew6030] at bw6030
  obtain ⟨w6031, ew6031⟩ : ∃ w : Int32, I (ad g 6) 1 = w := ⟨_, rfl⟩
  have bw6031 := BT_get hI.1 6 1 2 (0) (0) (4) (by decide) 1 (by decide) (by decide)
  rw [ew6031] at bw6031
  obtain ⟨w6032, ew6032⟩ : ∃ w : Int32, I (ad g 6) 2 = w := ⟨_, rfl⟩
  have bw6032 := BT_get hI.1 6 2 3 (0) (0) (3) (by decide) 2 (by decide) (by decide)
  rw [ew6032] at bw6032
  rw [ew6030] at hb
  refine WP_aload_n dX3_faultOfNumber_0 rfl ?_
  refine WP_getr dX3_faultOfNumber_1 fX3_15 rfl (lyx_is hy 3 3 rfl) (rfx hr 3 2 1 (by decide)) ?_
  refine WQ_getiu dX3_faultOfNumber_4 fX3_118 rfl (lyx_is hy 1 5 rfl) (fun v6033 ev6033 => ?_)
  refine WP_istore (ls' := [(0, _), (1, _), (2, _), (3, _), (4, _), (5, _)]) dX3_faultOfNumber_7 (by decide) rfl ?_
  refine WP_iload dX3_faultOfNumber_9 rfl ?_
  refine WP_iload_n dX3_faultOfNumber_11 rfl ?_
  refine WP_callS1 dX3_faultOfNumber_12 ⟨⟨⟨by decide, by decide⟩, zX3_leastOf⟩, lX3_121, tX3_leastOf⟩ (sx_leastOf hy hr hI pa ) (Nat.le_of_ble_eq_true rfl) ?_
  intro r Ia Ja Ra hq
  obtain ⟨⟨ea, eb, ec⟩, v6034, rfl, av6034, bv6034⟩ := hq
  show WP _ _ _ _ (.int _ :: _) _ _ _ _
  rw [ea, eb, ec]
  clear ea eb ec Ia Ja Ra
  refine WQ_icmp_lt 27 dX3_faultOfNumber_15 rfl (fun c6034 => ?_) (fun c6034 => ?_)
  · refine WQ_iconst (2) (2) dX3_faultOfNumber_27 rfl rfl (fun v6036 hv6036 => ?_)
    obtain ⟨w6037, ew6037⟩ : ∃ w : Int32, I (ad g 4) 1 = w := ⟨_, rfl⟩
    have bw6037 := BT_get hI.1 4 0 5 (0) (0) (1000) (by decide) 1 (by decide) (by decide)
    rw [ew6037] at bw6037
    exact WP_iret dX3_faultOfNumber_28 rfl ⟨⟨hI, rfl, fr0, frj0, ⟨trivial, rfl, rfl, rfl⟩⟩, _, rfl, by omega, by omega, by (try rw [ew6037]); omega⟩
  · refine WP_iload dX3_faultOfNumber_18 rfl ?_
    refine WP_iload_n dX3_faultOfNumber_20 rfl ?_
    refine WP_callS1 dX3_faultOfNumber_21 ⟨⟨⟨by decide, by decide⟩, zX3_mostOf⟩, lX3_125, tX3_mostOf⟩ (sx_mostOf hy hr hI pa ) (Nat.le_of_ble_eq_true rfl) ?_
    intro r Ia Ja Ra hq
    obtain ⟨⟨ea, eb, ec⟩, v6038, rfl, av6038, bv6038, cv6038⟩ := hq
    show WP _ _ _ _ (.int _ :: _) _ _ _ _
    rw [ea, eb, ec]
    clear ea eb ec Ia Ja Ra
    refine WQ_icmp_le 29 dX3_faultOfNumber_24 rfl (fun c6038 => ?_) (fun c6038 => ?_)
    · refine WP_aload_n dX3_faultOfNumber_29 rfl ?_
      refine WP_getr dX3_faultOfNumber_30 fX3_9 rfl (lyx_is hy 3 3 rfl) (rfx hr 3 3 4 (by decide)) ?_
      refine WP_iload_n dX3_faultOfNumber_33 rfl ?_
      refine WP_iload dX3_faultOfNumber_34 rfl ?_
      refine WQ_iast dX3_faultOfNumber_36 (lyx_is hy 4 13 rfl) (lyx_n hy 4 5 rfl) (by omega) (by omega) (fun I6040 fI6040 => ?_)
      have eI6040 := fI6040
      rw [cl (x := ix) (n := 1) (by omega)] at eI6040
      clear fI6040
      have hI6040 : XI g n L I6040 := by rw [eI6040]; exact (xi_f hy hI (c := 4) (0) (0) (1000) (by decide) (Or.inl (by decide)) (by decide) (by omega) (by omega))
      have e6041 : I6040 (ad g 1) 1 = L := by rw [eI6040, pp_ne _ _ (Or.inl (lyx_ne hy (by decide) (by decide) (by decide)))]; exact e6028
      have e6042 : I6040 (ad g 4) 0 = w6030 := by rw [eI6040, pp_ne _ _ (Or.inr (by decide))]; exact ew6030
      have e6043 : I6040 (ad g 6) 1 = w6031 := by rw [eI6040, pp_ne _ _ (Or.inl (lyx_ne hy (by decide) (by decide) (by decide)))]; exact ew6031
      have e6044 : I6040 (ad g 6) 2 = w6032 := by rw [eI6040, pp_ne _ _ (Or.inl (lyx_ne hy (by decide) (by decide) (by decide)))]; exact ew6032
      have e6045 : I6040 (ad g 1) 4 = v6033 := by rw [eI6040, pp_ne _ _ (Or.inl (lyx_ne hy (by decide) (by decide) (by decide)))]; exact ev6033
      have e6046 : I6040 (ad g 4) 1 = v6033 := by rw [eI6040, pp_self]
      have fr6047 : fz 74 g [4] I I6040 := by rw [eI6040]; exact fzx_pp hy fr0 (by decide) (by decide)
      clear eI6040
      refine WP_iload_n dX3_faultOfNumber_37 rfl ?_
      refine WQ_bipush (68) (68) dX3_faultOfNumber_38 rfl rfl (fun v6048 hv6048 => ?_)
      refine WQ_icmp_eq 45 dX3_faultOfNumber_40 rfl (fun c6048 => ?_) (fun c6048 => False.elim (by omega))
      refine WP_aload dX3_faultOfNumber_45 rfl ?_
      refine WP_iload_n dX3_faultOfNumber_47 rfl ?_
      refine WP_iload_n dX3_faultOfNumber_48 rfl ?_
      refine WQ_if_ne 56 dX3_faultOfNumber_49 rfl (fun c6049 => ?_) (fun c6049 => False.elim (by omega))
      refine WP_aload_n dX3_faultOfNumber_56 rfl ?_
      refine WP_getr dX3_faultOfNumber_57 fX3_9 rfl (lyx_is hy 3 3 rfl) (rfx hr 3 3 4 (by decide)) ?_
      refine WQ_iconst (0) (0) dX3_faultOfNumber_60 rfl rfl (fun v6051 hv6051 => ?_)
      refine WQ_ialdm (z := 0) dX3_faultOfNumber_61 (lyx_is hy 4 13 rfl) (lyx_n hy 4 5 rfl) hv6051 (by decide) e6042 ?_
      refine WP_iload dX3_faultOfNumber_62 rfl ?_
      refine WP_callV3 (k := 7) dX3_faultOfNumber_64 ⟨⟨⟨by decide, by decide⟩, zX7_isTold⟩, lX3_114, by decide, rfl, vX7_isTold.1, vX7_isTold.2⟩ (lyx_is hy 6 7 rfl) (sx_isTold_6 hy hr hI6040 cz w6030 v6033 (by omega) (by omega) (by omega) (by omega) ) (Nat.le_of_ble_eq_true rfl) ?_
      intro r Ia Ja Ra hq
      obtain ⟨⟨ea, eb, ec⟩, v6053, rfl, av6053, bv6053⟩ := hq
      show WP _ _ _ _ (.int _ :: _) _ _ _ _
      rw [ea, eb, ec]
      clear ea eb ec Ia Ja Ra
      refine WQ_if_eq 74 dX3_faultOfNumber_67 rfl (fun c6053 => ?_) (fun c6053 => ?_)
      · refine WQ_iconst (0) (0) dX3_faultOfNumber_74 rfl rfl (fun v6055 hv6055 => ?_)
        exact WP_iret dX3_faultOfNumber_75 rfl ⟨⟨hI6040, rfl, fr6047, frj0, ⟨trivial, (by rw [e6042, ew6030] <;> exact (eq32 _ _).mpr (by omega)), (by rw [e6043, ew6031] <;> exact (eq32 _ _).mpr (by omega)), (by rw [e6044, ew6032] <;> exact (eq32 _ _).mpr (by omega))⟩⟩, _, rfl, by omega, by omega, by (try rw [e6046]); omega⟩
      · refine WQ_iconst (3) (3) dX3_faultOfNumber_70 rfl rfl (fun v6056 hv6056 => ?_)
        refine WP_goto 75 dX3_faultOfNumber_71 rfl ?_
        exact WP_iret dX3_faultOfNumber_75 rfl ⟨⟨hI6040, rfl, fr6047, frj0, ⟨trivial, (by rw [e6042, ew6030] <;> exact (eq32 _ _).mpr (by omega)), (by rw [e6043, ew6031] <;> exact (eq32 _ _).mpr (by omega)), (by rw [e6044, ew6032] <;> exact (eq32 _ _).mpr (by omega))⟩⟩, _, rfl, by omega, by omega, by (try rw [e6046]); omega⟩
    · refine WQ_iconst (2) (2) dX3_faultOfNumber_27 rfl rfl (fun v6057 hv6057 => ?_)
      obtain ⟨w6058, ew6058⟩ : ∃ w : Int32, I (ad g 4) 1 = w := ⟨_, rfl⟩
      have bw6058 := BT_get hI.1 4 0 5 (0) (0) (1000) (by decide) 1 (by decide) (by decide)
      rw [ew6058] at bw6058
      exact WP_iret dX3_faultOfNumber_28 rfl ⟨⟨hI, rfl, fr0, frj0, ⟨trivial, rfl, rfl, rfl⟩⟩, _, rfl, by omega, by omega, by (try rw [ew6058]); omega⟩
set_option maxHeartbeats 4000000 in
set_option maxRecDepth 100000 in
theorem sx_part_6_4_2 {g : GG} {n : Int} {L : Int32} (hy : LyX g)  {I : pI} {J : pJ} {R : pR} (hr : RfX g R) (hI : XI g n L I) (pa : Int32) (cz : Int32) (ix : Int32) (pa_lo : 69 ≤ pa.toInt) (pa_hi : pa.toInt ≤ 69) (cz_lo : 4 ≤ cz.toInt) (cz_hi : cz.toInt ≤ 4) (ix_lo : 2 ≤ ix.toInt) (ix_hi : ix.toInt ≤ 2) : SP g mX3_faultOfNumber [.ref (ad g 3), .int pa, .int cz, .int ix, .ref (ad g 6)] I J R (fun r I' J' R' => (XI g n L I' ∧ R' = R ∧ fz 74 g [4] I I' ∧ fz 74 g [] J J' ∧ True ∧ I' (ad g 4) 0 = I (ad g 4) 0 ∧ I' (ad g 4) 1 = I (ad g 4) 1 ∧ I' (ad g 6) 1 = I (ad g 6) 1 ∧ I' (ad g 6) 2 = I (ad g 6) 2) ∧ ∃ v : Int32, r = some (.int v) ∧ 0 ≤ v.toInt ∧ v.toInt ≤ 5 ∧ (v.toInt = 0 → (I' (ad g 4) 2).toInt ≤ 20)) := by
  refine SP_of ⟨by decide, rfl⟩ (Nat.le_of_ble_eq_true rfl) ?_
  have e6059 : I (ad g 1) 1 = L := hI.2
  have b6060 := BT_get hI.1 1 1 2 (0) (0) (900) (by decide) 1 (by decide) (by decide)
  rw [e6059] at b6060
  have fr0 : fz 74 g [4] I I := fz_rf
  have frj0 : fz 74 g [] J J := fz_rf
  obtain ⟨w6061, ew6061⟩ : ∃ w : Int32, I (ad g 4) 0 = w := ⟨_, rfl⟩
  have bw6061 := BT_get hI.1 4 0 5 (0) (0) (1000) (by decide) 0 (by decide) (by decide)
  rw [ew6061] at bw6061
  obtain ⟨w6062, ew6062⟩ : ∃ w : Int32, I (ad g 4) 1 = w := ⟨_, rfl⟩
  have bw6062 := BT_get hI.1 4 0 5 (0) (0) (1000) (by decide) 1 (by decide) (by decide)
  rw [ew6062] at bw6062
  obtain ⟨w6063, ew6063⟩ : ∃ w : Int32, I (ad g 6) 1 = w := ⟨_, rfl⟩
  have bw6063 := BT_get hI.1 6 1 2 (0) (0) (4) (by decide) 1 (by decide) (by decide)
  rw [ew6063] at bw6063
  obtain ⟨w6064, ew6064⟩ : ∃ w : Int32, I (ad g 6) 2 = w := ⟨_, rfl⟩
  have bw6064 := BT_get hI.1 6 2 3 (0) (0) (3) (by decide) 2 (by decide) (by decide)
  rw [ew6064] at bw6064
  refine WP_aload_n dX3_faultOfNumber_0 rfl ?_
  refine WP_getr dX3_faultOfNumber_1 fX3_15 rfl (lyx_is hy 3 3 rfl) (rfx hr 3 2 1 (by decide)) ?_
  refine WQ_getiu dX3_faultOfNumber_4 fX3_118 rfl (lyx_is hy 1 5 rfl) (fun v6065 ev6065 => ?_)
  refine WP_istore (ls' := [(0, _), (1, _), (2, _), (3, _), (4, _), (5, _)]) dX3_faultOfNumber_7 (by decide) rfl ?_
  refine WP_iload dX3_faultOfNumber_9 rfl ?_
  refine WP_iload_n dX3_faultOfNumber_11 rfl ?_
  refine WP_callS1 dX3_faultOfNumber_12 ⟨⟨⟨by decide, by decide⟩, zX3_leastOf⟩, lX3_121, tX3_leastOf⟩ (sx_leastOf hy hr hI pa ) (Nat.le_of_ble_eq_true rfl) ?_
  intro r Ia Ja Ra hq
  obtain ⟨⟨ea, eb, ec⟩, v6066, rfl, av6066, bv6066⟩ := hq
  show WP _ _ _ _ (.int _ :: _) _ _ _ _
  rw [ea, eb, ec]
  clear ea eb ec Ia Ja Ra
  refine WQ_icmp_lt 27 dX3_faultOfNumber_15 rfl (fun c6066 => ?_) (fun c6066 => ?_)
  · refine WQ_iconst (2) (2) dX3_faultOfNumber_27 rfl rfl (fun v6068 hv6068 => ?_)
    obtain ⟨w6069, ew6069⟩ : ∃ w : Int32, I (ad g 4) 2 = w := ⟨_, rfl⟩
    have bw6069 := BT_get hI.1 4 0 5 (0) (0) (1000) (by decide) 2 (by decide) (by decide)
    rw [ew6069] at bw6069
    exact WP_iret dX3_faultOfNumber_28 rfl ⟨⟨hI, rfl, fr0, frj0, ⟨trivial, rfl, rfl, rfl, rfl⟩⟩, _, rfl, by omega, by omega, by (try rw [ew6069]); omega⟩
  · refine WP_iload dX3_faultOfNumber_18 rfl ?_
    refine WP_iload_n dX3_faultOfNumber_20 rfl ?_
    refine WP_callS1 dX3_faultOfNumber_21 ⟨⟨⟨by decide, by decide⟩, zX3_mostOf⟩, lX3_125, tX3_mostOf⟩ (sx_mostOf hy hr hI pa ) (Nat.le_of_ble_eq_true rfl) ?_
    intro r Ia Ja Ra hq
    obtain ⟨⟨ea, eb, ec⟩, v6070, rfl, av6070, bv6070, cv6070⟩ := hq
    show WP _ _ _ _ (.int _ :: _) _ _ _ _
    rw [ea, eb, ec]
    clear ea eb ec Ia Ja Ra
    refine WQ_icmp_le 29 dX3_faultOfNumber_24 rfl (fun c6070 => ?_) (fun c6070 => ?_)
    · refine WP_aload_n dX3_faultOfNumber_29 rfl ?_
      refine WP_getr dX3_faultOfNumber_30 fX3_9 rfl (lyx_is hy 3 3 rfl) (rfx hr 3 3 4 (by decide)) ?_
      refine WP_iload_n dX3_faultOfNumber_33 rfl ?_
      refine WP_iload dX3_faultOfNumber_34 rfl ?_
      refine WQ_iast dX3_faultOfNumber_36 (lyx_is hy 4 13 rfl) (lyx_n hy 4 5 rfl) (by omega) (by omega) (fun I6072 fI6072 => ?_)
      have eI6072 := fI6072
      rw [cl (x := ix) (n := 2) (by omega)] at eI6072
      clear fI6072
      have hI6072 : XI g n L I6072 := by rw [eI6072]; exact (xi_f hy hI (c := 4) (0) (0) (1000) (by decide) (Or.inl (by decide)) (by decide) (by omega) (by omega))
      have e6073 : I6072 (ad g 1) 1 = L := by rw [eI6072, pp_ne _ _ (Or.inl (lyx_ne hy (by decide) (by decide) (by decide)))]; exact e6059
      have e6074 : I6072 (ad g 4) 0 = w6061 := by rw [eI6072, pp_ne _ _ (Or.inr (by decide))]; exact ew6061
      have e6075 : I6072 (ad g 4) 1 = w6062 := by rw [eI6072, pp_ne _ _ (Or.inr (by decide))]; exact ew6062
      have e6076 : I6072 (ad g 6) 1 = w6063 := by rw [eI6072, pp_ne _ _ (Or.inl (lyx_ne hy (by decide) (by decide) (by decide)))]; exact ew6063
      have e6077 : I6072 (ad g 6) 2 = w6064 := by rw [eI6072, pp_ne _ _ (Or.inl (lyx_ne hy (by decide) (by decide) (by decide)))]; exact ew6064
      have e6078 : I6072 (ad g 1) 4 = v6065 := by rw [eI6072, pp_ne _ _ (Or.inl (lyx_ne hy (by decide) (by decide) (by decide)))]; exact ev6065
      have e6079 : I6072 (ad g 4) 2 = v6065 := by rw [eI6072, pp_self]
      have fr6080 : fz 74 g [4] I I6072 := by rw [eI6072]; exact fzx_pp hy fr0 (by decide) (by decide)
      clear eI6072
      refine WP_iload_n dX3_faultOfNumber_37 rfl ?_
      refine WQ_bipush (68) (68) dX3_faultOfNumber_38 rfl rfl (fun v6081 hv6081 => ?_)
      refine WQ_icmp_eq 45 dX3_faultOfNumber_40 rfl (fun c6081 => False.elim (by omega)) (fun c6081 => ?_)
      refine WQ_iconst (0) (0) dX3_faultOfNumber_43 rfl rfl (fun v6083 hv6083 => ?_)
      exact WP_iret dX3_faultOfNumber_44 rfl ⟨⟨hI6072, rfl, fr6080, frj0, ⟨trivial, (by rw [e6074, ew6061] <;> exact (eq32 _ _).mpr (by omega)), (by rw [e6075, ew6062] <;> exact (eq32 _ _).mpr (by omega)), (by rw [e6076, ew6063] <;> exact (eq32 _ _).mpr (by omega)), (by rw [e6077, ew6064] <;> exact (eq32 _ _).mpr (by omega))⟩⟩, _, rfl, by omega, by omega, by (try rw [e6079]); omega⟩
    · refine WQ_iconst (2) (2) dX3_faultOfNumber_27 rfl rfl (fun v6084 hv6084 => ?_)
      obtain ⟨w6085, ew6085⟩ : ∃ w : Int32, I (ad g 4) 2 = w := ⟨_, rfl⟩
      have bw6085 := BT_get hI.1 4 0 5 (0) (0) (1000) (by decide) 2 (by decide) (by decide)
      rw [ew6085] at bw6085
      exact WP_iret dX3_faultOfNumber_28 rfl ⟨⟨hI, rfl, fr0, frj0, ⟨trivial, rfl, rfl, rfl, rfl⟩⟩, _, rfl, by omega, by omega, by (try rw [ew6085]); omega⟩
set_option maxHeartbeats 4000000 in
set_option maxRecDepth 100000 in
theorem sx_part_6_5_0 {g : GG} {n : Int} {L : Int32} (hy : LyX g)  {I : pI} {J : pJ} {R : pR} (hr : RfX g R) (hI : XI g n L I) (pa : Int32) (cz : Int32) (ix : Int32) (pa_lo : 116 ≤ pa.toInt) (pa_hi : pa.toInt ≤ 116) (cz_lo : 5 ≤ cz.toInt) (cz_hi : cz.toInt ≤ 5) (ix_lo : 0 ≤ ix.toInt) (ix_hi : ix.toInt ≤ 0) : SP g mX3_faultOfName [.ref (ad g 3), .int pa, .int cz, .int ix, .ref (ad g 6)] I J R (fun r I' J' R' => (XI g n L I' ∧ R' = R ∧ fz 74 g [4] I I' ∧ fz 74 g [] J J' ∧ True ∧ I' (ad g 6) 1 = I (ad g 6) 1 ∧ I' (ad g 6) 2 = I (ad g 6) 2) ∧ ∃ v : Int32, r = some (.int v) ∧ 0 ≤ v.toInt ∧ v.toInt ≤ 5 ∧ (v.toInt = 0 → (I' (ad g 4) 0).toInt ≤ 2)) := by
  refine SP_of ⟨by decide, rfl⟩ (Nat.le_of_ble_eq_true rfl) ?_
  have e6086 : I (ad g 1) 1 = L := hI.2
  have b6087 := BT_get hI.1 1 1 2 (0) (0) (900) (by decide) 1 (by decide) (by decide)
  rw [e6086] at b6087
  have fr0 : fz 74 g [4] I I := fz_rf
  have frj0 : fz 74 g [] J J := fz_rf
  obtain ⟨w6088, ew6088⟩ : ∃ w : Int32, I (ad g 6) 1 = w := ⟨_, rfl⟩
  have bw6088 := BT_get hI.1 6 1 2 (0) (0) (4) (by decide) 1 (by decide) (by decide)
  rw [ew6088] at bw6088
  obtain ⟨w6089, ew6089⟩ : ∃ w : Int32, I (ad g 6) 2 = w := ⟨_, rfl⟩
  have bw6089 := BT_get hI.1 6 2 3 (0) (0) (3) (by decide) 2 (by decide) (by decide)
  rw [ew6089] at bw6089
  refine WP_iload_n dX3_faultOfName_0 rfl ?_
  refine WQ_bipush (115) (115) dX3_faultOfName_1 rfl rfl (fun v6090 hv6090 => ?_)
  refine WQ_icmp_eq 12 dX3_faultOfName_3 rfl (fun c6090 => False.elim (by omega)) (fun c6090 => ?_)
  refine WP_iload_n dX3_faultOfName_6 rfl ?_
  refine WQ_bipush (110) (110) dX3_faultOfName_7 rfl rfl (fun v6092 hv6092 => ?_)
  refine WQ_icmp_ne 16 dX3_faultOfName_9 rfl (fun c6092 => ?_) (fun c6092 => False.elim (by omega))
  refine WQ_iconst (0) (0) dX3_faultOfName_16 rfl rfl (fun v6094 hv6094 => ?_)
  refine WP_istore (ls' := [(0, _), (1, _), (2, _), (3, _), (4, _), (5, _)]) dX3_faultOfName_17 (by decide) rfl ?_
  refine WP_iload dX3_faultOfName_19 rfl ?_
  refine WQ_if_eq 39 dX3_faultOfName_21 rfl (fun c6094 => ?_) (fun c6094 => False.elim (by omega))
  refine WP_aload dX3_faultOfName_39 rfl ?_
  refine WP_aload_n dX3_faultOfName_41 rfl ?_
  refine WP_getr dX3_faultOfName_42 fX3_15 rfl (lyx_is hy 3 3 rfl) (rfx hr 3 2 1 (by decide)) ?_
  refine WQ_getl dX3_faultOfName_45 fX3_80 rfl (lyx_is hy 1 5 rfl) (fun l6096 el6096 => ?_)
  refine WP_callV1 (k := 7) dX3_faultOfName_48 ⟨⟨⟨by decide, by decide⟩, zX7_thingNamed⟩, lX3_107, by decide, rfl, vX7_thingNamed.1, vX7_thingNamed.2⟩ (lyx_is hy 6 7 rfl) (sx_thingNamed_6 hy hr hI l6096 ) (Nat.le_of_ble_eq_true rfl) ?_
  intro r Ia Ja Ra hq
  obtain ⟨⟨ea, eb, ec⟩, v6097, rfl, av6097, bv6097⟩ := hq
  show WP _ _ _ _ (.int _ :: _) _ _ _ _
  rw [ea, eb, ec]
  clear ea eb ec Ia Ja Ra
  refine WP_istore (ls' := [(0, _), (1, _), (2, _), (3, _), (4, _), (5, _), (6, _)]) dX3_faultOfName_51 (by decide) rfl ?_
  refine WP_iload_n dX3_faultOfName_53 rfl ?_
  refine WQ_bipush (110) (110) dX3_faultOfName_54 rfl rfl (fun v6098 hv6098 => ?_)
  refine WQ_icmp_eq 65 dX3_faultOfName_56 rfl (fun c6098 => False.elim (by omega)) (fun c6098 => ?_)
  refine WP_iload_n dX3_faultOfName_59 rfl ?_
  refine WQ_bipush (109) (109) dX3_faultOfName_60 rfl rfl (fun v6100 hv6100 => ?_)
  refine WQ_icmp_ne 98 dX3_faultOfName_62 rfl (fun c6100 => ?_) (fun c6100 => False.elim (by omega))
  refine WP_iload dX3_faultOfName_98 rfl ?_
  refine WQ_iconst (-1) (-1) dX3_faultOfName_100 rfl rfl (fun v6102 hv6102 => ?_)
  refine WQ_icmp_ne 106 dX3_faultOfName_101 rfl (fun c6102 => ?_) (fun c6102 => ?_)
  · refine WP_aload_n dX3_faultOfName_106 rfl ?_
    refine WP_getr dX3_faultOfName_107 fX3_9 rfl (lyx_is hy 3 3 rfl) (rfx hr 3 3 4 (by decide)) ?_
    refine WP_iload_n dX3_faultOfName_110 rfl ?_
    refine WP_iload dX3_faultOfName_111 rfl ?_
    refine WQ_iast dX3_faultOfName_113 (lyx_is hy 4 13 rfl) (lyx_n hy 4 5 rfl) (by omega) (by omega) (fun I6104 fI6104 => ?_)
    have eI6104 := fI6104
    rw [cl (x := ix) (n := 0) (by omega)] at eI6104
    clear fI6104
    have hI6104 : XI g n L I6104 := by rw [eI6104]; exact (xi_f hy hI (c := 4) (0) (0) (1000) (by decide) (Or.inl (by decide)) (by decide) (by omega) (by omega))
    have e6105 : I6104 (ad g 1) 1 = L := by rw [eI6104, pp_ne _ _ (Or.inl (lyx_ne hy (by decide) (by decide) (by decide)))]; exact e6086
    have e6106 : I6104 (ad g 6) 1 = w6088 := by rw [eI6104, pp_ne _ _ (Or.inl (lyx_ne hy (by decide) (by decide) (by decide)))]; exact ew6088
    have e6107 : I6104 (ad g 6) 2 = w6089 := by rw [eI6104, pp_ne _ _ (Or.inl (lyx_ne hy (by decide) (by decide) (by decide)))]; exact ew6089
    have e6108 : I6104 (ad g 4) 0 = v6097 := by rw [eI6104, pp_self]
    have fr6109 : fz 74 g [4] I I6104 := by rw [eI6104]; exact fzx_pp hy fr0 (by decide) (by decide)
    clear eI6104
    refine WP_iload_n dX3_faultOfName_114 rfl ?_
    refine WQ_bipush (7) (7) dX3_faultOfName_115 rfl rfl (fun v6110 hv6110 => ?_)
    refine WQ_icmp_ne 137 dX3_faultOfName_117 rfl (fun c6110 => ?_) (fun c6110 => False.elim (by omega))
    refine WQ_iconst (0) (0) dX3_faultOfName_137 rfl rfl (fun v6112 hv6112 => ?_)
    exact WP_iret dX3_faultOfName_138 rfl ⟨⟨hI6104, rfl, fr6109, frj0, ⟨trivial, (by rw [e6106, ew6088] <;> exact (eq32 _ _).mpr (by omega)), (by rw [e6107, ew6089] <;> exact (eq32 _ _).mpr (by omega))⟩⟩, _, rfl, by omega, by omega, by (try rw [e6108]); omega⟩
  · refine WQ_iconst (5) (5) dX3_faultOfName_104 rfl rfl (fun v6113 hv6113 => ?_)
    obtain ⟨w6114, ew6114⟩ : ∃ w : Int32, I (ad g 4) 0 = w := ⟨_, rfl⟩
    have bw6114 := BT_get hI.1 4 0 5 (0) (0) (1000) (by decide) 0 (by decide) (by decide)
    rw [ew6114] at bw6114
    exact WP_iret dX3_faultOfName_105 rfl ⟨⟨hI, rfl, fr0, frj0, ⟨trivial, rfl, rfl⟩⟩, _, rfl, by omega, by omega, by (try rw [ew6114]); omega⟩
set_option maxHeartbeats 4000000 in
set_option maxRecDepth 100000 in
theorem sx_part_6_5_1 {g : GG} {n : Int} {L : Int32} (hy : LyX g)  {I : pI} {J : pJ} {R : pR} (hr : RfX g R) (hI : XI g n L I) (pa : Int32) (cz : Int32) (ix : Int32) (pa_lo : 68 ≤ pa.toInt) (pa_hi : pa.toInt ≤ 68) (cz_lo : 5 ≤ cz.toInt) (cz_hi : cz.toInt ≤ 5) (ix_lo : 1 ≤ ix.toInt) (ix_hi : ix.toInt ≤ 1) (hb : (I (ad g 4) 0).toInt ≤ 3) : SP g mX3_faultOfNumber [.ref (ad g 3), .int pa, .int cz, .int ix, .ref (ad g 6)] I J R (fun r I' J' R' => (XI g n L I' ∧ R' = R ∧ fz 74 g [4] I I' ∧ fz 74 g [] J J' ∧ True ∧ I' (ad g 4) 0 = I (ad g 4) 0 ∧ I' (ad g 6) 1 = I (ad g 6) 1 ∧ I' (ad g 6) 2 = I (ad g 6) 2) ∧ ∃ v : Int32, r = some (.int v) ∧ 0 ≤ v.toInt ∧ v.toInt ≤ 5 ∧ (v.toInt = 0 → (I' (ad g 4) 1).toInt ≤ 6)) := by
  refine SP_of ⟨by decide, rfl⟩ (Nat.le_of_ble_eq_true rfl) ?_
  have e6115 : I (ad g 1) 1 = L := hI.2
  have b6116 := BT_get hI.1 1 1 2 (0) (0) (900) (by decide) 1 (by decide) (by decide)
  rw [e6115] at b6116
  have fr0 : fz 74 g [4] I I := fz_rf
  have frj0 : fz 74 g [] J J := fz_rf
  obtain ⟨w6117, ew6117⟩ : ∃ w : Int32, I (ad g 4) 0 = w := ⟨_, rfl⟩
  have bw6117 := BT_get hI.1 4 0 5 (0) (0) (1000) (by decide) 0 (by decide) (by decide)
  rw [ew6117] at bw6117
  obtain ⟨w6118, ew6118⟩ : ∃ w : Int32, I (ad g 6) 1 = w := ⟨_, rfl⟩
  have bw6118 := BT_get hI.1 6 1 2 (0) (0) (4) (by decide) 1 (by decide) (by decide)
  rw [ew6118] at bw6118
  obtain ⟨w6119, ew6119⟩ : ∃ w : Int32, I (ad g 6) 2 = w := ⟨_, rfl⟩
  have bw6119 := BT_get hI.1 6 2 3 (0) (0) (3) (by decide) 2 (by decide) (by decide)
  rw [ew6119] at bw6119
  rw [ew6117] at hb
  refine WP_aload_n dX3_faultOfNumber_0 rfl ?_
  refine WP_getr dX3_faultOfNumber_1 fX3_15 rfl (lyx_is hy 3 3 rfl) (rfx hr 3 2 1 (by decide)) ?_
  refine WQ_getiu dX3_faultOfNumber_4 fX3_118 rfl (lyx_is hy 1 5 rfl) (fun v6120 ev6120 => ?_)
  refine WP_istore (ls' := [(0, _), (1, _), (2, _), (3, _), (4, _), (5, _)]) dX3_faultOfNumber_7 (by decide) rfl ?_
  refine WP_iload dX3_faultOfNumber_9 rfl ?_
  refine WP_iload_n dX3_faultOfNumber_11 rfl ?_
  refine WP_callS1 dX3_faultOfNumber_12 ⟨⟨⟨by decide, by decide⟩, zX3_leastOf⟩, lX3_121, tX3_leastOf⟩ (sx_leastOf hy hr hI pa ) (Nat.le_of_ble_eq_true rfl) ?_
  intro r Ia Ja Ra hq
  obtain ⟨⟨ea, eb, ec⟩, v6121, rfl, av6121, bv6121⟩ := hq
  show WP _ _ _ _ (.int _ :: _) _ _ _ _
  rw [ea, eb, ec]
  clear ea eb ec Ia Ja Ra
  refine WQ_icmp_lt 27 dX3_faultOfNumber_15 rfl (fun c6121 => ?_) (fun c6121 => ?_)
  · refine WQ_iconst (2) (2) dX3_faultOfNumber_27 rfl rfl (fun v6123 hv6123 => ?_)
    obtain ⟨w6124, ew6124⟩ : ∃ w : Int32, I (ad g 4) 1 = w := ⟨_, rfl⟩
    have bw6124 := BT_get hI.1 4 0 5 (0) (0) (1000) (by decide) 1 (by decide) (by decide)
    rw [ew6124] at bw6124
    exact WP_iret dX3_faultOfNumber_28 rfl ⟨⟨hI, rfl, fr0, frj0, ⟨trivial, rfl, rfl, rfl⟩⟩, _, rfl, by omega, by omega, by (try rw [ew6124]); omega⟩
  · refine WP_iload dX3_faultOfNumber_18 rfl ?_
    refine WP_iload_n dX3_faultOfNumber_20 rfl ?_
    refine WP_callS1 dX3_faultOfNumber_21 ⟨⟨⟨by decide, by decide⟩, zX3_mostOf⟩, lX3_125, tX3_mostOf⟩ (sx_mostOf hy hr hI pa ) (Nat.le_of_ble_eq_true rfl) ?_
    intro r Ia Ja Ra hq
    obtain ⟨⟨ea, eb, ec⟩, v6125, rfl, av6125, bv6125, cv6125⟩ := hq
    show WP _ _ _ _ (.int _ :: _) _ _ _ _
    rw [ea, eb, ec]
    clear ea eb ec Ia Ja Ra
    refine WQ_icmp_le 29 dX3_faultOfNumber_24 rfl (fun c6125 => ?_) (fun c6125 => ?_)
    · refine WP_aload_n dX3_faultOfNumber_29 rfl ?_
      refine WP_getr dX3_faultOfNumber_30 fX3_9 rfl (lyx_is hy 3 3 rfl) (rfx hr 3 3 4 (by decide)) ?_
      refine WP_iload_n dX3_faultOfNumber_33 rfl ?_
      refine WP_iload dX3_faultOfNumber_34 rfl ?_
      refine WQ_iast dX3_faultOfNumber_36 (lyx_is hy 4 13 rfl) (lyx_n hy 4 5 rfl) (by omega) (by omega) (fun I6127 fI6127 => ?_)
      have eI6127 := fI6127
      rw [cl (x := ix) (n := 1) (by omega)] at eI6127
      clear fI6127
      have hI6127 : XI g n L I6127 := by rw [eI6127]; exact (xi_f hy hI (c := 4) (0) (0) (1000) (by decide) (Or.inl (by decide)) (by decide) (by omega) (by omega))
      have e6128 : I6127 (ad g 1) 1 = L := by rw [eI6127, pp_ne _ _ (Or.inl (lyx_ne hy (by decide) (by decide) (by decide)))]; exact e6115
      have e6129 : I6127 (ad g 4) 0 = w6117 := by rw [eI6127, pp_ne _ _ (Or.inr (by decide))]; exact ew6117
      have e6130 : I6127 (ad g 6) 1 = w6118 := by rw [eI6127, pp_ne _ _ (Or.inl (lyx_ne hy (by decide) (by decide) (by decide)))]; exact ew6118
      have e6131 : I6127 (ad g 6) 2 = w6119 := by rw [eI6127, pp_ne _ _ (Or.inl (lyx_ne hy (by decide) (by decide) (by decide)))]; exact ew6119
      have e6132 : I6127 (ad g 1) 4 = v6120 := by rw [eI6127, pp_ne _ _ (Or.inl (lyx_ne hy (by decide) (by decide) (by decide)))]; exact ev6120
      have e6133 : I6127 (ad g 4) 1 = v6120 := by rw [eI6127, pp_self]
      have fr6134 : fz 74 g [4] I I6127 := by rw [eI6127]; exact fzx_pp hy fr0 (by decide) (by decide)
      clear eI6127
      refine WP_iload_n dX3_faultOfNumber_37 rfl ?_
      refine WQ_bipush (68) (68) dX3_faultOfNumber_38 rfl rfl (fun v6135 hv6135 => ?_)
      refine WQ_icmp_eq 45 dX3_faultOfNumber_40 rfl (fun c6135 => ?_) (fun c6135 => False.elim (by omega))
      refine WP_aload dX3_faultOfNumber_45 rfl ?_
      refine WP_iload_n dX3_faultOfNumber_47 rfl ?_
      refine WP_iload_n dX3_faultOfNumber_48 rfl ?_
      refine WQ_if_ne 56 dX3_faultOfNumber_49 rfl (fun c6136 => ?_) (fun c6136 => False.elim (by omega))
      refine WP_aload_n dX3_faultOfNumber_56 rfl ?_
      refine WP_getr dX3_faultOfNumber_57 fX3_9 rfl (lyx_is hy 3 3 rfl) (rfx hr 3 3 4 (by decide)) ?_
      refine WQ_iconst (0) (0) dX3_faultOfNumber_60 rfl rfl (fun v6138 hv6138 => ?_)
      refine WQ_ialdm (z := 0) dX3_faultOfNumber_61 (lyx_is hy 4 13 rfl) (lyx_n hy 4 5 rfl) hv6138 (by decide) e6129 ?_
      refine WP_iload dX3_faultOfNumber_62 rfl ?_
      refine WP_callV3 (k := 7) dX3_faultOfNumber_64 ⟨⟨⟨by decide, by decide⟩, zX7_isTold⟩, lX3_114, by decide, rfl, vX7_isTold.1, vX7_isTold.2⟩ (lyx_is hy 6 7 rfl) (sx_isTold_6 hy hr hI6127 cz w6117 v6120 (by omega) (by omega) (by omega) (by omega) ) (Nat.le_of_ble_eq_true rfl) ?_
      intro r Ia Ja Ra hq
      obtain ⟨⟨ea, eb, ec⟩, v6140, rfl, av6140, bv6140⟩ := hq
      show WP _ _ _ _ (.int _ :: _) _ _ _ _
      rw [ea, eb, ec]
      clear ea eb ec Ia Ja Ra
      refine WQ_if_eq 74 dX3_faultOfNumber_67 rfl (fun c6140 => ?_) (fun c6140 => ?_)
      · refine WQ_iconst (0) (0) dX3_faultOfNumber_74 rfl rfl (fun v6142 hv6142 => ?_)
        exact WP_iret dX3_faultOfNumber_75 rfl ⟨⟨hI6127, rfl, fr6134, frj0, ⟨trivial, (by rw [e6129, ew6117] <;> exact (eq32 _ _).mpr (by omega)), (by rw [e6130, ew6118] <;> exact (eq32 _ _).mpr (by omega)), (by rw [e6131, ew6119] <;> exact (eq32 _ _).mpr (by omega))⟩⟩, _, rfl, by omega, by omega, by (try rw [e6133]); omega⟩
      · refine WQ_iconst (3) (3) dX3_faultOfNumber_70 rfl rfl (fun v6143 hv6143 => ?_)
        refine WP_goto 75 dX3_faultOfNumber_71 rfl ?_
        exact WP_iret dX3_faultOfNumber_75 rfl ⟨⟨hI6127, rfl, fr6134, frj0, ⟨trivial, (by rw [e6129, ew6117] <;> exact (eq32 _ _).mpr (by omega)), (by rw [e6130, ew6118] <;> exact (eq32 _ _).mpr (by omega)), (by rw [e6131, ew6119] <;> exact (eq32 _ _).mpr (by omega))⟩⟩, _, rfl, by omega, by omega, by (try rw [e6133]); omega⟩
    · refine WQ_iconst (2) (2) dX3_faultOfNumber_27 rfl rfl (fun v6144 hv6144 => ?_)
      obtain ⟨w6145, ew6145⟩ : ∃ w : Int32, I (ad g 4) 1 = w := ⟨_, rfl⟩
      have bw6145 := BT_get hI.1 4 0 5 (0) (0) (1000) (by decide) 1 (by decide) (by decide)
      rw [ew6145] at bw6145
      exact WP_iret dX3_faultOfNumber_28 rfl ⟨⟨hI, rfl, fr0, frj0, ⟨trivial, rfl, rfl, rfl⟩⟩, _, rfl, by omega, by omega, by (try rw [ew6145]); omega⟩
set_option maxHeartbeats 4000000 in
set_option maxRecDepth 100000 in
theorem sx_part_6_5_2 {g : GG} {n : Int} {L : Int32} (hy : LyX g)  {I : pI} {J : pJ} {R : pR} (hr : RfX g R) (hI : XI g n L I) (pa : Int32) (cz : Int32) (ix : Int32) (pa_lo : 77 ≤ pa.toInt) (pa_hi : pa.toInt ≤ 77) (cz_lo : 5 ≤ cz.toInt) (cz_hi : cz.toInt ≤ 5) (ix_lo : 2 ≤ ix.toInt) (ix_hi : ix.toInt ≤ 2) : SP g mX3_faultOfNumber [.ref (ad g 3), .int pa, .int cz, .int ix, .ref (ad g 6)] I J R (fun r I' J' R' => (XI g n L I' ∧ R' = R ∧ fz 74 g [4] I I' ∧ fz 74 g [] J J' ∧ True ∧ I' (ad g 4) 0 = I (ad g 4) 0 ∧ I' (ad g 4) 1 = I (ad g 4) 1 ∧ I' (ad g 6) 1 = I (ad g 6) 1 ∧ I' (ad g 6) 2 = I (ad g 6) 2) ∧ ∃ v : Int32, r = some (.int v) ∧ 0 ≤ v.toInt ∧ v.toInt ≤ 5 ∧ (v.toInt = 0 → (I' (ad g 4) 2).toInt ≤ 999)) := by
  refine SP_of ⟨by decide, rfl⟩ (Nat.le_of_ble_eq_true rfl) ?_
  have e6146 : I (ad g 1) 1 = L := hI.2
  have b6147 := BT_get hI.1 1 1 2 (0) (0) (900) (by decide) 1 (by decide) (by decide)
  rw [e6146] at b6147
  have fr0 : fz 74 g [4] I I := fz_rf
  have frj0 : fz 74 g [] J J := fz_rf
  obtain ⟨w6148, ew6148⟩ : ∃ w : Int32, I (ad g 4) 0 = w := ⟨_, rfl⟩
  have bw6148 := BT_get hI.1 4 0 5 (0) (0) (1000) (by decide) 0 (by decide) (by decide)
  rw [ew6148] at bw6148
  obtain ⟨w6149, ew6149⟩ : ∃ w : Int32, I (ad g 4) 1 = w := ⟨_, rfl⟩
  have bw6149 := BT_get hI.1 4 0 5 (0) (0) (1000) (by decide) 1 (by decide) (by decide)
  rw [ew6149] at bw6149
  obtain ⟨w6150, ew6150⟩ : ∃ w : Int32, I (ad g 6) 1 = w := ⟨_, rfl⟩
  have bw6150 := BT_get hI.1 6 1 2 (0) (0) (4) (by decide) 1 (by decide) (by decide)
  rw [ew6150] at bw6150
  obtain ⟨w6151, ew6151⟩ : ∃ w : Int32, I (ad g 6) 2 = w := ⟨_, rfl⟩
  have bw6151 := BT_get hI.1 6 2 3 (0) (0) (3) (by decide) 2 (by decide) (by decide)
  rw [ew6151] at bw6151
  refine WP_aload_n dX3_faultOfNumber_0 rfl ?_
  refine WP_getr dX3_faultOfNumber_1 fX3_15 rfl (lyx_is hy 3 3 rfl) (rfx hr 3 2 1 (by decide)) ?_
  refine WQ_getiu dX3_faultOfNumber_4 fX3_118 rfl (lyx_is hy 1 5 rfl) (fun v6152 ev6152 => ?_)
  refine WP_istore (ls' := [(0, _), (1, _), (2, _), (3, _), (4, _), (5, _)]) dX3_faultOfNumber_7 (by decide) rfl ?_
  refine WP_iload dX3_faultOfNumber_9 rfl ?_
  refine WP_iload_n dX3_faultOfNumber_11 rfl ?_
  refine WP_callS1 dX3_faultOfNumber_12 ⟨⟨⟨by decide, by decide⟩, zX3_leastOf⟩, lX3_121, tX3_leastOf⟩ (sx_leastOf hy hr hI pa ) (Nat.le_of_ble_eq_true rfl) ?_
  intro r Ia Ja Ra hq
  obtain ⟨⟨ea, eb, ec⟩, v6153, rfl, av6153, bv6153⟩ := hq
  show WP _ _ _ _ (.int _ :: _) _ _ _ _
  rw [ea, eb, ec]
  clear ea eb ec Ia Ja Ra
  refine WQ_icmp_lt 27 dX3_faultOfNumber_15 rfl (fun c6153 => ?_) (fun c6153 => ?_)
  · refine WQ_iconst (2) (2) dX3_faultOfNumber_27 rfl rfl (fun v6155 hv6155 => ?_)
    obtain ⟨w6156, ew6156⟩ : ∃ w : Int32, I (ad g 4) 2 = w := ⟨_, rfl⟩
    have bw6156 := BT_get hI.1 4 0 5 (0) (0) (1000) (by decide) 2 (by decide) (by decide)
    rw [ew6156] at bw6156
    exact WP_iret dX3_faultOfNumber_28 rfl ⟨⟨hI, rfl, fr0, frj0, ⟨trivial, rfl, rfl, rfl, rfl⟩⟩, _, rfl, by omega, by omega, by (try rw [ew6156]); omega⟩
  · refine WP_iload dX3_faultOfNumber_18 rfl ?_
    refine WP_iload_n dX3_faultOfNumber_20 rfl ?_
    refine WP_callS1 dX3_faultOfNumber_21 ⟨⟨⟨by decide, by decide⟩, zX3_mostOf⟩, lX3_125, tX3_mostOf⟩ (sx_mostOf hy hr hI pa ) (Nat.le_of_ble_eq_true rfl) ?_
    intro r Ia Ja Ra hq
    obtain ⟨⟨ea, eb, ec⟩, v6157, rfl, av6157, bv6157, cv6157⟩ := hq
    show WP _ _ _ _ (.int _ :: _) _ _ _ _
    rw [ea, eb, ec]
    clear ea eb ec Ia Ja Ra
    refine WQ_icmp_le 29 dX3_faultOfNumber_24 rfl (fun c6157 => ?_) (fun c6157 => ?_)
    · refine WP_aload_n dX3_faultOfNumber_29 rfl ?_
      refine WP_getr dX3_faultOfNumber_30 fX3_9 rfl (lyx_is hy 3 3 rfl) (rfx hr 3 3 4 (by decide)) ?_
      refine WP_iload_n dX3_faultOfNumber_33 rfl ?_
      refine WP_iload dX3_faultOfNumber_34 rfl ?_
      refine WQ_iast dX3_faultOfNumber_36 (lyx_is hy 4 13 rfl) (lyx_n hy 4 5 rfl) (by omega) (by omega) (fun I6159 fI6159 => ?_)
      have eI6159 := fI6159
      rw [cl (x := ix) (n := 2) (by omega)] at eI6159
      clear fI6159
      have hI6159 : XI g n L I6159 := by rw [eI6159]; exact (xi_f hy hI (c := 4) (0) (0) (1000) (by decide) (Or.inl (by decide)) (by decide) (by omega) (by omega))
      have e6160 : I6159 (ad g 1) 1 = L := by rw [eI6159, pp_ne _ _ (Or.inl (lyx_ne hy (by decide) (by decide) (by decide)))]; exact e6146
      have e6161 : I6159 (ad g 4) 0 = w6148 := by rw [eI6159, pp_ne _ _ (Or.inr (by decide))]; exact ew6148
      have e6162 : I6159 (ad g 4) 1 = w6149 := by rw [eI6159, pp_ne _ _ (Or.inr (by decide))]; exact ew6149
      have e6163 : I6159 (ad g 6) 1 = w6150 := by rw [eI6159, pp_ne _ _ (Or.inl (lyx_ne hy (by decide) (by decide) (by decide)))]; exact ew6150
      have e6164 : I6159 (ad g 6) 2 = w6151 := by rw [eI6159, pp_ne _ _ (Or.inl (lyx_ne hy (by decide) (by decide) (by decide)))]; exact ew6151
      have e6165 : I6159 (ad g 1) 4 = v6152 := by rw [eI6159, pp_ne _ _ (Or.inl (lyx_ne hy (by decide) (by decide) (by decide)))]; exact ev6152
      have e6166 : I6159 (ad g 4) 2 = v6152 := by rw [eI6159, pp_self]
      have fr6167 : fz 74 g [4] I I6159 := by rw [eI6159]; exact fzx_pp hy fr0 (by decide) (by decide)
      clear eI6159
      refine WP_iload_n dX3_faultOfNumber_37 rfl ?_
      refine WQ_bipush (68) (68) dX3_faultOfNumber_38 rfl rfl (fun v6168 hv6168 => ?_)
      refine WQ_icmp_eq 45 dX3_faultOfNumber_40 rfl (fun c6168 => False.elim (by omega)) (fun c6168 => ?_)
      refine WQ_iconst (0) (0) dX3_faultOfNumber_43 rfl rfl (fun v6170 hv6170 => ?_)
      exact WP_iret dX3_faultOfNumber_44 rfl ⟨⟨hI6159, rfl, fr6167, frj0, ⟨trivial, (by rw [e6161, ew6148] <;> exact (eq32 _ _).mpr (by omega)), (by rw [e6162, ew6149] <;> exact (eq32 _ _).mpr (by omega)), (by rw [e6163, ew6150] <;> exact (eq32 _ _).mpr (by omega)), (by rw [e6164, ew6151] <;> exact (eq32 _ _).mpr (by omega))⟩⟩, _, rfl, by omega, by omega, by (try rw [e6166]); omega⟩
    · refine WQ_iconst (2) (2) dX3_faultOfNumber_27 rfl rfl (fun v6171 hv6171 => ?_)
      obtain ⟨w6172, ew6172⟩ : ∃ w : Int32, I (ad g 4) 2 = w := ⟨_, rfl⟩
      have bw6172 := BT_get hI.1 4 0 5 (0) (0) (1000) (by decide) 2 (by decide) (by decide)
      rw [ew6172] at bw6172
      exact WP_iret dX3_faultOfNumber_28 rfl ⟨⟨hI, rfl, fr0, frj0, ⟨trivial, rfl, rfl, rfl, rfl⟩⟩, _, rfl, by omega, by omega, by (try rw [ew6172]); omega⟩
set_option maxHeartbeats 4000000 in
set_option maxRecDepth 100000 in
theorem sx_part_6_6_0 {g : GG} {n : Int} {L : Int32} (hy : LyX g)  {I : pI} {J : pJ} {R : pR} (hr : RfX g R) (hI : XI g n L I) (pa : Int32) (cz : Int32) (ix : Int32) (pa_lo : 115 ≤ pa.toInt) (pa_hi : pa.toInt ≤ 115) (cz_lo : 6 ≤ cz.toInt) (cz_hi : cz.toInt ≤ 6) (ix_lo : 0 ≤ ix.toInt) (ix_hi : ix.toInt ≤ 0) : SP g mX3_faultOfName [.ref (ad g 3), .int pa, .int cz, .int ix, .ref (ad g 6)] I J R (fun r I' J' R' => (XI g n L I' ∧ R' = R ∧ fz 74 g [4] I I' ∧ fz 74 g [] J J' ∧ True ∧ I' (ad g 6) 1 = I (ad g 6) 1 ∧ I' (ad g 6) 2 = I (ad g 6) 2) ∧ ∃ v : Int32, r = some (.int v) ∧ 0 ≤ v.toInt ∧ v.toInt ≤ 5 ∧ (v.toInt = 0 → (I' (ad g 4) 0).toInt ≤ 3)) := by
  refine SP_of ⟨by decide, rfl⟩ (Nat.le_of_ble_eq_true rfl) ?_
  have e6173 : I (ad g 1) 1 = L := hI.2
  have b6174 := BT_get hI.1 1 1 2 (0) (0) (900) (by decide) 1 (by decide) (by decide)
  rw [e6173] at b6174
  have fr0 : fz 74 g [4] I I := fz_rf
  have frj0 : fz 74 g [] J J := fz_rf
  obtain ⟨w6175, ew6175⟩ : ∃ w : Int32, I (ad g 6) 1 = w := ⟨_, rfl⟩
  have bw6175 := BT_get hI.1 6 1 2 (0) (0) (4) (by decide) 1 (by decide) (by decide)
  rw [ew6175] at bw6175
  obtain ⟨w6176, ew6176⟩ : ∃ w : Int32, I (ad g 6) 2 = w := ⟨_, rfl⟩
  have bw6176 := BT_get hI.1 6 2 3 (0) (0) (3) (by decide) 2 (by decide) (by decide)
  rw [ew6176] at bw6176
  refine WP_iload_n dX3_faultOfName_0 rfl ?_
  refine WQ_bipush (115) (115) dX3_faultOfName_1 rfl rfl (fun v6177 hv6177 => ?_)
  refine WQ_icmp_eq 12 dX3_faultOfName_3 rfl (fun c6177 => ?_) (fun c6177 => False.elim (by omega))
  refine WQ_iconst (1) (1) dX3_faultOfName_12 rfl rfl (fun v6179 hv6179 => ?_)
  refine WP_goto 17 dX3_faultOfName_13 rfl ?_
  refine WP_istore (ls' := [(0, _), (1, _), (2, _), (3, _), (4, _), (5, _)]) dX3_faultOfName_17 (by decide) rfl ?_
  refine WP_iload dX3_faultOfName_19 rfl ?_
  refine WQ_if_eq 39 dX3_faultOfName_21 rfl (fun c6179 => False.elim (by omega)) (fun c6179 => ?_)
  refine WP_aload dX3_faultOfName_24 rfl ?_
  refine WP_aload_n dX3_faultOfName_26 rfl ?_
  refine WP_getr dX3_faultOfName_27 fX3_15 rfl (lyx_is hy 3 3 rfl) (rfx hr 3 2 1 (by decide)) ?_
  refine WQ_getl dX3_faultOfName_30 fX3_80 rfl (lyx_is hy 1 5 rfl) (fun l6181 el6181 => ?_)
  refine WP_callV1 (k := 7) dX3_faultOfName_33 ⟨⟨⟨by decide, by decide⟩, zX7_sortNamed⟩, lX3_103, by decide, rfl, vX7_sortNamed.1, vX7_sortNamed.2⟩ (lyx_is hy 6 7 rfl) (sx_sortNamed_6 hy hr hI l6181 ) (Nat.le_of_ble_eq_true rfl) ?_
  intro r Ia Ja Ra hq
  obtain ⟨⟨ea, eb, ec⟩, v6182, rfl, av6182, bv6182⟩ := hq
  show WP _ _ _ _ (.int _ :: _) _ _ _ _
  rw [ea, eb, ec]
  clear ea eb ec Ia Ja Ra
  refine WP_goto 51 dX3_faultOfName_36 rfl ?_
  refine WP_istore (ls' := [(0, _), (1, _), (2, _), (3, _), (4, _), (5, _), (6, _)]) dX3_faultOfName_51 (by decide) rfl ?_
  refine WP_iload_n dX3_faultOfName_53 rfl ?_
  refine WQ_bipush (110) (110) dX3_faultOfName_54 rfl rfl (fun v6183 hv6183 => ?_)
  refine WQ_icmp_eq 65 dX3_faultOfName_56 rfl (fun c6183 => False.elim (by omega)) (fun c6183 => ?_)
  refine WP_iload_n dX3_faultOfName_59 rfl ?_
  refine WQ_bipush (109) (109) dX3_faultOfName_60 rfl rfl (fun v6185 hv6185 => ?_)
  refine WQ_icmp_ne 98 dX3_faultOfName_62 rfl (fun c6185 => ?_) (fun c6185 => False.elim (by omega))
  refine WP_iload dX3_faultOfName_98 rfl ?_
  refine WQ_iconst (-1) (-1) dX3_faultOfName_100 rfl rfl (fun v6187 hv6187 => ?_)
  refine WQ_icmp_ne 106 dX3_faultOfName_101 rfl (fun c6187 => ?_) (fun c6187 => ?_)
  · refine WP_aload_n dX3_faultOfName_106 rfl ?_
    refine WP_getr dX3_faultOfName_107 fX3_9 rfl (lyx_is hy 3 3 rfl) (rfx hr 3 3 4 (by decide)) ?_
    refine WP_iload_n dX3_faultOfName_110 rfl ?_
    refine WP_iload dX3_faultOfName_111 rfl ?_
    refine WQ_iast dX3_faultOfName_113 (lyx_is hy 4 13 rfl) (lyx_n hy 4 5 rfl) (by omega) (by omega) (fun I6189 fI6189 => ?_)
    have eI6189 := fI6189
    rw [cl (x := ix) (n := 0) (by omega)] at eI6189
    clear fI6189
    have hI6189 : XI g n L I6189 := by rw [eI6189]; exact (xi_f hy hI (c := 4) (0) (0) (1000) (by decide) (Or.inl (by decide)) (by decide) (by omega) (by omega))
    have e6190 : I6189 (ad g 1) 1 = L := by rw [eI6189, pp_ne _ _ (Or.inl (lyx_ne hy (by decide) (by decide) (by decide)))]; exact e6173
    have e6191 : I6189 (ad g 6) 1 = w6175 := by rw [eI6189, pp_ne _ _ (Or.inl (lyx_ne hy (by decide) (by decide) (by decide)))]; exact ew6175
    have e6192 : I6189 (ad g 6) 2 = w6176 := by rw [eI6189, pp_ne _ _ (Or.inl (lyx_ne hy (by decide) (by decide) (by decide)))]; exact ew6176
    have e6193 : I6189 (ad g 4) 0 = v6182 := by rw [eI6189, pp_self]
    have fr6194 : fz 74 g [4] I I6189 := by rw [eI6189]; exact fzx_pp hy fr0 (by decide) (by decide)
    clear eI6189
    refine WP_iload_n dX3_faultOfName_114 rfl ?_
    refine WQ_bipush (7) (7) dX3_faultOfName_115 rfl rfl (fun v6195 hv6195 => ?_)
    refine WQ_icmp_ne 137 dX3_faultOfName_117 rfl (fun c6195 => ?_) (fun c6195 => False.elim (by omega))
    refine WQ_iconst (0) (0) dX3_faultOfName_137 rfl rfl (fun v6197 hv6197 => ?_)
    exact WP_iret dX3_faultOfName_138 rfl ⟨⟨hI6189, rfl, fr6194, frj0, ⟨trivial, (by rw [e6191, ew6175] <;> exact (eq32 _ _).mpr (by omega)), (by rw [e6192, ew6176] <;> exact (eq32 _ _).mpr (by omega))⟩⟩, _, rfl, by omega, by omega, by (try rw [e6193]); omega⟩
  · refine WQ_iconst (5) (5) dX3_faultOfName_104 rfl rfl (fun v6198 hv6198 => ?_)
    obtain ⟨w6199, ew6199⟩ : ∃ w : Int32, I (ad g 4) 0 = w := ⟨_, rfl⟩
    have bw6199 := BT_get hI.1 4 0 5 (0) (0) (1000) (by decide) 0 (by decide) (by decide)
    rw [ew6199] at bw6199
    exact WP_iret dX3_faultOfName_105 rfl ⟨⟨hI, rfl, fr0, frj0, ⟨trivial, rfl, rfl⟩⟩, _, rfl, by omega, by omega, by (try rw [ew6199]); omega⟩
set_option maxHeartbeats 4000000 in
set_option maxRecDepth 100000 in
theorem sx_part_6_6_1 {g : GG} {n : Int} {L : Int32} (hy : LyX g)  {I : pI} {J : pJ} {R : pR} (hr : RfX g R) (hI : XI g n L I) (pa : Int32) (cz : Int32) (ix : Int32) (pa_lo : 116 ≤ pa.toInt) (pa_hi : pa.toInt ≤ 116) (cz_lo : 6 ≤ cz.toInt) (cz_hi : cz.toInt ≤ 6) (ix_lo : 1 ≤ ix.toInt) (ix_hi : ix.toInt ≤ 1) : SP g mX3_faultOfName [.ref (ad g 3), .int pa, .int cz, .int ix, .ref (ad g 6)] I J R (fun r I' J' R' => (XI g n L I' ∧ R' = R ∧ fz 74 g [4] I I' ∧ fz 74 g [] J J' ∧ True ∧ I' (ad g 4) 0 = I (ad g 4) 0 ∧ I' (ad g 6) 1 = I (ad g 6) 1 ∧ I' (ad g 6) 2 = I (ad g 6) 2) ∧ ∃ v : Int32, r = some (.int v) ∧ 0 ≤ v.toInt ∧ v.toInt ≤ 5 ∧ (v.toInt = 0 → (I' (ad g 4) 1).toInt ≤ 2)) := by
  refine SP_of ⟨by decide, rfl⟩ (Nat.le_of_ble_eq_true rfl) ?_
  have e6200 : I (ad g 1) 1 = L := hI.2
  have b6201 := BT_get hI.1 1 1 2 (0) (0) (900) (by decide) 1 (by decide) (by decide)
  rw [e6200] at b6201
  have fr0 : fz 74 g [4] I I := fz_rf
  have frj0 : fz 74 g [] J J := fz_rf
  obtain ⟨w6202, ew6202⟩ : ∃ w : Int32, I (ad g 4) 0 = w := ⟨_, rfl⟩
  have bw6202 := BT_get hI.1 4 0 5 (0) (0) (1000) (by decide) 0 (by decide) (by decide)
  rw [ew6202] at bw6202
  obtain ⟨w6203, ew6203⟩ : ∃ w : Int32, I (ad g 6) 1 = w := ⟨_, rfl⟩
  have bw6203 := BT_get hI.1 6 1 2 (0) (0) (4) (by decide) 1 (by decide) (by decide)
  rw [ew6203] at bw6203
  obtain ⟨w6204, ew6204⟩ : ∃ w : Int32, I (ad g 6) 2 = w := ⟨_, rfl⟩
  have bw6204 := BT_get hI.1 6 2 3 (0) (0) (3) (by decide) 2 (by decide) (by decide)
  rw [ew6204] at bw6204
  refine WP_iload_n dX3_faultOfName_0 rfl ?_
  refine WQ_bipush (115) (115) dX3_faultOfName_1 rfl rfl (fun v6205 hv6205 => ?_)
  refine WQ_icmp_eq 12 dX3_faultOfName_3 rfl (fun c6205 => False.elim (by omega)) (fun c6205 => ?_)
  refine WP_iload_n dX3_faultOfName_6 rfl ?_
  refine WQ_bipush (110) (110) dX3_faultOfName_7 rfl rfl (fun v6207 hv6207 => ?_)
  refine WQ_icmp_ne 16 dX3_faultOfName_9 rfl (fun c6207 => ?_) (fun c6207 => False.elim (by omega))
  refine WQ_iconst (0) (0) dX3_faultOfName_16 rfl rfl (fun v6209 hv6209 => ?_)
  refine WP_istore (ls' := [(0, _), (1, _), (2, _), (3, _), (4, _), (5, _)]) dX3_faultOfName_17 (by decide) rfl ?_
  refine WP_iload dX3_faultOfName_19 rfl ?_
  refine WQ_if_eq 39 dX3_faultOfName_21 rfl (fun c6209 => ?_) (fun c6209 => False.elim (by omega))
  refine WP_aload dX3_faultOfName_39 rfl ?_
  refine WP_aload_n dX3_faultOfName_41 rfl ?_
  refine WP_getr dX3_faultOfName_42 fX3_15 rfl (lyx_is hy 3 3 rfl) (rfx hr 3 2 1 (by decide)) ?_
  refine WQ_getl dX3_faultOfName_45 fX3_80 rfl (lyx_is hy 1 5 rfl) (fun l6211 el6211 => ?_)
  refine WP_callV1 (k := 7) dX3_faultOfName_48 ⟨⟨⟨by decide, by decide⟩, zX7_thingNamed⟩, lX3_107, by decide, rfl, vX7_thingNamed.1, vX7_thingNamed.2⟩ (lyx_is hy 6 7 rfl) (sx_thingNamed_6 hy hr hI l6211 ) (Nat.le_of_ble_eq_true rfl) ?_
  intro r Ia Ja Ra hq
  obtain ⟨⟨ea, eb, ec⟩, v6212, rfl, av6212, bv6212⟩ := hq
  show WP _ _ _ _ (.int _ :: _) _ _ _ _
  rw [ea, eb, ec]
  clear ea eb ec Ia Ja Ra
  refine WP_istore (ls' := [(0, _), (1, _), (2, _), (3, _), (4, _), (5, _), (6, _)]) dX3_faultOfName_51 (by decide) rfl ?_
  refine WP_iload_n dX3_faultOfName_53 rfl ?_
  refine WQ_bipush (110) (110) dX3_faultOfName_54 rfl rfl (fun v6213 hv6213 => ?_)
  refine WQ_icmp_eq 65 dX3_faultOfName_56 rfl (fun c6213 => False.elim (by omega)) (fun c6213 => ?_)
  refine WP_iload_n dX3_faultOfName_59 rfl ?_
  refine WQ_bipush (109) (109) dX3_faultOfName_60 rfl rfl (fun v6215 hv6215 => ?_)
  refine WQ_icmp_ne 98 dX3_faultOfName_62 rfl (fun c6215 => ?_) (fun c6215 => False.elim (by omega))
  refine WP_iload dX3_faultOfName_98 rfl ?_
  refine WQ_iconst (-1) (-1) dX3_faultOfName_100 rfl rfl (fun v6217 hv6217 => ?_)
  refine WQ_icmp_ne 106 dX3_faultOfName_101 rfl (fun c6217 => ?_) (fun c6217 => ?_)
  · refine WP_aload_n dX3_faultOfName_106 rfl ?_
    refine WP_getr dX3_faultOfName_107 fX3_9 rfl (lyx_is hy 3 3 rfl) (rfx hr 3 3 4 (by decide)) ?_
    refine WP_iload_n dX3_faultOfName_110 rfl ?_
    refine WP_iload dX3_faultOfName_111 rfl ?_
    refine WQ_iast dX3_faultOfName_113 (lyx_is hy 4 13 rfl) (lyx_n hy 4 5 rfl) (by omega) (by omega) (fun I6219 fI6219 => ?_)
    have eI6219 := fI6219
    rw [cl (x := ix) (n := 1) (by omega)] at eI6219
    clear fI6219
    have hI6219 : XI g n L I6219 := by rw [eI6219]; exact (xi_f hy hI (c := 4) (0) (0) (1000) (by decide) (Or.inl (by decide)) (by decide) (by omega) (by omega))
    have e6220 : I6219 (ad g 1) 1 = L := by rw [eI6219, pp_ne _ _ (Or.inl (lyx_ne hy (by decide) (by decide) (by decide)))]; exact e6200
    have e6221 : I6219 (ad g 4) 0 = w6202 := by rw [eI6219, pp_ne _ _ (Or.inr (by decide))]; exact ew6202
    have e6222 : I6219 (ad g 6) 1 = w6203 := by rw [eI6219, pp_ne _ _ (Or.inl (lyx_ne hy (by decide) (by decide) (by decide)))]; exact ew6203
    have e6223 : I6219 (ad g 6) 2 = w6204 := by rw [eI6219, pp_ne _ _ (Or.inl (lyx_ne hy (by decide) (by decide) (by decide)))]; exact ew6204
    have e6224 : I6219 (ad g 4) 1 = v6212 := by rw [eI6219, pp_self]
    have fr6225 : fz 74 g [4] I I6219 := by rw [eI6219]; exact fzx_pp hy fr0 (by decide) (by decide)
    clear eI6219
    refine WP_iload_n dX3_faultOfName_114 rfl ?_
    refine WQ_bipush (7) (7) dX3_faultOfName_115 rfl rfl (fun v6226 hv6226 => ?_)
    refine WQ_icmp_ne 137 dX3_faultOfName_117 rfl (fun c6226 => ?_) (fun c6226 => False.elim (by omega))
    refine WQ_iconst (0) (0) dX3_faultOfName_137 rfl rfl (fun v6228 hv6228 => ?_)
    exact WP_iret dX3_faultOfName_138 rfl ⟨⟨hI6219, rfl, fr6225, frj0, ⟨trivial, (by rw [e6221, ew6202] <;> exact (eq32 _ _).mpr (by omega)), (by rw [e6222, ew6203] <;> exact (eq32 _ _).mpr (by omega)), (by rw [e6223, ew6204] <;> exact (eq32 _ _).mpr (by omega))⟩⟩, _, rfl, by omega, by omega, by (try rw [e6224]); omega⟩
  · refine WQ_iconst (5) (5) dX3_faultOfName_104 rfl rfl (fun v6229 hv6229 => ?_)
    obtain ⟨w6230, ew6230⟩ : ∃ w : Int32, I (ad g 4) 1 = w := ⟨_, rfl⟩
    have bw6230 := BT_get hI.1 4 0 5 (0) (0) (1000) (by decide) 1 (by decide) (by decide)
    rw [ew6230] at bw6230
    exact WP_iret dX3_faultOfName_105 rfl ⟨⟨hI, rfl, fr0, frj0, ⟨trivial, rfl, rfl, rfl⟩⟩, _, rfl, by omega, by omega, by (try rw [ew6230]); omega⟩
set_option maxHeartbeats 4000000 in
set_option maxRecDepth 100000 in
theorem sx_part_6_6_2 {g : GG} {n : Int} {L : Int32} (hy : LyX g)  {I : pI} {J : pJ} {R : pR} (hr : RfX g R) (hI : XI g n L I) (pa : Int32) (cz : Int32) (ix : Int32) (pa_lo : 68 ≤ pa.toInt) (pa_hi : pa.toInt ≤ 68) (cz_lo : 6 ≤ cz.toInt) (cz_hi : cz.toInt ≤ 6) (ix_lo : 2 ≤ ix.toInt) (ix_hi : ix.toInt ≤ 2) (hb : (I (ad g 4) 0).toInt ≤ 3) : SP g mX3_faultOfNumber [.ref (ad g 3), .int pa, .int cz, .int ix, .ref (ad g 6)] I J R (fun r I' J' R' => (XI g n L I' ∧ R' = R ∧ fz 74 g [4] I I' ∧ fz 74 g [] J J' ∧ True ∧ I' (ad g 4) 0 = I (ad g 4) 0 ∧ I' (ad g 4) 1 = I (ad g 4) 1 ∧ I' (ad g 6) 1 = I (ad g 6) 1 ∧ I' (ad g 6) 2 = I (ad g 6) 2) ∧ ∃ v : Int32, r = some (.int v) ∧ 0 ≤ v.toInt ∧ v.toInt ≤ 5 ∧ (v.toInt = 0 → (I' (ad g 4) 2).toInt ≤ 6)) := by
  refine SP_of ⟨by decide, rfl⟩ (Nat.le_of_ble_eq_true rfl) ?_
  have e6231 : I (ad g 1) 1 = L := hI.2
  have b6232 := BT_get hI.1 1 1 2 (0) (0) (900) (by decide) 1 (by decide) (by decide)
  rw [e6231] at b6232
  have fr0 : fz 74 g [4] I I := fz_rf
  have frj0 : fz 74 g [] J J := fz_rf
  obtain ⟨w6233, ew6233⟩ : ∃ w : Int32, I (ad g 4) 0 = w := ⟨_, rfl⟩
  have bw6233 := BT_get hI.1 4 0 5 (0) (0) (1000) (by decide) 0 (by decide) (by decide)
  rw [ew6233] at bw6233
  obtain ⟨w6234, ew6234⟩ : ∃ w : Int32, I (ad g 4) 1 = w := ⟨_, rfl⟩
  have bw6234 := BT_get hI.1 4 0 5 (0) (0) (1000) (by decide) 1 (by decide) (by decide)
  rw [ew6234] at bw6234
  obtain ⟨w6235, ew6235⟩ : ∃ w : Int32, I (ad g 6) 1 = w := ⟨_, rfl⟩
  have bw6235 := BT_get hI.1 6 1 2 (0) (0) (4) (by decide) 1 (by decide) (by decide)
  rw [ew6235] at bw6235
  obtain ⟨w6236, ew6236⟩ : ∃ w : Int32, I (ad g 6) 2 = w := ⟨_, rfl⟩
  have bw6236 := BT_get hI.1 6 2 3 (0) (0) (3) (by decide) 2 (by decide) (by decide)
  rw [ew6236] at bw6236
  rw [ew6233] at hb
  refine WP_aload_n dX3_faultOfNumber_0 rfl ?_
  refine WP_getr dX3_faultOfNumber_1 fX3_15 rfl (lyx_is hy 3 3 rfl) (rfx hr 3 2 1 (by decide)) ?_
  refine WQ_getiu dX3_faultOfNumber_4 fX3_118 rfl (lyx_is hy 1 5 rfl) (fun v6237 ev6237 => ?_)
  refine WP_istore (ls' := [(0, _), (1, _), (2, _), (3, _), (4, _), (5, _)]) dX3_faultOfNumber_7 (by decide) rfl ?_
  refine WP_iload dX3_faultOfNumber_9 rfl ?_
  refine WP_iload_n dX3_faultOfNumber_11 rfl ?_
  refine WP_callS1 dX3_faultOfNumber_12 ⟨⟨⟨by decide, by decide⟩, zX3_leastOf⟩, lX3_121, tX3_leastOf⟩ (sx_leastOf hy hr hI pa ) (Nat.le_of_ble_eq_true rfl) ?_
  intro r Ia Ja Ra hq
  obtain ⟨⟨ea, eb, ec⟩, v6238, rfl, av6238, bv6238⟩ := hq
  show WP _ _ _ _ (.int _ :: _) _ _ _ _
  rw [ea, eb, ec]
  clear ea eb ec Ia Ja Ra
  refine WQ_icmp_lt 27 dX3_faultOfNumber_15 rfl (fun c6238 => ?_) (fun c6238 => ?_)
  · refine WQ_iconst (2) (2) dX3_faultOfNumber_27 rfl rfl (fun v6240 hv6240 => ?_)
    obtain ⟨w6241, ew6241⟩ : ∃ w : Int32, I (ad g 4) 2 = w := ⟨_, rfl⟩
    have bw6241 := BT_get hI.1 4 0 5 (0) (0) (1000) (by decide) 2 (by decide) (by decide)
    rw [ew6241] at bw6241
    exact WP_iret dX3_faultOfNumber_28 rfl ⟨⟨hI, rfl, fr0, frj0, ⟨trivial, rfl, rfl, rfl, rfl⟩⟩, _, rfl, by omega, by omega, by (try rw [ew6241]); omega⟩
  · refine WP_iload dX3_faultOfNumber_18 rfl ?_
    refine WP_iload_n dX3_faultOfNumber_20 rfl ?_
    refine WP_callS1 dX3_faultOfNumber_21 ⟨⟨⟨by decide, by decide⟩, zX3_mostOf⟩, lX3_125, tX3_mostOf⟩ (sx_mostOf hy hr hI pa ) (Nat.le_of_ble_eq_true rfl) ?_
    intro r Ia Ja Ra hq
    obtain ⟨⟨ea, eb, ec⟩, v6242, rfl, av6242, bv6242, cv6242⟩ := hq
    show WP _ _ _ _ (.int _ :: _) _ _ _ _
    rw [ea, eb, ec]
    clear ea eb ec Ia Ja Ra
    refine WQ_icmp_le 29 dX3_faultOfNumber_24 rfl (fun c6242 => ?_) (fun c6242 => ?_)
    · refine WP_aload_n dX3_faultOfNumber_29 rfl ?_
      refine WP_getr dX3_faultOfNumber_30 fX3_9 rfl (lyx_is hy 3 3 rfl) (rfx hr 3 3 4 (by decide)) ?_
      refine WP_iload_n dX3_faultOfNumber_33 rfl ?_
      refine WP_iload dX3_faultOfNumber_34 rfl ?_
      refine WQ_iast dX3_faultOfNumber_36 (lyx_is hy 4 13 rfl) (lyx_n hy 4 5 rfl) (by omega) (by omega) (fun I6244 fI6244 => ?_)
      have eI6244 := fI6244
      rw [cl (x := ix) (n := 2) (by omega)] at eI6244
      clear fI6244
      have hI6244 : XI g n L I6244 := by rw [eI6244]; exact (xi_f hy hI (c := 4) (0) (0) (1000) (by decide) (Or.inl (by decide)) (by decide) (by omega) (by omega))
      have e6245 : I6244 (ad g 1) 1 = L := by rw [eI6244, pp_ne _ _ (Or.inl (lyx_ne hy (by decide) (by decide) (by decide)))]; exact e6231
      have e6246 : I6244 (ad g 4) 0 = w6233 := by rw [eI6244, pp_ne _ _ (Or.inr (by decide))]; exact ew6233
      have e6247 : I6244 (ad g 4) 1 = w6234 := by rw [eI6244, pp_ne _ _ (Or.inr (by decide))]; exact ew6234
      have e6248 : I6244 (ad g 6) 1 = w6235 := by rw [eI6244, pp_ne _ _ (Or.inl (lyx_ne hy (by decide) (by decide) (by decide)))]; exact ew6235
      have e6249 : I6244 (ad g 6) 2 = w6236 := by rw [eI6244, pp_ne _ _ (Or.inl (lyx_ne hy (by decide) (by decide) (by decide)))]; exact ew6236
      have e6250 : I6244 (ad g 1) 4 = v6237 := by rw [eI6244, pp_ne _ _ (Or.inl (lyx_ne hy (by decide) (by decide) (by decide)))]; exact ev6237
      have e6251 : I6244 (ad g 4) 2 = v6237 := by rw [eI6244, pp_self]
      have fr6252 : fz 74 g [4] I I6244 := by rw [eI6244]; exact fzx_pp hy fr0 (by decide) (by decide)
      clear eI6244
      refine WP_iload_n dX3_faultOfNumber_37 rfl ?_
      refine WQ_bipush (68) (68) dX3_faultOfNumber_38 rfl rfl (fun v6253 hv6253 => ?_)
      refine WQ_icmp_eq 45 dX3_faultOfNumber_40 rfl (fun c6253 => ?_) (fun c6253 => False.elim (by omega))
      refine WP_aload dX3_faultOfNumber_45 rfl ?_
      refine WP_iload_n dX3_faultOfNumber_47 rfl ?_
      refine WP_iload_n dX3_faultOfNumber_48 rfl ?_
      refine WQ_if_ne 56 dX3_faultOfNumber_49 rfl (fun c6254 => ?_) (fun c6254 => False.elim (by omega))
      refine WP_aload_n dX3_faultOfNumber_56 rfl ?_
      refine WP_getr dX3_faultOfNumber_57 fX3_9 rfl (lyx_is hy 3 3 rfl) (rfx hr 3 3 4 (by decide)) ?_
      refine WQ_iconst (0) (0) dX3_faultOfNumber_60 rfl rfl (fun v6256 hv6256 => ?_)
      refine WQ_ialdm (z := 0) dX3_faultOfNumber_61 (lyx_is hy 4 13 rfl) (lyx_n hy 4 5 rfl) hv6256 (by decide) e6246 ?_
      refine WP_iload dX3_faultOfNumber_62 rfl ?_
      refine WP_callV3 (k := 7) dX3_faultOfNumber_64 ⟨⟨⟨by decide, by decide⟩, zX7_isTold⟩, lX3_114, by decide, rfl, vX7_isTold.1, vX7_isTold.2⟩ (lyx_is hy 6 7 rfl) (sx_isTold_6 hy hr hI6244 cz w6233 v6237 (by omega) (by omega) (by omega) (by omega) ) (Nat.le_of_ble_eq_true rfl) ?_
      intro r Ia Ja Ra hq
      obtain ⟨⟨ea, eb, ec⟩, v6258, rfl, av6258, bv6258⟩ := hq
      show WP _ _ _ _ (.int _ :: _) _ _ _ _
      rw [ea, eb, ec]
      clear ea eb ec Ia Ja Ra
      refine WQ_if_eq 74 dX3_faultOfNumber_67 rfl (fun c6258 => ?_) (fun c6258 => ?_)
      · refine WQ_iconst (0) (0) dX3_faultOfNumber_74 rfl rfl (fun v6260 hv6260 => ?_)
        exact WP_iret dX3_faultOfNumber_75 rfl ⟨⟨hI6244, rfl, fr6252, frj0, ⟨trivial, (by rw [e6246, ew6233] <;> exact (eq32 _ _).mpr (by omega)), (by rw [e6247, ew6234] <;> exact (eq32 _ _).mpr (by omega)), (by rw [e6248, ew6235] <;> exact (eq32 _ _).mpr (by omega)), (by rw [e6249, ew6236] <;> exact (eq32 _ _).mpr (by omega))⟩⟩, _, rfl, by omega, by omega, by (try rw [e6251]); omega⟩
      · refine WQ_iconst (3) (3) dX3_faultOfNumber_70 rfl rfl (fun v6261 hv6261 => ?_)
        refine WP_goto 75 dX3_faultOfNumber_71 rfl ?_
        exact WP_iret dX3_faultOfNumber_75 rfl ⟨⟨hI6244, rfl, fr6252, frj0, ⟨trivial, (by rw [e6246, ew6233] <;> exact (eq32 _ _).mpr (by omega)), (by rw [e6247, ew6234] <;> exact (eq32 _ _).mpr (by omega)), (by rw [e6248, ew6235] <;> exact (eq32 _ _).mpr (by omega)), (by rw [e6249, ew6236] <;> exact (eq32 _ _).mpr (by omega))⟩⟩, _, rfl, by omega, by omega, by (try rw [e6251]); omega⟩
    · refine WQ_iconst (2) (2) dX3_faultOfNumber_27 rfl rfl (fun v6262 hv6262 => ?_)
      obtain ⟨w6263, ew6263⟩ : ∃ w : Int32, I (ad g 4) 2 = w := ⟨_, rfl⟩
      have bw6263 := BT_get hI.1 4 0 5 (0) (0) (1000) (by decide) 2 (by decide) (by decide)
      rw [ew6263] at bw6263
      exact WP_iret dX3_faultOfNumber_28 rfl ⟨⟨hI, rfl, fr0, frj0, ⟨trivial, rfl, rfl, rfl, rfl⟩⟩, _, rfl, by omega, by omega, by (try rw [ew6263]); omega⟩
set_option maxHeartbeats 4000000 in
set_option maxRecDepth 100000 in
theorem sx_part_6_6_3 {g : GG} {n : Int} {L : Int32} (hy : LyX g)  {I : pI} {J : pJ} {R : pR} (hr : RfX g R) (hI : XI g n L I) (pa : Int32) (cz : Int32) (ix : Int32) (pa_lo : 85 ≤ pa.toInt) (pa_hi : pa.toInt ≤ 85) (cz_lo : 6 ≤ cz.toInt) (cz_hi : cz.toInt ≤ 6) (ix_lo : 3 ≤ ix.toInt) (ix_hi : ix.toInt ≤ 3) : SP g mX3_faultOfNumber [.ref (ad g 3), .int pa, .int cz, .int ix, .ref (ad g 6)] I J R (fun r I' J' R' => (XI g n L I' ∧ R' = R ∧ fz 74 g [4] I I' ∧ fz 74 g [] J J' ∧ True ∧ I' (ad g 4) 0 = I (ad g 4) 0 ∧ I' (ad g 4) 1 = I (ad g 4) 1 ∧ I' (ad g 4) 2 = I (ad g 4) 2 ∧ I' (ad g 6) 1 = I (ad g 6) 1 ∧ I' (ad g 6) 2 = I (ad g 6) 2) ∧ ∃ v : Int32, r = some (.int v) ∧ 0 ≤ v.toInt ∧ v.toInt ≤ 5 ∧ (v.toInt = 0 → (I' (ad g 4) 3).toInt ≤ 3)) := by
  refine SP_of ⟨by decide, rfl⟩ (Nat.le_of_ble_eq_true rfl) ?_
  have e6264 : I (ad g 1) 1 = L := hI.2
  have b6265 := BT_get hI.1 1 1 2 (0) (0) (900) (by decide) 1 (by decide) (by decide)
  rw [e6264] at b6265
  have fr0 : fz 74 g [4] I I := fz_rf
  have frj0 : fz 74 g [] J J := fz_rf
  obtain ⟨w6266, ew6266⟩ : ∃ w : Int32, I (ad g 4) 0 = w := ⟨_, rfl⟩
  have bw6266 := BT_get hI.1 4 0 5 (0) (0) (1000) (by decide) 0 (by decide) (by decide)
  rw [ew6266] at bw6266
  obtain ⟨w6267, ew6267⟩ : ∃ w : Int32, I (ad g 4) 1 = w := ⟨_, rfl⟩
  have bw6267 := BT_get hI.1 4 0 5 (0) (0) (1000) (by decide) 1 (by decide) (by decide)
  rw [ew6267] at bw6267
  obtain ⟨w6268, ew6268⟩ : ∃ w : Int32, I (ad g 4) 2 = w := ⟨_, rfl⟩
  have bw6268 := BT_get hI.1 4 0 5 (0) (0) (1000) (by decide) 2 (by decide) (by decide)
  rw [ew6268] at bw6268
  obtain ⟨w6269, ew6269⟩ : ∃ w : Int32, I (ad g 6) 1 = w := ⟨_, rfl⟩
  have bw6269 := BT_get hI.1 6 1 2 (0) (0) (4) (by decide) 1 (by decide) (by decide)
  rw [ew6269] at bw6269
  obtain ⟨w6270, ew6270⟩ : ∃ w : Int32, I (ad g 6) 2 = w := ⟨_, rfl⟩
  have bw6270 := BT_get hI.1 6 2 3 (0) (0) (3) (by decide) 2 (by decide) (by decide)
  rw [ew6270] at bw6270
  refine WP_aload_n dX3_faultOfNumber_0 rfl ?_
  refine WP_getr dX3_faultOfNumber_1 fX3_15 rfl (lyx_is hy 3 3 rfl) (rfx hr 3 2 1 (by decide)) ?_
  refine WQ_getiu dX3_faultOfNumber_4 fX3_118 rfl (lyx_is hy 1 5 rfl) (fun v6271 ev6271 => ?_)
  refine WP_istore (ls' := [(0, _), (1, _), (2, _), (3, _), (4, _), (5, _)]) dX3_faultOfNumber_7 (by decide) rfl ?_
  refine WP_iload dX3_faultOfNumber_9 rfl ?_
  refine WP_iload_n dX3_faultOfNumber_11 rfl ?_
  refine WP_callS1 dX3_faultOfNumber_12 ⟨⟨⟨by decide, by decide⟩, zX3_leastOf⟩, lX3_121, tX3_leastOf⟩ (sx_leastOf hy hr hI pa ) (Nat.le_of_ble_eq_true rfl) ?_
  intro r Ia Ja Ra hq
  obtain ⟨⟨ea, eb, ec⟩, v6272, rfl, av6272, bv6272⟩ := hq
  show WP _ _ _ _ (.int _ :: _) _ _ _ _
  rw [ea, eb, ec]
  clear ea eb ec Ia Ja Ra
  refine WQ_icmp_lt 27 dX3_faultOfNumber_15 rfl (fun c6272 => ?_) (fun c6272 => ?_)
  · refine WQ_iconst (2) (2) dX3_faultOfNumber_27 rfl rfl (fun v6274 hv6274 => ?_)
    obtain ⟨w6275, ew6275⟩ : ∃ w : Int32, I (ad g 4) 3 = w := ⟨_, rfl⟩
    have bw6275 := BT_get hI.1 4 0 5 (0) (0) (1000) (by decide) 3 (by decide) (by decide)
    rw [ew6275] at bw6275
    exact WP_iret dX3_faultOfNumber_28 rfl ⟨⟨hI, rfl, fr0, frj0, ⟨trivial, rfl, rfl, rfl, rfl, rfl⟩⟩, _, rfl, by omega, by omega, by (try rw [ew6275]); omega⟩
  · refine WP_iload dX3_faultOfNumber_18 rfl ?_
    refine WP_iload_n dX3_faultOfNumber_20 rfl ?_
    refine WP_callS1 dX3_faultOfNumber_21 ⟨⟨⟨by decide, by decide⟩, zX3_mostOf⟩, lX3_125, tX3_mostOf⟩ (sx_mostOf hy hr hI pa ) (Nat.le_of_ble_eq_true rfl) ?_
    intro r Ia Ja Ra hq
    obtain ⟨⟨ea, eb, ec⟩, v6276, rfl, av6276, bv6276, cv6276⟩ := hq
    show WP _ _ _ _ (.int _ :: _) _ _ _ _
    rw [ea, eb, ec]
    clear ea eb ec Ia Ja Ra
    refine WQ_icmp_le 29 dX3_faultOfNumber_24 rfl (fun c6276 => ?_) (fun c6276 => ?_)
    · refine WP_aload_n dX3_faultOfNumber_29 rfl ?_
      refine WP_getr dX3_faultOfNumber_30 fX3_9 rfl (lyx_is hy 3 3 rfl) (rfx hr 3 3 4 (by decide)) ?_
      refine WP_iload_n dX3_faultOfNumber_33 rfl ?_
      refine WP_iload dX3_faultOfNumber_34 rfl ?_
      refine WQ_iast dX3_faultOfNumber_36 (lyx_is hy 4 13 rfl) (lyx_n hy 4 5 rfl) (by omega) (by omega) (fun I6278 fI6278 => ?_)
      have eI6278 := fI6278
      rw [cl (x := ix) (n := 3) (by omega)] at eI6278
      clear fI6278
      have hI6278 : XI g n L I6278 := by rw [eI6278]; exact (xi_f hy hI (c := 4) (0) (0) (1000) (by decide) (Or.inl (by decide)) (by decide) (by omega) (by omega))
      have e6279 : I6278 (ad g 1) 1 = L := by rw [eI6278, pp_ne _ _ (Or.inl (lyx_ne hy (by decide) (by decide) (by decide)))]; exact e6264
      have e6280 : I6278 (ad g 4) 0 = w6266 := by rw [eI6278, pp_ne _ _ (Or.inr (by decide))]; exact ew6266
      have e6281 : I6278 (ad g 4) 1 = w6267 := by rw [eI6278, pp_ne _ _ (Or.inr (by decide))]; exact ew6267
      have e6282 : I6278 (ad g 4) 2 = w6268 := by rw [eI6278, pp_ne _ _ (Or.inr (by decide))]; exact ew6268
      have e6283 : I6278 (ad g 6) 1 = w6269 := by rw [eI6278, pp_ne _ _ (Or.inl (lyx_ne hy (by decide) (by decide) (by decide)))]; exact ew6269
      have e6284 : I6278 (ad g 6) 2 = w6270 := by rw [eI6278, pp_ne _ _ (Or.inl (lyx_ne hy (by decide) (by decide) (by decide)))]; exact ew6270
      have e6285 : I6278 (ad g 1) 4 = v6271 := by rw [eI6278, pp_ne _ _ (Or.inl (lyx_ne hy (by decide) (by decide) (by decide)))]; exact ev6271
      have e6286 : I6278 (ad g 4) 3 = v6271 := by rw [eI6278, pp_self]
      have fr6287 : fz 74 g [4] I I6278 := by rw [eI6278]; exact fzx_pp hy fr0 (by decide) (by decide)
      clear eI6278
      refine WP_iload_n dX3_faultOfNumber_37 rfl ?_
      refine WQ_bipush (68) (68) dX3_faultOfNumber_38 rfl rfl (fun v6288 hv6288 => ?_)
      refine WQ_icmp_eq 45 dX3_faultOfNumber_40 rfl (fun c6288 => False.elim (by omega)) (fun c6288 => ?_)
      refine WQ_iconst (0) (0) dX3_faultOfNumber_43 rfl rfl (fun v6290 hv6290 => ?_)
      exact WP_iret dX3_faultOfNumber_44 rfl ⟨⟨hI6278, rfl, fr6287, frj0, ⟨trivial, (by rw [e6280, ew6266] <;> exact (eq32 _ _).mpr (by omega)), (by rw [e6281, ew6267] <;> exact (eq32 _ _).mpr (by omega)), (by rw [e6282, ew6268] <;> exact (eq32 _ _).mpr (by omega)), (by rw [e6283, ew6269] <;> exact (eq32 _ _).mpr (by omega)), (by rw [e6284, ew6270] <;> exact (eq32 _ _).mpr (by omega))⟩⟩, _, rfl, by omega, by omega, by (try rw [e6286]); omega⟩
    · refine WQ_iconst (2) (2) dX3_faultOfNumber_27 rfl rfl (fun v6291 hv6291 => ?_)
      obtain ⟨w6292, ew6292⟩ : ∃ w : Int32, I (ad g 4) 3 = w := ⟨_, rfl⟩
      have bw6292 := BT_get hI.1 4 0 5 (0) (0) (1000) (by decide) 3 (by decide) (by decide)
      rw [ew6292] at bw6292
      exact WP_iret dX3_faultOfNumber_28 rfl ⟨⟨hI, rfl, fr0, frj0, ⟨trivial, rfl, rfl, rfl, rfl, rfl⟩⟩, _, rfl, by omega, by omega, by (try rw [ew6292]); omega⟩
set_option maxHeartbeats 4000000 in
set_option maxRecDepth 100000 in
theorem sx_part_6_6_4 {g : GG} {n : Int} {L : Int32} (hy : LyX g)  {I : pI} {J : pJ} {R : pR} (hr : RfX g R) (hI : XI g n L I) (pa : Int32) (cz : Int32) (ix : Int32) (pa_lo : 86 ≤ pa.toInt) (pa_hi : pa.toInt ≤ 86) (cz_lo : 6 ≤ cz.toInt) (cz_hi : cz.toInt ≤ 6) (ix_lo : 4 ≤ ix.toInt) (ix_hi : ix.toInt ≤ 4) : SP g mX3_faultOfNumber [.ref (ad g 3), .int pa, .int cz, .int ix, .ref (ad g 6)] I J R (fun r I' J' R' => (XI g n L I' ∧ R' = R ∧ fz 74 g [4] I I' ∧ fz 74 g [] J J' ∧ True ∧ I' (ad g 4) 0 = I (ad g 4) 0 ∧ I' (ad g 4) 1 = I (ad g 4) 1 ∧ I' (ad g 4) 2 = I (ad g 4) 2 ∧ I' (ad g 4) 3 = I (ad g 4) 3 ∧ I' (ad g 6) 1 = I (ad g 6) 1 ∧ I' (ad g 6) 2 = I (ad g 6) 2) ∧ ∃ v : Int32, r = some (.int v) ∧ 0 ≤ v.toInt ∧ v.toInt ≤ 5 ∧ (v.toInt = 0 → (I' (ad g 4) 4).toInt ≤ 99)) := by
  refine SP_of ⟨by decide, rfl⟩ (Nat.le_of_ble_eq_true rfl) ?_
  have e6293 : I (ad g 1) 1 = L := hI.2
  have b6294 := BT_get hI.1 1 1 2 (0) (0) (900) (by decide) 1 (by decide) (by decide)
  rw [e6293] at b6294
  have fr0 : fz 74 g [4] I I := fz_rf
  have frj0 : fz 74 g [] J J := fz_rf
  obtain ⟨w6295, ew6295⟩ : ∃ w : Int32, I (ad g 4) 0 = w := ⟨_, rfl⟩
  have bw6295 := BT_get hI.1 4 0 5 (0) (0) (1000) (by decide) 0 (by decide) (by decide)
  rw [ew6295] at bw6295
  obtain ⟨w6296, ew6296⟩ : ∃ w : Int32, I (ad g 4) 1 = w := ⟨_, rfl⟩
  have bw6296 := BT_get hI.1 4 0 5 (0) (0) (1000) (by decide) 1 (by decide) (by decide)
  rw [ew6296] at bw6296
  obtain ⟨w6297, ew6297⟩ : ∃ w : Int32, I (ad g 4) 2 = w := ⟨_, rfl⟩
  have bw6297 := BT_get hI.1 4 0 5 (0) (0) (1000) (by decide) 2 (by decide) (by decide)
  rw [ew6297] at bw6297
  obtain ⟨w6298, ew6298⟩ : ∃ w : Int32, I (ad g 4) 3 = w := ⟨_, rfl⟩
  have bw6298 := BT_get hI.1 4 0 5 (0) (0) (1000) (by decide) 3 (by decide) (by decide)
  rw [ew6298] at bw6298
  obtain ⟨w6299, ew6299⟩ : ∃ w : Int32, I (ad g 6) 1 = w := ⟨_, rfl⟩
  have bw6299 := BT_get hI.1 6 1 2 (0) (0) (4) (by decide) 1 (by decide) (by decide)
  rw [ew6299] at bw6299
  obtain ⟨w6300, ew6300⟩ : ∃ w : Int32, I (ad g 6) 2 = w := ⟨_, rfl⟩
  have bw6300 := BT_get hI.1 6 2 3 (0) (0) (3) (by decide) 2 (by decide) (by decide)
  rw [ew6300] at bw6300
  refine WP_aload_n dX3_faultOfNumber_0 rfl ?_
  refine WP_getr dX3_faultOfNumber_1 fX3_15 rfl (lyx_is hy 3 3 rfl) (rfx hr 3 2 1 (by decide)) ?_
  refine WQ_getiu dX3_faultOfNumber_4 fX3_118 rfl (lyx_is hy 1 5 rfl) (fun v6301 ev6301 => ?_)
  refine WP_istore (ls' := [(0, _), (1, _), (2, _), (3, _), (4, _), (5, _)]) dX3_faultOfNumber_7 (by decide) rfl ?_
  refine WP_iload dX3_faultOfNumber_9 rfl ?_
  refine WP_iload_n dX3_faultOfNumber_11 rfl ?_
  refine WP_callS1 dX3_faultOfNumber_12 ⟨⟨⟨by decide, by decide⟩, zX3_leastOf⟩, lX3_121, tX3_leastOf⟩ (sx_leastOf hy hr hI pa ) (Nat.le_of_ble_eq_true rfl) ?_
  intro r Ia Ja Ra hq
  obtain ⟨⟨ea, eb, ec⟩, v6302, rfl, av6302, bv6302⟩ := hq
  show WP _ _ _ _ (.int _ :: _) _ _ _ _
  rw [ea, eb, ec]
  clear ea eb ec Ia Ja Ra
  refine WQ_icmp_lt 27 dX3_faultOfNumber_15 rfl (fun c6302 => ?_) (fun c6302 => ?_)
  · refine WQ_iconst (2) (2) dX3_faultOfNumber_27 rfl rfl (fun v6304 hv6304 => ?_)
    obtain ⟨w6305, ew6305⟩ : ∃ w : Int32, I (ad g 4) 4 = w := ⟨_, rfl⟩
    have bw6305 := BT_get hI.1 4 0 5 (0) (0) (1000) (by decide) 4 (by decide) (by decide)
    rw [ew6305] at bw6305
    exact WP_iret dX3_faultOfNumber_28 rfl ⟨⟨hI, rfl, fr0, frj0, ⟨trivial, rfl, rfl, rfl, rfl, rfl, rfl⟩⟩, _, rfl, by omega, by omega, by (try rw [ew6305]); omega⟩
  · refine WP_iload dX3_faultOfNumber_18 rfl ?_
    refine WP_iload_n dX3_faultOfNumber_20 rfl ?_
    refine WP_callS1 dX3_faultOfNumber_21 ⟨⟨⟨by decide, by decide⟩, zX3_mostOf⟩, lX3_125, tX3_mostOf⟩ (sx_mostOf hy hr hI pa ) (Nat.le_of_ble_eq_true rfl) ?_
    intro r Ia Ja Ra hq
    obtain ⟨⟨ea, eb, ec⟩, v6306, rfl, av6306, bv6306, cv6306⟩ := hq
    show WP _ _ _ _ (.int _ :: _) _ _ _ _
    rw [ea, eb, ec]
    clear ea eb ec Ia Ja Ra
    refine WQ_icmp_le 29 dX3_faultOfNumber_24 rfl (fun c6306 => ?_) (fun c6306 => ?_)
    · refine WP_aload_n dX3_faultOfNumber_29 rfl ?_
      refine WP_getr dX3_faultOfNumber_30 fX3_9 rfl (lyx_is hy 3 3 rfl) (rfx hr 3 3 4 (by decide)) ?_
      refine WP_iload_n dX3_faultOfNumber_33 rfl ?_
      refine WP_iload dX3_faultOfNumber_34 rfl ?_
      refine WQ_iast dX3_faultOfNumber_36 (lyx_is hy 4 13 rfl) (lyx_n hy 4 5 rfl) (by omega) (by omega) (fun I6308 fI6308 => ?_)
      have eI6308 := fI6308
      rw [cl (x := ix) (n := 4) (by omega)] at eI6308
      clear fI6308
      have hI6308 : XI g n L I6308 := by rw [eI6308]; exact (xi_f hy hI (c := 4) (0) (0) (1000) (by decide) (Or.inl (by decide)) (by decide) (by omega) (by omega))
      have e6309 : I6308 (ad g 1) 1 = L := by rw [eI6308, pp_ne _ _ (Or.inl (lyx_ne hy (by decide) (by decide) (by decide)))]; exact e6293
      have e6310 : I6308 (ad g 4) 0 = w6295 := by rw [eI6308, pp_ne _ _ (Or.inr (by decide))]; exact ew6295
      have e6311 : I6308 (ad g 4) 1 = w6296 := by rw [eI6308, pp_ne _ _ (Or.inr (by decide))]; exact ew6296
      have e6312 : I6308 (ad g 4) 2 = w6297 := by rw [eI6308, pp_ne _ _ (Or.inr (by decide))]; exact ew6297
      have e6313 : I6308 (ad g 4) 3 = w6298 := by rw [eI6308, pp_ne _ _ (Or.inr (by decide))]; exact ew6298
      have e6314 : I6308 (ad g 6) 1 = w6299 := by rw [eI6308, pp_ne _ _ (Or.inl (lyx_ne hy (by decide) (by decide) (by decide)))]; exact ew6299
      have e6315 : I6308 (ad g 6) 2 = w6300 := by rw [eI6308, pp_ne _ _ (Or.inl (lyx_ne hy (by decide) (by decide) (by decide)))]; exact ew6300
      have e6316 : I6308 (ad g 1) 4 = v6301 := by rw [eI6308, pp_ne _ _ (Or.inl (lyx_ne hy (by decide) (by decide) (by decide)))]; exact ev6301
      have e6317 : I6308 (ad g 4) 4 = v6301 := by rw [eI6308, pp_self]
      have fr6318 : fz 74 g [4] I I6308 := by rw [eI6308]; exact fzx_pp hy fr0 (by decide) (by decide)
      clear eI6308
      refine WP_iload_n dX3_faultOfNumber_37 rfl ?_
      refine WQ_bipush (68) (68) dX3_faultOfNumber_38 rfl rfl (fun v6319 hv6319 => ?_)
      refine WQ_icmp_eq 45 dX3_faultOfNumber_40 rfl (fun c6319 => False.elim (by omega)) (fun c6319 => ?_)
      refine WQ_iconst (0) (0) dX3_faultOfNumber_43 rfl rfl (fun v6321 hv6321 => ?_)
      exact WP_iret dX3_faultOfNumber_44 rfl ⟨⟨hI6308, rfl, fr6318, frj0, ⟨trivial, (by rw [e6310, ew6295] <;> exact (eq32 _ _).mpr (by omega)), (by rw [e6311, ew6296] <;> exact (eq32 _ _).mpr (by omega)), (by rw [e6312, ew6297] <;> exact (eq32 _ _).mpr (by omega)), (by rw [e6313, ew6298] <;> exact (eq32 _ _).mpr (by omega)), (by rw [e6314, ew6299] <;> exact (eq32 _ _).mpr (by omega)), (by rw [e6315, ew6300] <;> exact (eq32 _ _).mpr (by omega))⟩⟩, _, rfl, by omega, by omega, by (try rw [e6317]); omega⟩
    · refine WQ_iconst (2) (2) dX3_faultOfNumber_27 rfl rfl (fun v6322 hv6322 => ?_)
      obtain ⟨w6323, ew6323⟩ : ∃ w : Int32, I (ad g 4) 4 = w := ⟨_, rfl⟩
      have bw6323 := BT_get hI.1 4 0 5 (0) (0) (1000) (by decide) 4 (by decide) (by decide)
      rw [ew6323] at bw6323
      exact WP_iret dX3_faultOfNumber_28 rfl ⟨⟨hI, rfl, fr0, frj0, ⟨trivial, rfl, rfl, rfl, rfl, rfl, rfl⟩⟩, _, rfl, by omega, by omega, by (try rw [ew6323]); omega⟩
set_option maxHeartbeats 4000000 in
set_option maxRecDepth 100000 in
theorem sx_part_6_7_0 {g : GG} {n : Int} {L : Int32} (hy : LyX g)  {I : pI} {J : pJ} {R : pR} (hr : RfX g R) (hI : XI g n L I) (pa : Int32) (cz : Int32) (ix : Int32) (pa_lo : 115 ≤ pa.toInt) (pa_hi : pa.toInt ≤ 115) (cz_lo : 7 ≤ cz.toInt) (cz_hi : cz.toInt ≤ 7) (ix_lo : 0 ≤ ix.toInt) (ix_hi : ix.toInt ≤ 0) : SP g mX3_faultOfName [.ref (ad g 3), .int pa, .int cz, .int ix, .ref (ad g 6)] I J R (fun r I' J' R' => (XI g n L I' ∧ R' = R ∧ fz 74 g [4] I I' ∧ fz 74 g [] J J' ∧ True ∧ I' (ad g 6) 1 = I (ad g 6) 1 ∧ I' (ad g 6) 2 = I (ad g 6) 2) ∧ ∃ v : Int32, r = some (.int v) ∧ 0 ≤ v.toInt ∧ v.toInt ≤ 5 ∧ (v.toInt = 0 → (I' (ad g 4) 0).toInt ≤ 3)) := by
  refine SP_of ⟨by decide, rfl⟩ (Nat.le_of_ble_eq_true rfl) ?_
  have e6324 : I (ad g 1) 1 = L := hI.2
  have b6325 := BT_get hI.1 1 1 2 (0) (0) (900) (by decide) 1 (by decide) (by decide)
  rw [e6324] at b6325
  have fr0 : fz 74 g [4] I I := fz_rf
  have frj0 : fz 74 g [] J J := fz_rf
  obtain ⟨w6326, ew6326⟩ : ∃ w : Int32, I (ad g 6) 1 = w := ⟨_, rfl⟩
  have bw6326 := BT_get hI.1 6 1 2 (0) (0) (4) (by decide) 1 (by decide) (by decide)
  rw [ew6326] at bw6326
  obtain ⟨w6327, ew6327⟩ : ∃ w : Int32, I (ad g 6) 2 = w := ⟨_, rfl⟩
  have bw6327 := BT_get hI.1 6 2 3 (0) (0) (3) (by decide) 2 (by decide) (by decide)
  rw [ew6327] at bw6327
  refine WP_iload_n dX3_faultOfName_0 rfl ?_
  refine WQ_bipush (115) (115) dX3_faultOfName_1 rfl rfl (fun v6328 hv6328 => ?_)
  refine WQ_icmp_eq 12 dX3_faultOfName_3 rfl (fun c6328 => ?_) (fun c6328 => False.elim (by omega))
  refine WQ_iconst (1) (1) dX3_faultOfName_12 rfl rfl (fun v6330 hv6330 => ?_)
  refine WP_goto 17 dX3_faultOfName_13 rfl ?_
  refine WP_istore (ls' := [(0, _), (1, _), (2, _), (3, _), (4, _), (5, _)]) dX3_faultOfName_17 (by decide) rfl ?_
  refine WP_iload dX3_faultOfName_19 rfl ?_
  refine WQ_if_eq 39 dX3_faultOfName_21 rfl (fun c6330 => False.elim (by omega)) (fun c6330 => ?_)
  refine WP_aload dX3_faultOfName_24 rfl ?_
  refine WP_aload_n dX3_faultOfName_26 rfl ?_
  refine WP_getr dX3_faultOfName_27 fX3_15 rfl (lyx_is hy 3 3 rfl) (rfx hr 3 2 1 (by decide)) ?_
  refine WQ_getl dX3_faultOfName_30 fX3_80 rfl (lyx_is hy 1 5 rfl) (fun l6332 el6332 => ?_)
  refine WP_callV1 (k := 7) dX3_faultOfName_33 ⟨⟨⟨by decide, by decide⟩, zX7_sortNamed⟩, lX3_103, by decide, rfl, vX7_sortNamed.1, vX7_sortNamed.2⟩ (lyx_is hy 6 7 rfl) (sx_sortNamed_6 hy hr hI l6332 ) (Nat.le_of_ble_eq_true rfl) ?_
  intro r Ia Ja Ra hq
  obtain ⟨⟨ea, eb, ec⟩, v6333, rfl, av6333, bv6333⟩ := hq
  show WP _ _ _ _ (.int _ :: _) _ _ _ _
  rw [ea, eb, ec]
  clear ea eb ec Ia Ja Ra
  refine WP_goto 51 dX3_faultOfName_36 rfl ?_
  refine WP_istore (ls' := [(0, _), (1, _), (2, _), (3, _), (4, _), (5, _), (6, _)]) dX3_faultOfName_51 (by decide) rfl ?_
  refine WP_iload_n dX3_faultOfName_53 rfl ?_
  refine WQ_bipush (110) (110) dX3_faultOfName_54 rfl rfl (fun v6334 hv6334 => ?_)
  refine WQ_icmp_eq 65 dX3_faultOfName_56 rfl (fun c6334 => False.elim (by omega)) (fun c6334 => ?_)
  refine WP_iload_n dX3_faultOfName_59 rfl ?_
  refine WQ_bipush (109) (109) dX3_faultOfName_60 rfl rfl (fun v6336 hv6336 => ?_)
  refine WQ_icmp_ne 98 dX3_faultOfName_62 rfl (fun c6336 => ?_) (fun c6336 => False.elim (by omega))
  refine WP_iload dX3_faultOfName_98 rfl ?_
  refine WQ_iconst (-1) (-1) dX3_faultOfName_100 rfl rfl (fun v6338 hv6338 => ?_)
  refine WQ_icmp_ne 106 dX3_faultOfName_101 rfl (fun c6338 => ?_) (fun c6338 => ?_)
  · refine WP_aload_n dX3_faultOfName_106 rfl ?_
    refine WP_getr dX3_faultOfName_107 fX3_9 rfl (lyx_is hy 3 3 rfl) (rfx hr 3 3 4 (by decide)) ?_
    refine WP_iload_n dX3_faultOfName_110 rfl ?_
    refine WP_iload dX3_faultOfName_111 rfl ?_
    refine WQ_iast dX3_faultOfName_113 (lyx_is hy 4 13 rfl) (lyx_n hy 4 5 rfl) (by omega) (by omega) (fun I6340 fI6340 => ?_)
    have eI6340 := fI6340
    rw [cl (x := ix) (n := 0) (by omega)] at eI6340
    clear fI6340
    have hI6340 : XI g n L I6340 := by rw [eI6340]; exact (xi_f hy hI (c := 4) (0) (0) (1000) (by decide) (Or.inl (by decide)) (by decide) (by omega) (by omega))
    have e6341 : I6340 (ad g 1) 1 = L := by rw [eI6340, pp_ne _ _ (Or.inl (lyx_ne hy (by decide) (by decide) (by decide)))]; exact e6324
    have e6342 : I6340 (ad g 6) 1 = w6326 := by rw [eI6340, pp_ne _ _ (Or.inl (lyx_ne hy (by decide) (by decide) (by decide)))]; exact ew6326
    have e6343 : I6340 (ad g 6) 2 = w6327 := by rw [eI6340, pp_ne _ _ (Or.inl (lyx_ne hy (by decide) (by decide) (by decide)))]; exact ew6327
    have e6344 : I6340 (ad g 4) 0 = v6333 := by rw [eI6340, pp_self]
    have fr6345 : fz 74 g [4] I I6340 := by rw [eI6340]; exact fzx_pp hy fr0 (by decide) (by decide)
    clear eI6340
    refine WP_iload_n dX3_faultOfName_114 rfl ?_
    refine WQ_bipush (7) (7) dX3_faultOfName_115 rfl rfl (fun v6346 hv6346 => ?_)
    refine WQ_icmp_ne 137 dX3_faultOfName_117 rfl (fun c6346 => False.elim (by omega)) (fun c6346 => ?_)
    refine WP_aload dX3_faultOfName_120 rfl ?_
    refine WQ_bipush (7) (7) dX3_faultOfName_122 rfl rfl (fun v6348 hv6348 => ?_)
    refine WP_iload dX3_faultOfName_124 rfl ?_
    refine WQ_iconst (0) (0) dX3_faultOfName_126 rfl rfl (fun v6349 hv6349 => ?_)
    refine WP_callV3 (k := 7) dX3_faultOfName_127 ⟨⟨⟨by decide, by decide⟩, zX7_isTold⟩, lX3_114, by decide, rfl, vX7_isTold.1, vX7_isTold.2⟩ (lyx_is hy 6 7 rfl) (sx_isTold_6 hy hr hI6340 v6348 v6333 v6349 (by omega) (by omega) (by omega) (by omega) ) (Nat.le_of_ble_eq_true rfl) ?_
    intro r Ia Ja Ra hq
    obtain ⟨⟨ea, eb, ec⟩, v6350, rfl, av6350, bv6350⟩ := hq
    show WP _ _ _ _ (.int _ :: _) _ _ _ _
    rw [ea, eb, ec]
    clear ea eb ec Ia Ja Ra
    refine WQ_if_eq 137 dX3_faultOfName_130 rfl (fun c6350 => ?_) (fun c6350 => ?_)
    · refine WQ_iconst (0) (0) dX3_faultOfName_137 rfl rfl (fun v6352 hv6352 => ?_)
      exact WP_iret dX3_faultOfName_138 rfl ⟨⟨hI6340, rfl, fr6345, frj0, ⟨trivial, (by rw [e6342, ew6326] <;> exact (eq32 _ _).mpr (by omega)), (by rw [e6343, ew6327] <;> exact (eq32 _ _).mpr (by omega))⟩⟩, _, rfl, by omega, by omega, by (try rw [e6344]); omega⟩
    · refine WQ_iconst (3) (3) dX3_faultOfName_133 rfl rfl (fun v6353 hv6353 => ?_)
      refine WP_goto 138 dX3_faultOfName_134 rfl ?_
      exact WP_iret dX3_faultOfName_138 rfl ⟨⟨hI6340, rfl, fr6345, frj0, ⟨trivial, (by rw [e6342, ew6326] <;> exact (eq32 _ _).mpr (by omega)), (by rw [e6343, ew6327] <;> exact (eq32 _ _).mpr (by omega))⟩⟩, _, rfl, by omega, by omega, by (try rw [e6344]); omega⟩
  · refine WQ_iconst (5) (5) dX3_faultOfName_104 rfl rfl (fun v6354 hv6354 => ?_)
    obtain ⟨w6355, ew6355⟩ : ∃ w : Int32, I (ad g 4) 0 = w := ⟨_, rfl⟩
    have bw6355 := BT_get hI.1 4 0 5 (0) (0) (1000) (by decide) 0 (by decide) (by decide)
    rw [ew6355] at bw6355
    exact WP_iret dX3_faultOfName_105 rfl ⟨⟨hI, rfl, fr0, frj0, ⟨trivial, rfl, rfl⟩⟩, _, rfl, by omega, by omega, by (try rw [ew6355]); omega⟩
set_option maxHeartbeats 4000000 in
set_option maxRecDepth 100000 in
theorem sx_part_6_7_1 {g : GG} {n : Int} {L : Int32} (hy : LyX g)  {I : pI} {J : pJ} {R : pR} (hr : RfX g R) (hI : XI g n L I) (pa : Int32) (cz : Int32) (ix : Int32) (pa_lo : 73 ≤ pa.toInt) (pa_hi : pa.toInt ≤ 73) (cz_lo : 7 ≤ cz.toInt) (cz_hi : cz.toInt ≤ 7) (ix_lo : 1 ≤ ix.toInt) (ix_hi : ix.toInt ≤ 1) : SP g mX3_faultOfNumber [.ref (ad g 3), .int pa, .int cz, .int ix, .ref (ad g 6)] I J R (fun r I' J' R' => (XI g n L I' ∧ R' = R ∧ fz 74 g [4] I I' ∧ fz 74 g [] J J' ∧ True ∧ I' (ad g 4) 0 = I (ad g 4) 0 ∧ I' (ad g 6) 1 = I (ad g 6) 1 ∧ I' (ad g 6) 2 = I (ad g 6) 2) ∧ ∃ v : Int32, r = some (.int v) ∧ 0 ≤ v.toInt ∧ v.toInt ≤ 5 ∧ (v.toInt = 0 → (I' (ad g 4) 1).toInt ≤ 127)) := by
  refine SP_of ⟨by decide, rfl⟩ (Nat.le_of_ble_eq_true rfl) ?_
  have e6356 : I (ad g 1) 1 = L := hI.2
  have b6357 := BT_get hI.1 1 1 2 (0) (0) (900) (by decide) 1 (by decide) (by decide)
  rw [e6356] at b6357
  have fr0 : fz 74 g [4] I I := fz_rf
  have frj0 : fz 74 g [] J J := fz_rf
  obtain ⟨w6358, ew6358⟩ : ∃ w : Int32, I (ad g 4) 0 = w := ⟨_, rfl⟩
  have bw6358 := BT_get hI.1 4 0 5 (0) (0) (1000) (by decide) 0 (by decide) (by decide)
  rw [ew6358] at bw6358
  obtain ⟨w6359, ew6359⟩ : ∃ w : Int32, I (ad g 6) 1 = w := ⟨_, rfl⟩
  have bw6359 := BT_get hI.1 6 1 2 (0) (0) (4) (by decide) 1 (by decide) (by decide)
  rw [ew6359] at bw6359
  obtain ⟨w6360, ew6360⟩ : ∃ w : Int32, I (ad g 6) 2 = w := ⟨_, rfl⟩
  have bw6360 := BT_get hI.1 6 2 3 (0) (0) (3) (by decide) 2 (by decide) (by decide)
  rw [ew6360] at bw6360
  refine WP_aload_n dX3_faultOfNumber_0 rfl ?_
  refine WP_getr dX3_faultOfNumber_1 fX3_15 rfl (lyx_is hy 3 3 rfl) (rfx hr 3 2 1 (by decide)) ?_
  refine WQ_getiu dX3_faultOfNumber_4 fX3_118 rfl (lyx_is hy 1 5 rfl) (fun v6361 ev6361 => ?_)
  refine WP_istore (ls' := [(0, _), (1, _), (2, _), (3, _), (4, _), (5, _)]) dX3_faultOfNumber_7 (by decide) rfl ?_
  refine WP_iload dX3_faultOfNumber_9 rfl ?_
  refine WP_iload_n dX3_faultOfNumber_11 rfl ?_
  refine WP_callS1 dX3_faultOfNumber_12 ⟨⟨⟨by decide, by decide⟩, zX3_leastOf⟩, lX3_121, tX3_leastOf⟩ (sx_leastOf hy hr hI pa ) (Nat.le_of_ble_eq_true rfl) ?_
  intro r Ia Ja Ra hq
  obtain ⟨⟨ea, eb, ec⟩, v6362, rfl, av6362, bv6362⟩ := hq
  show WP _ _ _ _ (.int _ :: _) _ _ _ _
  rw [ea, eb, ec]
  clear ea eb ec Ia Ja Ra
  refine WQ_icmp_lt 27 dX3_faultOfNumber_15 rfl (fun c6362 => ?_) (fun c6362 => ?_)
  · refine WQ_iconst (2) (2) dX3_faultOfNumber_27 rfl rfl (fun v6364 hv6364 => ?_)
    obtain ⟨w6365, ew6365⟩ : ∃ w : Int32, I (ad g 4) 1 = w := ⟨_, rfl⟩
    have bw6365 := BT_get hI.1 4 0 5 (0) (0) (1000) (by decide) 1 (by decide) (by decide)
    rw [ew6365] at bw6365
    exact WP_iret dX3_faultOfNumber_28 rfl ⟨⟨hI, rfl, fr0, frj0, ⟨trivial, rfl, rfl, rfl⟩⟩, _, rfl, by omega, by omega, by (try rw [ew6365]); omega⟩
  · refine WP_iload dX3_faultOfNumber_18 rfl ?_
    refine WP_iload_n dX3_faultOfNumber_20 rfl ?_
    refine WP_callS1 dX3_faultOfNumber_21 ⟨⟨⟨by decide, by decide⟩, zX3_mostOf⟩, lX3_125, tX3_mostOf⟩ (sx_mostOf hy hr hI pa ) (Nat.le_of_ble_eq_true rfl) ?_
    intro r Ia Ja Ra hq
    obtain ⟨⟨ea, eb, ec⟩, v6366, rfl, av6366, bv6366, cv6366⟩ := hq
    show WP _ _ _ _ (.int _ :: _) _ _ _ _
    rw [ea, eb, ec]
    clear ea eb ec Ia Ja Ra
    refine WQ_icmp_le 29 dX3_faultOfNumber_24 rfl (fun c6366 => ?_) (fun c6366 => ?_)
    · refine WP_aload_n dX3_faultOfNumber_29 rfl ?_
      refine WP_getr dX3_faultOfNumber_30 fX3_9 rfl (lyx_is hy 3 3 rfl) (rfx hr 3 3 4 (by decide)) ?_
      refine WP_iload_n dX3_faultOfNumber_33 rfl ?_
      refine WP_iload dX3_faultOfNumber_34 rfl ?_
      refine WQ_iast dX3_faultOfNumber_36 (lyx_is hy 4 13 rfl) (lyx_n hy 4 5 rfl) (by omega) (by omega) (fun I6368 fI6368 => ?_)
      have eI6368 := fI6368
      rw [cl (x := ix) (n := 1) (by omega)] at eI6368
      clear fI6368
      have hI6368 : XI g n L I6368 := by rw [eI6368]; exact (xi_f hy hI (c := 4) (0) (0) (1000) (by decide) (Or.inl (by decide)) (by decide) (by omega) (by omega))
      have e6369 : I6368 (ad g 1) 1 = L := by rw [eI6368, pp_ne _ _ (Or.inl (lyx_ne hy (by decide) (by decide) (by decide)))]; exact e6356
      have e6370 : I6368 (ad g 4) 0 = w6358 := by rw [eI6368, pp_ne _ _ (Or.inr (by decide))]; exact ew6358
      have e6371 : I6368 (ad g 6) 1 = w6359 := by rw [eI6368, pp_ne _ _ (Or.inl (lyx_ne hy (by decide) (by decide) (by decide)))]; exact ew6359
      have e6372 : I6368 (ad g 6) 2 = w6360 := by rw [eI6368, pp_ne _ _ (Or.inl (lyx_ne hy (by decide) (by decide) (by decide)))]; exact ew6360
      have e6373 : I6368 (ad g 1) 4 = v6361 := by rw [eI6368, pp_ne _ _ (Or.inl (lyx_ne hy (by decide) (by decide) (by decide)))]; exact ev6361
      have e6374 : I6368 (ad g 4) 1 = v6361 := by rw [eI6368, pp_self]
      have fr6375 : fz 74 g [4] I I6368 := by rw [eI6368]; exact fzx_pp hy fr0 (by decide) (by decide)
      clear eI6368
      refine WP_iload_n dX3_faultOfNumber_37 rfl ?_
      refine WQ_bipush (68) (68) dX3_faultOfNumber_38 rfl rfl (fun v6376 hv6376 => ?_)
      refine WQ_icmp_eq 45 dX3_faultOfNumber_40 rfl (fun c6376 => False.elim (by omega)) (fun c6376 => ?_)
      refine WQ_iconst (0) (0) dX3_faultOfNumber_43 rfl rfl (fun v6378 hv6378 => ?_)
      exact WP_iret dX3_faultOfNumber_44 rfl ⟨⟨hI6368, rfl, fr6375, frj0, ⟨trivial, (by rw [e6370, ew6358] <;> exact (eq32 _ _).mpr (by omega)), (by rw [e6371, ew6359] <;> exact (eq32 _ _).mpr (by omega)), (by rw [e6372, ew6360] <;> exact (eq32 _ _).mpr (by omega))⟩⟩, _, rfl, by omega, by omega, by (try rw [e6374]); omega⟩
    · refine WQ_iconst (2) (2) dX3_faultOfNumber_27 rfl rfl (fun v6379 hv6379 => ?_)
      obtain ⟨w6380, ew6380⟩ : ∃ w : Int32, I (ad g 4) 1 = w := ⟨_, rfl⟩
      have bw6380 := BT_get hI.1 4 0 5 (0) (0) (1000) (by decide) 1 (by decide) (by decide)
      rw [ew6380] at bw6380
      exact WP_iret dX3_faultOfNumber_28 rfl ⟨⟨hI, rfl, fr0, frj0, ⟨trivial, rfl, rfl, rfl⟩⟩, _, rfl, by omega, by omega, by (try rw [ew6380]); omega⟩
set_option maxHeartbeats 4000000 in
set_option maxRecDepth 100000 in
theorem sx_part_6_8_0 {g : GG} {n : Int} {L : Int32} (hy : LyX g)  {I : pI} {J : pJ} {R : pR} (hr : RfX g R) (hI : XI g n L I) (pa : Int32) (cz : Int32) (ix : Int32) (pa_lo : 115 ≤ pa.toInt) (pa_hi : pa.toInt ≤ 115) (cz_lo : 8 ≤ cz.toInt) (cz_hi : cz.toInt ≤ 8) (ix_lo : 0 ≤ ix.toInt) (ix_hi : ix.toInt ≤ 0) : SP g mX3_faultOfName [.ref (ad g 3), .int pa, .int cz, .int ix, .ref (ad g 6)] I J R (fun r I' J' R' => (XI g n L I' ∧ R' = R ∧ fz 74 g [4] I I' ∧ fz 74 g [] J J' ∧ True ∧ I' (ad g 6) 1 = I (ad g 6) 1 ∧ I' (ad g 6) 2 = I (ad g 6) 2) ∧ ∃ v : Int32, r = some (.int v) ∧ 0 ≤ v.toInt ∧ v.toInt ≤ 5 ∧ (v.toInt = 0 → (I' (ad g 4) 0).toInt ≤ 3)) := by
  refine SP_of ⟨by decide, rfl⟩ (Nat.le_of_ble_eq_true rfl) ?_
  have e6381 : I (ad g 1) 1 = L := hI.2
  have b6382 := BT_get hI.1 1 1 2 (0) (0) (900) (by decide) 1 (by decide) (by decide)
  rw [e6381] at b6382
  have fr0 : fz 74 g [4] I I := fz_rf
  have frj0 : fz 74 g [] J J := fz_rf
  obtain ⟨w6383, ew6383⟩ : ∃ w : Int32, I (ad g 6) 1 = w := ⟨_, rfl⟩
  have bw6383 := BT_get hI.1 6 1 2 (0) (0) (4) (by decide) 1 (by decide) (by decide)
  rw [ew6383] at bw6383
  obtain ⟨w6384, ew6384⟩ : ∃ w : Int32, I (ad g 6) 2 = w := ⟨_, rfl⟩
  have bw6384 := BT_get hI.1 6 2 3 (0) (0) (3) (by decide) 2 (by decide) (by decide)
  rw [ew6384] at bw6384
  refine WP_iload_n dX3_faultOfName_0 rfl ?_
  refine WQ_bipush (115) (115) dX3_faultOfName_1 rfl rfl (fun v6385 hv6385 => ?_)
  refine WQ_icmp_eq 12 dX3_faultOfName_3 rfl (fun c6385 => ?_) (fun c6385 => False.elim (by omega))
  refine WQ_iconst (1) (1) dX3_faultOfName_12 rfl rfl (fun v6387 hv6387 => ?_)
  refine WP_goto 17 dX3_faultOfName_13 rfl ?_
  refine WP_istore (ls' := [(0, _), (1, _), (2, _), (3, _), (4, _), (5, _)]) dX3_faultOfName_17 (by decide) rfl ?_
  refine WP_iload dX3_faultOfName_19 rfl ?_
  refine WQ_if_eq 39 dX3_faultOfName_21 rfl (fun c6387 => False.elim (by omega)) (fun c6387 => ?_)
  refine WP_aload dX3_faultOfName_24 rfl ?_
  refine WP_aload_n dX3_faultOfName_26 rfl ?_
  refine WP_getr dX3_faultOfName_27 fX3_15 rfl (lyx_is hy 3 3 rfl) (rfx hr 3 2 1 (by decide)) ?_
  refine WQ_getl dX3_faultOfName_30 fX3_80 rfl (lyx_is hy 1 5 rfl) (fun l6389 el6389 => ?_)
  refine WP_callV1 (k := 7) dX3_faultOfName_33 ⟨⟨⟨by decide, by decide⟩, zX7_sortNamed⟩, lX3_103, by decide, rfl, vX7_sortNamed.1, vX7_sortNamed.2⟩ (lyx_is hy 6 7 rfl) (sx_sortNamed_6 hy hr hI l6389 ) (Nat.le_of_ble_eq_true rfl) ?_
  intro r Ia Ja Ra hq
  obtain ⟨⟨ea, eb, ec⟩, v6390, rfl, av6390, bv6390⟩ := hq
  show WP _ _ _ _ (.int _ :: _) _ _ _ _
  rw [ea, eb, ec]
  clear ea eb ec Ia Ja Ra
  refine WP_goto 51 dX3_faultOfName_36 rfl ?_
  refine WP_istore (ls' := [(0, _), (1, _), (2, _), (3, _), (4, _), (5, _), (6, _)]) dX3_faultOfName_51 (by decide) rfl ?_
  refine WP_iload_n dX3_faultOfName_53 rfl ?_
  refine WQ_bipush (110) (110) dX3_faultOfName_54 rfl rfl (fun v6391 hv6391 => ?_)
  refine WQ_icmp_eq 65 dX3_faultOfName_56 rfl (fun c6391 => False.elim (by omega)) (fun c6391 => ?_)
  refine WP_iload_n dX3_faultOfName_59 rfl ?_
  refine WQ_bipush (109) (109) dX3_faultOfName_60 rfl rfl (fun v6393 hv6393 => ?_)
  refine WQ_icmp_ne 98 dX3_faultOfName_62 rfl (fun c6393 => ?_) (fun c6393 => False.elim (by omega))
  refine WP_iload dX3_faultOfName_98 rfl ?_
  refine WQ_iconst (-1) (-1) dX3_faultOfName_100 rfl rfl (fun v6395 hv6395 => ?_)
  refine WQ_icmp_ne 106 dX3_faultOfName_101 rfl (fun c6395 => ?_) (fun c6395 => ?_)
  · refine WP_aload_n dX3_faultOfName_106 rfl ?_
    refine WP_getr dX3_faultOfName_107 fX3_9 rfl (lyx_is hy 3 3 rfl) (rfx hr 3 3 4 (by decide)) ?_
    refine WP_iload_n dX3_faultOfName_110 rfl ?_
    refine WP_iload dX3_faultOfName_111 rfl ?_
    refine WQ_iast dX3_faultOfName_113 (lyx_is hy 4 13 rfl) (lyx_n hy 4 5 rfl) (by omega) (by omega) (fun I6397 fI6397 => ?_)
    have eI6397 := fI6397
    rw [cl (x := ix) (n := 0) (by omega)] at eI6397
    clear fI6397
    have hI6397 : XI g n L I6397 := by rw [eI6397]; exact (xi_f hy hI (c := 4) (0) (0) (1000) (by decide) (Or.inl (by decide)) (by decide) (by omega) (by omega))
    have e6398 : I6397 (ad g 1) 1 = L := by rw [eI6397, pp_ne _ _ (Or.inl (lyx_ne hy (by decide) (by decide) (by decide)))]; exact e6381
    have e6399 : I6397 (ad g 6) 1 = w6383 := by rw [eI6397, pp_ne _ _ (Or.inl (lyx_ne hy (by decide) (by decide) (by decide)))]; exact ew6383
    have e6400 : I6397 (ad g 6) 2 = w6384 := by rw [eI6397, pp_ne _ _ (Or.inl (lyx_ne hy (by decide) (by decide) (by decide)))]; exact ew6384
    have e6401 : I6397 (ad g 4) 0 = v6390 := by rw [eI6397, pp_self]
    have fr6402 : fz 74 g [4] I I6397 := by rw [eI6397]; exact fzx_pp hy fr0 (by decide) (by decide)
    clear eI6397
    refine WP_iload_n dX3_faultOfName_114 rfl ?_
    refine WQ_bipush (7) (7) dX3_faultOfName_115 rfl rfl (fun v6403 hv6403 => ?_)
    refine WQ_icmp_ne 137 dX3_faultOfName_117 rfl (fun c6403 => ?_) (fun c6403 => False.elim (by omega))
    refine WQ_iconst (0) (0) dX3_faultOfName_137 rfl rfl (fun v6405 hv6405 => ?_)
    exact WP_iret dX3_faultOfName_138 rfl ⟨⟨hI6397, rfl, fr6402, frj0, ⟨trivial, (by rw [e6399, ew6383] <;> exact (eq32 _ _).mpr (by omega)), (by rw [e6400, ew6384] <;> exact (eq32 _ _).mpr (by omega))⟩⟩, _, rfl, by omega, by omega, by (try rw [e6401]); omega⟩
  · refine WQ_iconst (5) (5) dX3_faultOfName_104 rfl rfl (fun v6406 hv6406 => ?_)
    obtain ⟨w6407, ew6407⟩ : ∃ w : Int32, I (ad g 4) 0 = w := ⟨_, rfl⟩
    have bw6407 := BT_get hI.1 4 0 5 (0) (0) (1000) (by decide) 0 (by decide) (by decide)
    rw [ew6407] at bw6407
    exact WP_iret dX3_faultOfName_105 rfl ⟨⟨hI, rfl, fr0, frj0, ⟨trivial, rfl, rfl⟩⟩, _, rfl, by omega, by omega, by (try rw [ew6407]); omega⟩
set_option maxHeartbeats 4000000 in
set_option maxRecDepth 100000 in
theorem sx_part_6_9_0 {g : GG} {n : Int} {L : Int32} (hy : LyX g)  {I : pI} {J : pJ} {R : pR} (hr : RfX g R) (hI : XI g n L I) (pa : Int32) (cz : Int32) (ix : Int32) (pa_lo : 116 ≤ pa.toInt) (pa_hi : pa.toInt ≤ 116) (cz_lo : 9 ≤ cz.toInt) (cz_hi : cz.toInt ≤ 9) (ix_lo : 0 ≤ ix.toInt) (ix_hi : ix.toInt ≤ 0) : SP g mX3_faultOfName [.ref (ad g 3), .int pa, .int cz, .int ix, .ref (ad g 6)] I J R (fun r I' J' R' => (XI g n L I' ∧ R' = R ∧ fz 74 g [4] I I' ∧ fz 74 g [] J J' ∧ True ∧ I' (ad g 6) 1 = I (ad g 6) 1 ∧ I' (ad g 6) 2 = I (ad g 6) 2) ∧ ∃ v : Int32, r = some (.int v) ∧ 0 ≤ v.toInt ∧ v.toInt ≤ 5 ∧ (v.toInt = 0 → (I' (ad g 4) 0).toInt ≤ 2)) := by
  refine SP_of ⟨by decide, rfl⟩ (Nat.le_of_ble_eq_true rfl) ?_
  have e6408 : I (ad g 1) 1 = L := hI.2
  have b6409 := BT_get hI.1 1 1 2 (0) (0) (900) (by decide) 1 (by decide) (by decide)
  rw [e6408] at b6409
  have fr0 : fz 74 g [4] I I := fz_rf
  have frj0 : fz 74 g [] J J := fz_rf
  obtain ⟨w6410, ew6410⟩ : ∃ w : Int32, I (ad g 6) 1 = w := ⟨_, rfl⟩
  have bw6410 := BT_get hI.1 6 1 2 (0) (0) (4) (by decide) 1 (by decide) (by decide)
  rw [ew6410] at bw6410
  obtain ⟨w6411, ew6411⟩ : ∃ w : Int32, I (ad g 6) 2 = w := ⟨_, rfl⟩
  have bw6411 := BT_get hI.1 6 2 3 (0) (0) (3) (by decide) 2 (by decide) (by decide)
  rw [ew6411] at bw6411
  refine WP_iload_n dX3_faultOfName_0 rfl ?_
  refine WQ_bipush (115) (115) dX3_faultOfName_1 rfl rfl (fun v6412 hv6412 => ?_)
  refine WQ_icmp_eq 12 dX3_faultOfName_3 rfl (fun c6412 => False.elim (by omega)) (fun c6412 => ?_)
  refine WP_iload_n dX3_faultOfName_6 rfl ?_
  refine WQ_bipush (110) (110) dX3_faultOfName_7 rfl rfl (fun v6414 hv6414 => ?_)
  refine WQ_icmp_ne 16 dX3_faultOfName_9 rfl (fun c6414 => ?_) (fun c6414 => False.elim (by omega))
  refine WQ_iconst (0) (0) dX3_faultOfName_16 rfl rfl (fun v6416 hv6416 => ?_)
  refine WP_istore (ls' := [(0, _), (1, _), (2, _), (3, _), (4, _), (5, _)]) dX3_faultOfName_17 (by decide) rfl ?_
  refine WP_iload dX3_faultOfName_19 rfl ?_
  refine WQ_if_eq 39 dX3_faultOfName_21 rfl (fun c6416 => ?_) (fun c6416 => False.elim (by omega))
  refine WP_aload dX3_faultOfName_39 rfl ?_
  refine WP_aload_n dX3_faultOfName_41 rfl ?_
  refine WP_getr dX3_faultOfName_42 fX3_15 rfl (lyx_is hy 3 3 rfl) (rfx hr 3 2 1 (by decide)) ?_
  refine WQ_getl dX3_faultOfName_45 fX3_80 rfl (lyx_is hy 1 5 rfl) (fun l6418 el6418 => ?_)
  refine WP_callV1 (k := 7) dX3_faultOfName_48 ⟨⟨⟨by decide, by decide⟩, zX7_thingNamed⟩, lX3_107, by decide, rfl, vX7_thingNamed.1, vX7_thingNamed.2⟩ (lyx_is hy 6 7 rfl) (sx_thingNamed_6 hy hr hI l6418 ) (Nat.le_of_ble_eq_true rfl) ?_
  intro r Ia Ja Ra hq
  obtain ⟨⟨ea, eb, ec⟩, v6419, rfl, av6419, bv6419⟩ := hq
  show WP _ _ _ _ (.int _ :: _) _ _ _ _
  rw [ea, eb, ec]
  clear ea eb ec Ia Ja Ra
  refine WP_istore (ls' := [(0, _), (1, _), (2, _), (3, _), (4, _), (5, _), (6, _)]) dX3_faultOfName_51 (by decide) rfl ?_
  refine WP_iload_n dX3_faultOfName_53 rfl ?_
  refine WQ_bipush (110) (110) dX3_faultOfName_54 rfl rfl (fun v6420 hv6420 => ?_)
  refine WQ_icmp_eq 65 dX3_faultOfName_56 rfl (fun c6420 => False.elim (by omega)) (fun c6420 => ?_)
  refine WP_iload_n dX3_faultOfName_59 rfl ?_
  refine WQ_bipush (109) (109) dX3_faultOfName_60 rfl rfl (fun v6422 hv6422 => ?_)
  refine WQ_icmp_ne 98 dX3_faultOfName_62 rfl (fun c6422 => ?_) (fun c6422 => False.elim (by omega))
  refine WP_iload dX3_faultOfName_98 rfl ?_
  refine WQ_iconst (-1) (-1) dX3_faultOfName_100 rfl rfl (fun v6424 hv6424 => ?_)
  refine WQ_icmp_ne 106 dX3_faultOfName_101 rfl (fun c6424 => ?_) (fun c6424 => ?_)
  · refine WP_aload_n dX3_faultOfName_106 rfl ?_
    refine WP_getr dX3_faultOfName_107 fX3_9 rfl (lyx_is hy 3 3 rfl) (rfx hr 3 3 4 (by decide)) ?_
    refine WP_iload_n dX3_faultOfName_110 rfl ?_
    refine WP_iload dX3_faultOfName_111 rfl ?_
    refine WQ_iast dX3_faultOfName_113 (lyx_is hy 4 13 rfl) (lyx_n hy 4 5 rfl) (by omega) (by omega) (fun I6426 fI6426 => ?_)
    have eI6426 := fI6426
    rw [cl (x := ix) (n := 0) (by omega)] at eI6426
    clear fI6426
    have hI6426 : XI g n L I6426 := by rw [eI6426]; exact (xi_f hy hI (c := 4) (0) (0) (1000) (by decide) (Or.inl (by decide)) (by decide) (by omega) (by omega))
    have e6427 : I6426 (ad g 1) 1 = L := by rw [eI6426, pp_ne _ _ (Or.inl (lyx_ne hy (by decide) (by decide) (by decide)))]; exact e6408
    have e6428 : I6426 (ad g 6) 1 = w6410 := by rw [eI6426, pp_ne _ _ (Or.inl (lyx_ne hy (by decide) (by decide) (by decide)))]; exact ew6410
    have e6429 : I6426 (ad g 6) 2 = w6411 := by rw [eI6426, pp_ne _ _ (Or.inl (lyx_ne hy (by decide) (by decide) (by decide)))]; exact ew6411
    have e6430 : I6426 (ad g 4) 0 = v6419 := by rw [eI6426, pp_self]
    have fr6431 : fz 74 g [4] I I6426 := by rw [eI6426]; exact fzx_pp hy fr0 (by decide) (by decide)
    clear eI6426
    refine WP_iload_n dX3_faultOfName_114 rfl ?_
    refine WQ_bipush (7) (7) dX3_faultOfName_115 rfl rfl (fun v6432 hv6432 => ?_)
    refine WQ_icmp_ne 137 dX3_faultOfName_117 rfl (fun c6432 => ?_) (fun c6432 => False.elim (by omega))
    refine WQ_iconst (0) (0) dX3_faultOfName_137 rfl rfl (fun v6434 hv6434 => ?_)
    exact WP_iret dX3_faultOfName_138 rfl ⟨⟨hI6426, rfl, fr6431, frj0, ⟨trivial, (by rw [e6428, ew6410] <;> exact (eq32 _ _).mpr (by omega)), (by rw [e6429, ew6411] <;> exact (eq32 _ _).mpr (by omega))⟩⟩, _, rfl, by omega, by omega, by (try rw [e6430]); omega⟩
  · refine WQ_iconst (5) (5) dX3_faultOfName_104 rfl rfl (fun v6435 hv6435 => ?_)
    obtain ⟨w6436, ew6436⟩ : ∃ w : Int32, I (ad g 4) 0 = w := ⟨_, rfl⟩
    have bw6436 := BT_get hI.1 4 0 5 (0) (0) (1000) (by decide) 0 (by decide) (by decide)
    rw [ew6436] at bw6436
    exact WP_iret dX3_faultOfName_105 rfl ⟨⟨hI, rfl, fr0, frj0, ⟨trivial, rfl, rfl⟩⟩, _, rfl, by omega, by omega, by (try rw [ew6436]); omega⟩
set_option maxHeartbeats 4000000 in
set_option maxRecDepth 100000 in
theorem sx_part_6_10_0 {g : GG} {n : Int} {L : Int32} (hy : LyX g)  {I : pI} {J : pJ} {R : pR} (hr : RfX g R) (hI : XI g n L I) (pa : Int32) (cz : Int32) (ix : Int32) (pa_lo : 115 ≤ pa.toInt) (pa_hi : pa.toInt ≤ 115) (cz_lo : 10 ≤ cz.toInt) (cz_hi : cz.toInt ≤ 10) (ix_lo : 0 ≤ ix.toInt) (ix_hi : ix.toInt ≤ 0) : SP g mX3_faultOfName [.ref (ad g 3), .int pa, .int cz, .int ix, .ref (ad g 6)] I J R (fun r I' J' R' => (XI g n L I' ∧ R' = R ∧ fz 74 g [4] I I' ∧ fz 74 g [] J J' ∧ True ∧ I' (ad g 6) 1 = I (ad g 6) 1 ∧ I' (ad g 6) 2 = I (ad g 6) 2) ∧ ∃ v : Int32, r = some (.int v) ∧ 0 ≤ v.toInt ∧ v.toInt ≤ 5 ∧ (v.toInt = 0 → (I' (ad g 4) 0).toInt ≤ 3)) := by
  refine SP_of ⟨by decide, rfl⟩ (Nat.le_of_ble_eq_true rfl) ?_
  have e6437 : I (ad g 1) 1 = L := hI.2
  have b6438 := BT_get hI.1 1 1 2 (0) (0) (900) (by decide) 1 (by decide) (by decide)
  rw [e6437] at b6438
  have fr0 : fz 74 g [4] I I := fz_rf
  have frj0 : fz 74 g [] J J := fz_rf
  obtain ⟨w6439, ew6439⟩ : ∃ w : Int32, I (ad g 6) 1 = w := ⟨_, rfl⟩
  have bw6439 := BT_get hI.1 6 1 2 (0) (0) (4) (by decide) 1 (by decide) (by decide)
  rw [ew6439] at bw6439
  obtain ⟨w6440, ew6440⟩ : ∃ w : Int32, I (ad g 6) 2 = w := ⟨_, rfl⟩
  have bw6440 := BT_get hI.1 6 2 3 (0) (0) (3) (by decide) 2 (by decide) (by decide)
  rw [ew6440] at bw6440
  refine WP_iload_n dX3_faultOfName_0 rfl ?_
  refine WQ_bipush (115) (115) dX3_faultOfName_1 rfl rfl (fun v6441 hv6441 => ?_)
  refine WQ_icmp_eq 12 dX3_faultOfName_3 rfl (fun c6441 => ?_) (fun c6441 => False.elim (by omega))
  refine WQ_iconst (1) (1) dX3_faultOfName_12 rfl rfl (fun v6443 hv6443 => ?_)
  refine WP_goto 17 dX3_faultOfName_13 rfl ?_
  refine WP_istore (ls' := [(0, _), (1, _), (2, _), (3, _), (4, _), (5, _)]) dX3_faultOfName_17 (by decide) rfl ?_
  refine WP_iload dX3_faultOfName_19 rfl ?_
  refine WQ_if_eq 39 dX3_faultOfName_21 rfl (fun c6443 => False.elim (by omega)) (fun c6443 => ?_)
  refine WP_aload dX3_faultOfName_24 rfl ?_
  refine WP_aload_n dX3_faultOfName_26 rfl ?_
  refine WP_getr dX3_faultOfName_27 fX3_15 rfl (lyx_is hy 3 3 rfl) (rfx hr 3 2 1 (by decide)) ?_
  refine WQ_getl dX3_faultOfName_30 fX3_80 rfl (lyx_is hy 1 5 rfl) (fun l6445 el6445 => ?_)
  refine WP_callV1 (k := 7) dX3_faultOfName_33 ⟨⟨⟨by decide, by decide⟩, zX7_sortNamed⟩, lX3_103, by decide, rfl, vX7_sortNamed.1, vX7_sortNamed.2⟩ (lyx_is hy 6 7 rfl) (sx_sortNamed_6 hy hr hI l6445 ) (Nat.le_of_ble_eq_true rfl) ?_
  intro r Ia Ja Ra hq
  obtain ⟨⟨ea, eb, ec⟩, v6446, rfl, av6446, bv6446⟩ := hq
  show WP _ _ _ _ (.int _ :: _) _ _ _ _
  rw [ea, eb, ec]
  clear ea eb ec Ia Ja Ra
  refine WP_goto 51 dX3_faultOfName_36 rfl ?_
  refine WP_istore (ls' := [(0, _), (1, _), (2, _), (3, _), (4, _), (5, _), (6, _)]) dX3_faultOfName_51 (by decide) rfl ?_
  refine WP_iload_n dX3_faultOfName_53 rfl ?_
  refine WQ_bipush (110) (110) dX3_faultOfName_54 rfl rfl (fun v6447 hv6447 => ?_)
  refine WQ_icmp_eq 65 dX3_faultOfName_56 rfl (fun c6447 => False.elim (by omega)) (fun c6447 => ?_)
  refine WP_iload_n dX3_faultOfName_59 rfl ?_
  refine WQ_bipush (109) (109) dX3_faultOfName_60 rfl rfl (fun v6449 hv6449 => ?_)
  refine WQ_icmp_ne 98 dX3_faultOfName_62 rfl (fun c6449 => ?_) (fun c6449 => False.elim (by omega))
  refine WP_iload dX3_faultOfName_98 rfl ?_
  refine WQ_iconst (-1) (-1) dX3_faultOfName_100 rfl rfl (fun v6451 hv6451 => ?_)
  refine WQ_icmp_ne 106 dX3_faultOfName_101 rfl (fun c6451 => ?_) (fun c6451 => ?_)
  · refine WP_aload_n dX3_faultOfName_106 rfl ?_
    refine WP_getr dX3_faultOfName_107 fX3_9 rfl (lyx_is hy 3 3 rfl) (rfx hr 3 3 4 (by decide)) ?_
    refine WP_iload_n dX3_faultOfName_110 rfl ?_
    refine WP_iload dX3_faultOfName_111 rfl ?_
    refine WQ_iast dX3_faultOfName_113 (lyx_is hy 4 13 rfl) (lyx_n hy 4 5 rfl) (by omega) (by omega) (fun I6453 fI6453 => ?_)
    have eI6453 := fI6453
    rw [cl (x := ix) (n := 0) (by omega)] at eI6453
    clear fI6453
    have hI6453 : XI g n L I6453 := by rw [eI6453]; exact (xi_f hy hI (c := 4) (0) (0) (1000) (by decide) (Or.inl (by decide)) (by decide) (by omega) (by omega))
    have e6454 : I6453 (ad g 1) 1 = L := by rw [eI6453, pp_ne _ _ (Or.inl (lyx_ne hy (by decide) (by decide) (by decide)))]; exact e6437
    have e6455 : I6453 (ad g 6) 1 = w6439 := by rw [eI6453, pp_ne _ _ (Or.inl (lyx_ne hy (by decide) (by decide) (by decide)))]; exact ew6439
    have e6456 : I6453 (ad g 6) 2 = w6440 := by rw [eI6453, pp_ne _ _ (Or.inl (lyx_ne hy (by decide) (by decide) (by decide)))]; exact ew6440
    have e6457 : I6453 (ad g 4) 0 = v6446 := by rw [eI6453, pp_self]
    have fr6458 : fz 74 g [4] I I6453 := by rw [eI6453]; exact fzx_pp hy fr0 (by decide) (by decide)
    clear eI6453
    refine WP_iload_n dX3_faultOfName_114 rfl ?_
    refine WQ_bipush (7) (7) dX3_faultOfName_115 rfl rfl (fun v6459 hv6459 => ?_)
    refine WQ_icmp_ne 137 dX3_faultOfName_117 rfl (fun c6459 => ?_) (fun c6459 => False.elim (by omega))
    refine WQ_iconst (0) (0) dX3_faultOfName_137 rfl rfl (fun v6461 hv6461 => ?_)
    exact WP_iret dX3_faultOfName_138 rfl ⟨⟨hI6453, rfl, fr6458, frj0, ⟨trivial, (by rw [e6455, ew6439] <;> exact (eq32 _ _).mpr (by omega)), (by rw [e6456, ew6440] <;> exact (eq32 _ _).mpr (by omega))⟩⟩, _, rfl, by omega, by omega, by (try rw [e6457]); omega⟩
  · refine WQ_iconst (5) (5) dX3_faultOfName_104 rfl rfl (fun v6462 hv6462 => ?_)
    obtain ⟨w6463, ew6463⟩ : ∃ w : Int32, I (ad g 4) 0 = w := ⟨_, rfl⟩
    have bw6463 := BT_get hI.1 4 0 5 (0) (0) (1000) (by decide) 0 (by decide) (by decide)
    rw [ew6463] at bw6463
    exact WP_iret dX3_faultOfName_105 rfl ⟨⟨hI, rfl, fr0, frj0, ⟨trivial, rfl, rfl⟩⟩, _, rfl, by omega, by omega, by (try rw [ew6463]); omega⟩
set_option maxHeartbeats 4000000 in
set_option maxRecDepth 100000 in
theorem sx_part_6_10_1 {g : GG} {n : Int} {L : Int32} (hy : LyX g)  {I : pI} {J : pJ} {R : pR} (hr : RfX g R) (hI : XI g n L I) (pa : Int32) (cz : Int32) (ix : Int32) (pa_lo : 116 ≤ pa.toInt) (pa_hi : pa.toInt ≤ 116) (cz_lo : 10 ≤ cz.toInt) (cz_hi : cz.toInt ≤ 10) (ix_lo : 1 ≤ ix.toInt) (ix_hi : ix.toInt ≤ 1) : SP g mX3_faultOfName [.ref (ad g 3), .int pa, .int cz, .int ix, .ref (ad g 6)] I J R (fun r I' J' R' => (XI g n L I' ∧ R' = R ∧ fz 74 g [4] I I' ∧ fz 74 g [] J J' ∧ True ∧ I' (ad g 4) 0 = I (ad g 4) 0 ∧ I' (ad g 6) 1 = I (ad g 6) 1 ∧ I' (ad g 6) 2 = I (ad g 6) 2) ∧ ∃ v : Int32, r = some (.int v) ∧ 0 ≤ v.toInt ∧ v.toInt ≤ 5 ∧ (v.toInt = 0 → (I' (ad g 4) 1).toInt ≤ 2)) := by
  refine SP_of ⟨by decide, rfl⟩ (Nat.le_of_ble_eq_true rfl) ?_
  have e6464 : I (ad g 1) 1 = L := hI.2
  have b6465 := BT_get hI.1 1 1 2 (0) (0) (900) (by decide) 1 (by decide) (by decide)
  rw [e6464] at b6465
  have fr0 : fz 74 g [4] I I := fz_rf
  have frj0 : fz 74 g [] J J := fz_rf
  obtain ⟨w6466, ew6466⟩ : ∃ w : Int32, I (ad g 4) 0 = w := ⟨_, rfl⟩
  have bw6466 := BT_get hI.1 4 0 5 (0) (0) (1000) (by decide) 0 (by decide) (by decide)
  rw [ew6466] at bw6466
  obtain ⟨w6467, ew6467⟩ : ∃ w : Int32, I (ad g 6) 1 = w := ⟨_, rfl⟩
  have bw6467 := BT_get hI.1 6 1 2 (0) (0) (4) (by decide) 1 (by decide) (by decide)
  rw [ew6467] at bw6467
  obtain ⟨w6468, ew6468⟩ : ∃ w : Int32, I (ad g 6) 2 = w := ⟨_, rfl⟩
  have bw6468 := BT_get hI.1 6 2 3 (0) (0) (3) (by decide) 2 (by decide) (by decide)
  rw [ew6468] at bw6468
  refine WP_iload_n dX3_faultOfName_0 rfl ?_
  refine WQ_bipush (115) (115) dX3_faultOfName_1 rfl rfl (fun v6469 hv6469 => ?_)
  refine WQ_icmp_eq 12 dX3_faultOfName_3 rfl (fun c6469 => False.elim (by omega)) (fun c6469 => ?_)
  refine WP_iload_n dX3_faultOfName_6 rfl ?_
  refine WQ_bipush (110) (110) dX3_faultOfName_7 rfl rfl (fun v6471 hv6471 => ?_)
  refine WQ_icmp_ne 16 dX3_faultOfName_9 rfl (fun c6471 => ?_) (fun c6471 => False.elim (by omega))
  refine WQ_iconst (0) (0) dX3_faultOfName_16 rfl rfl (fun v6473 hv6473 => ?_)
  refine WP_istore (ls' := [(0, _), (1, _), (2, _), (3, _), (4, _), (5, _)]) dX3_faultOfName_17 (by decide) rfl ?_
  refine WP_iload dX3_faultOfName_19 rfl ?_
  refine WQ_if_eq 39 dX3_faultOfName_21 rfl (fun c6473 => ?_) (fun c6473 => False.elim (by omega))
  refine WP_aload dX3_faultOfName_39 rfl ?_
  refine WP_aload_n dX3_faultOfName_41 rfl ?_
  refine WP_getr dX3_faultOfName_42 fX3_15 rfl (lyx_is hy 3 3 rfl) (rfx hr 3 2 1 (by decide)) ?_
  refine WQ_getl dX3_faultOfName_45 fX3_80 rfl (lyx_is hy 1 5 rfl) (fun l6475 el6475 => ?_)
  refine WP_callV1 (k := 7) dX3_faultOfName_48 ⟨⟨⟨by decide, by decide⟩, zX7_thingNamed⟩, lX3_107, by decide, rfl, vX7_thingNamed.1, vX7_thingNamed.2⟩ (lyx_is hy 6 7 rfl) (sx_thingNamed_6 hy hr hI l6475 ) (Nat.le_of_ble_eq_true rfl) ?_
  intro r Ia Ja Ra hq
  obtain ⟨⟨ea, eb, ec⟩, v6476, rfl, av6476, bv6476⟩ := hq
  show WP _ _ _ _ (.int _ :: _) _ _ _ _
  rw [ea, eb, ec]
  clear ea eb ec Ia Ja Ra
  refine WP_istore (ls' := [(0, _), (1, _), (2, _), (3, _), (4, _), (5, _), (6, _)]) dX3_faultOfName_51 (by decide) rfl ?_
  refine WP_iload_n dX3_faultOfName_53 rfl ?_
  refine WQ_bipush (110) (110) dX3_faultOfName_54 rfl rfl (fun v6477 hv6477 => ?_)
  refine WQ_icmp_eq 65 dX3_faultOfName_56 rfl (fun c6477 => False.elim (by omega)) (fun c6477 => ?_)
  refine WP_iload_n dX3_faultOfName_59 rfl ?_
  refine WQ_bipush (109) (109) dX3_faultOfName_60 rfl rfl (fun v6479 hv6479 => ?_)
  refine WQ_icmp_ne 98 dX3_faultOfName_62 rfl (fun c6479 => ?_) (fun c6479 => False.elim (by omega))
  refine WP_iload dX3_faultOfName_98 rfl ?_
  refine WQ_iconst (-1) (-1) dX3_faultOfName_100 rfl rfl (fun v6481 hv6481 => ?_)
  refine WQ_icmp_ne 106 dX3_faultOfName_101 rfl (fun c6481 => ?_) (fun c6481 => ?_)
  · refine WP_aload_n dX3_faultOfName_106 rfl ?_
    refine WP_getr dX3_faultOfName_107 fX3_9 rfl (lyx_is hy 3 3 rfl) (rfx hr 3 3 4 (by decide)) ?_
    refine WP_iload_n dX3_faultOfName_110 rfl ?_
    refine WP_iload dX3_faultOfName_111 rfl ?_
    refine WQ_iast dX3_faultOfName_113 (lyx_is hy 4 13 rfl) (lyx_n hy 4 5 rfl) (by omega) (by omega) (fun I6483 fI6483 => ?_)
    have eI6483 := fI6483
    rw [cl (x := ix) (n := 1) (by omega)] at eI6483
    clear fI6483
    have hI6483 : XI g n L I6483 := by rw [eI6483]; exact (xi_f hy hI (c := 4) (0) (0) (1000) (by decide) (Or.inl (by decide)) (by decide) (by omega) (by omega))
    have e6484 : I6483 (ad g 1) 1 = L := by rw [eI6483, pp_ne _ _ (Or.inl (lyx_ne hy (by decide) (by decide) (by decide)))]; exact e6464
    have e6485 : I6483 (ad g 4) 0 = w6466 := by rw [eI6483, pp_ne _ _ (Or.inr (by decide))]; exact ew6466
    have e6486 : I6483 (ad g 6) 1 = w6467 := by rw [eI6483, pp_ne _ _ (Or.inl (lyx_ne hy (by decide) (by decide) (by decide)))]; exact ew6467
    have e6487 : I6483 (ad g 6) 2 = w6468 := by rw [eI6483, pp_ne _ _ (Or.inl (lyx_ne hy (by decide) (by decide) (by decide)))]; exact ew6468
    have e6488 : I6483 (ad g 4) 1 = v6476 := by rw [eI6483, pp_self]
    have fr6489 : fz 74 g [4] I I6483 := by rw [eI6483]; exact fzx_pp hy fr0 (by decide) (by decide)
    clear eI6483
    refine WP_iload_n dX3_faultOfName_114 rfl ?_
    refine WQ_bipush (7) (7) dX3_faultOfName_115 rfl rfl (fun v6490 hv6490 => ?_)
    refine WQ_icmp_ne 137 dX3_faultOfName_117 rfl (fun c6490 => ?_) (fun c6490 => False.elim (by omega))
    refine WQ_iconst (0) (0) dX3_faultOfName_137 rfl rfl (fun v6492 hv6492 => ?_)
    exact WP_iret dX3_faultOfName_138 rfl ⟨⟨hI6483, rfl, fr6489, frj0, ⟨trivial, (by rw [e6485, ew6466] <;> exact (eq32 _ _).mpr (by omega)), (by rw [e6486, ew6467] <;> exact (eq32 _ _).mpr (by omega)), (by rw [e6487, ew6468] <;> exact (eq32 _ _).mpr (by omega))⟩⟩, _, rfl, by omega, by omega, by (try rw [e6488]); omega⟩
  · refine WQ_iconst (5) (5) dX3_faultOfName_104 rfl rfl (fun v6493 hv6493 => ?_)
    obtain ⟨w6494, ew6494⟩ : ∃ w : Int32, I (ad g 4) 1 = w := ⟨_, rfl⟩
    have bw6494 := BT_get hI.1 4 0 5 (0) (0) (1000) (by decide) 1 (by decide) (by decide)
    rw [ew6494] at bw6494
    exact WP_iret dX3_faultOfName_105 rfl ⟨⟨hI, rfl, fr0, frj0, ⟨trivial, rfl, rfl, rfl⟩⟩, _, rfl, by omega, by omega, by (try rw [ew6494]); omega⟩
set_option maxHeartbeats 4000000 in
set_option maxRecDepth 100000 in
theorem sx_part_6_10_2 {g : GG} {n : Int} {L : Int32} (hy : LyX g)  {I : pI} {J : pJ} {R : pR} (hr : RfX g R) (hI : XI g n L I) (pa : Int32) (cz : Int32) (ix : Int32) (pa_lo : 68 ≤ pa.toInt) (pa_hi : pa.toInt ≤ 68) (cz_lo : 10 ≤ cz.toInt) (cz_hi : cz.toInt ≤ 10) (ix_lo : 2 ≤ ix.toInt) (ix_hi : ix.toInt ≤ 2) (hb : (I (ad g 4) 0).toInt ≤ 3) : SP g mX3_faultOfNumber [.ref (ad g 3), .int pa, .int cz, .int ix, .ref (ad g 6)] I J R (fun r I' J' R' => (XI g n L I' ∧ R' = R ∧ fz 74 g [4] I I' ∧ fz 74 g [] J J' ∧ True ∧ I' (ad g 4) 0 = I (ad g 4) 0 ∧ I' (ad g 4) 1 = I (ad g 4) 1 ∧ I' (ad g 6) 1 = I (ad g 6) 1 ∧ I' (ad g 6) 2 = I (ad g 6) 2) ∧ ∃ v : Int32, r = some (.int v) ∧ 0 ≤ v.toInt ∧ v.toInt ≤ 5 ∧ (v.toInt = 0 → (I' (ad g 4) 2).toInt ≤ 6)) := by
  refine SP_of ⟨by decide, rfl⟩ (Nat.le_of_ble_eq_true rfl) ?_
  have e6495 : I (ad g 1) 1 = L := hI.2
  have b6496 := BT_get hI.1 1 1 2 (0) (0) (900) (by decide) 1 (by decide) (by decide)
  rw [e6495] at b6496
  have fr0 : fz 74 g [4] I I := fz_rf
  have frj0 : fz 74 g [] J J := fz_rf
  obtain ⟨w6497, ew6497⟩ : ∃ w : Int32, I (ad g 4) 0 = w := ⟨_, rfl⟩
  have bw6497 := BT_get hI.1 4 0 5 (0) (0) (1000) (by decide) 0 (by decide) (by decide)
  rw [ew6497] at bw6497
  obtain ⟨w6498, ew6498⟩ : ∃ w : Int32, I (ad g 4) 1 = w := ⟨_, rfl⟩
  have bw6498 := BT_get hI.1 4 0 5 (0) (0) (1000) (by decide) 1 (by decide) (by decide)
  rw [ew6498] at bw6498
  obtain ⟨w6499, ew6499⟩ : ∃ w : Int32, I (ad g 6) 1 = w := ⟨_, rfl⟩
  have bw6499 := BT_get hI.1 6 1 2 (0) (0) (4) (by decide) 1 (by decide) (by decide)
  rw [ew6499] at bw6499
  obtain ⟨w6500, ew6500⟩ : ∃ w : Int32, I (ad g 6) 2 = w := ⟨_, rfl⟩
  have bw6500 := BT_get hI.1 6 2 3 (0) (0) (3) (by decide) 2 (by decide) (by decide)
  rw [ew6500] at bw6500
  rw [ew6497] at hb
  refine WP_aload_n dX3_faultOfNumber_0 rfl ?_
  refine WP_getr dX3_faultOfNumber_1 fX3_15 rfl (lyx_is hy 3 3 rfl) (rfx hr 3 2 1 (by decide)) ?_
  refine WQ_getiu dX3_faultOfNumber_4 fX3_118 rfl (lyx_is hy 1 5 rfl) (fun v6501 ev6501 => ?_)
  refine WP_istore (ls' := [(0, _), (1, _), (2, _), (3, _), (4, _), (5, _)]) dX3_faultOfNumber_7 (by decide) rfl ?_
  refine WP_iload dX3_faultOfNumber_9 rfl ?_
  refine WP_iload_n dX3_faultOfNumber_11 rfl ?_
  refine WP_callS1 dX3_faultOfNumber_12 ⟨⟨⟨by decide, by decide⟩, zX3_leastOf⟩, lX3_121, tX3_leastOf⟩ (sx_leastOf hy hr hI pa ) (Nat.le_of_ble_eq_true rfl) ?_
  intro r Ia Ja Ra hq
  obtain ⟨⟨ea, eb, ec⟩, v6502, rfl, av6502, bv6502⟩ := hq
  show WP _ _ _ _ (.int _ :: _) _ _ _ _
  rw [ea, eb, ec]
  clear ea eb ec Ia Ja Ra
  refine WQ_icmp_lt 27 dX3_faultOfNumber_15 rfl (fun c6502 => ?_) (fun c6502 => ?_)
  · refine WQ_iconst (2) (2) dX3_faultOfNumber_27 rfl rfl (fun v6504 hv6504 => ?_)
    obtain ⟨w6505, ew6505⟩ : ∃ w : Int32, I (ad g 4) 2 = w := ⟨_, rfl⟩
    have bw6505 := BT_get hI.1 4 0 5 (0) (0) (1000) (by decide) 2 (by decide) (by decide)
    rw [ew6505] at bw6505
    exact WP_iret dX3_faultOfNumber_28 rfl ⟨⟨hI, rfl, fr0, frj0, ⟨trivial, rfl, rfl, rfl, rfl⟩⟩, _, rfl, by omega, by omega, by (try rw [ew6505]); omega⟩
  · refine WP_iload dX3_faultOfNumber_18 rfl ?_
    refine WP_iload_n dX3_faultOfNumber_20 rfl ?_
    refine WP_callS1 dX3_faultOfNumber_21 ⟨⟨⟨by decide, by decide⟩, zX3_mostOf⟩, lX3_125, tX3_mostOf⟩ (sx_mostOf hy hr hI pa ) (Nat.le_of_ble_eq_true rfl) ?_
    intro r Ia Ja Ra hq
    obtain ⟨⟨ea, eb, ec⟩, v6506, rfl, av6506, bv6506, cv6506⟩ := hq
    show WP _ _ _ _ (.int _ :: _) _ _ _ _
    rw [ea, eb, ec]
    clear ea eb ec Ia Ja Ra
    refine WQ_icmp_le 29 dX3_faultOfNumber_24 rfl (fun c6506 => ?_) (fun c6506 => ?_)
    · refine WP_aload_n dX3_faultOfNumber_29 rfl ?_
      refine WP_getr dX3_faultOfNumber_30 fX3_9 rfl (lyx_is hy 3 3 rfl) (rfx hr 3 3 4 (by decide)) ?_
      refine WP_iload_n dX3_faultOfNumber_33 rfl ?_
      refine WP_iload dX3_faultOfNumber_34 rfl ?_
      refine WQ_iast dX3_faultOfNumber_36 (lyx_is hy 4 13 rfl) (lyx_n hy 4 5 rfl) (by omega) (by omega) (fun I6508 fI6508 => ?_)
      have eI6508 := fI6508
      rw [cl (x := ix) (n := 2) (by omega)] at eI6508
      clear fI6508
      have hI6508 : XI g n L I6508 := by rw [eI6508]; exact (xi_f hy hI (c := 4) (0) (0) (1000) (by decide) (Or.inl (by decide)) (by decide) (by omega) (by omega))
      have e6509 : I6508 (ad g 1) 1 = L := by rw [eI6508, pp_ne _ _ (Or.inl (lyx_ne hy (by decide) (by decide) (by decide)))]; exact e6495
      have e6510 : I6508 (ad g 4) 0 = w6497 := by rw [eI6508, pp_ne _ _ (Or.inr (by decide))]; exact ew6497
      have e6511 : I6508 (ad g 4) 1 = w6498 := by rw [eI6508, pp_ne _ _ (Or.inr (by decide))]; exact ew6498
      have e6512 : I6508 (ad g 6) 1 = w6499 := by rw [eI6508, pp_ne _ _ (Or.inl (lyx_ne hy (by decide) (by decide) (by decide)))]; exact ew6499
      have e6513 : I6508 (ad g 6) 2 = w6500 := by rw [eI6508, pp_ne _ _ (Or.inl (lyx_ne hy (by decide) (by decide) (by decide)))]; exact ew6500
      have e6514 : I6508 (ad g 1) 4 = v6501 := by rw [eI6508, pp_ne _ _ (Or.inl (lyx_ne hy (by decide) (by decide) (by decide)))]; exact ev6501
      have e6515 : I6508 (ad g 4) 2 = v6501 := by rw [eI6508, pp_self]
      have fr6516 : fz 74 g [4] I I6508 := by rw [eI6508]; exact fzx_pp hy fr0 (by decide) (by decide)
      clear eI6508
      refine WP_iload_n dX3_faultOfNumber_37 rfl ?_
      refine WQ_bipush (68) (68) dX3_faultOfNumber_38 rfl rfl (fun v6517 hv6517 => ?_)
      refine WQ_icmp_eq 45 dX3_faultOfNumber_40 rfl (fun c6517 => ?_) (fun c6517 => False.elim (by omega))
      refine WP_aload dX3_faultOfNumber_45 rfl ?_
      refine WP_iload_n dX3_faultOfNumber_47 rfl ?_
      refine WP_iload_n dX3_faultOfNumber_48 rfl ?_
      refine WQ_if_ne 56 dX3_faultOfNumber_49 rfl (fun c6518 => ?_) (fun c6518 => False.elim (by omega))
      refine WP_aload_n dX3_faultOfNumber_56 rfl ?_
      refine WP_getr dX3_faultOfNumber_57 fX3_9 rfl (lyx_is hy 3 3 rfl) (rfx hr 3 3 4 (by decide)) ?_
      refine WQ_iconst (0) (0) dX3_faultOfNumber_60 rfl rfl (fun v6520 hv6520 => ?_)
      refine WQ_ialdm (z := 0) dX3_faultOfNumber_61 (lyx_is hy 4 13 rfl) (lyx_n hy 4 5 rfl) hv6520 (by decide) e6510 ?_
      refine WP_iload dX3_faultOfNumber_62 rfl ?_
      refine WP_callV3 (k := 7) dX3_faultOfNumber_64 ⟨⟨⟨by decide, by decide⟩, zX7_isTold⟩, lX3_114, by decide, rfl, vX7_isTold.1, vX7_isTold.2⟩ (lyx_is hy 6 7 rfl) (sx_isTold_6 hy hr hI6508 cz w6497 v6501 (by omega) (by omega) (by omega) (by omega) ) (Nat.le_of_ble_eq_true rfl) ?_
      intro r Ia Ja Ra hq
      obtain ⟨⟨ea, eb, ec⟩, v6522, rfl, av6522, bv6522⟩ := hq
      show WP _ _ _ _ (.int _ :: _) _ _ _ _
      rw [ea, eb, ec]
      clear ea eb ec Ia Ja Ra
      refine WQ_if_eq 74 dX3_faultOfNumber_67 rfl (fun c6522 => ?_) (fun c6522 => ?_)
      · refine WQ_iconst (0) (0) dX3_faultOfNumber_74 rfl rfl (fun v6524 hv6524 => ?_)
        exact WP_iret dX3_faultOfNumber_75 rfl ⟨⟨hI6508, rfl, fr6516, frj0, ⟨trivial, (by rw [e6510, ew6497] <;> exact (eq32 _ _).mpr (by omega)), (by rw [e6511, ew6498] <;> exact (eq32 _ _).mpr (by omega)), (by rw [e6512, ew6499] <;> exact (eq32 _ _).mpr (by omega)), (by rw [e6513, ew6500] <;> exact (eq32 _ _).mpr (by omega))⟩⟩, _, rfl, by omega, by omega, by (try rw [e6515]); omega⟩
      · refine WQ_iconst (3) (3) dX3_faultOfNumber_70 rfl rfl (fun v6525 hv6525 => ?_)
        refine WP_goto 75 dX3_faultOfNumber_71 rfl ?_
        exact WP_iret dX3_faultOfNumber_75 rfl ⟨⟨hI6508, rfl, fr6516, frj0, ⟨trivial, (by rw [e6510, ew6497] <;> exact (eq32 _ _).mpr (by omega)), (by rw [e6511, ew6498] <;> exact (eq32 _ _).mpr (by omega)), (by rw [e6512, ew6499] <;> exact (eq32 _ _).mpr (by omega)), (by rw [e6513, ew6500] <;> exact (eq32 _ _).mpr (by omega))⟩⟩, _, rfl, by omega, by omega, by (try rw [e6515]); omega⟩
    · refine WQ_iconst (2) (2) dX3_faultOfNumber_27 rfl rfl (fun v6526 hv6526 => ?_)
      obtain ⟨w6527, ew6527⟩ : ∃ w : Int32, I (ad g 4) 2 = w := ⟨_, rfl⟩
      have bw6527 := BT_get hI.1 4 0 5 (0) (0) (1000) (by decide) 2 (by decide) (by decide)
      rw [ew6527] at bw6527
      exact WP_iret dX3_faultOfNumber_28 rfl ⟨⟨hI, rfl, fr0, frj0, ⟨trivial, rfl, rfl, rfl, rfl⟩⟩, _, rfl, by omega, by omega, by (try rw [ew6527]); omega⟩
set_option maxHeartbeats 4000000 in
set_option maxRecDepth 100000 in
theorem sx_part_6_10_3 {g : GG} {n : Int} {L : Int32} (hy : LyX g)  {I : pI} {J : pJ} {R : pR} (hr : RfX g R) (hI : XI g n L I) (pa : Int32) (cz : Int32) (ix : Int32) (pa_lo : 85 ≤ pa.toInt) (pa_hi : pa.toInt ≤ 85) (cz_lo : 10 ≤ cz.toInt) (cz_hi : cz.toInt ≤ 10) (ix_lo : 3 ≤ ix.toInt) (ix_hi : ix.toInt ≤ 3) : SP g mX3_faultOfNumber [.ref (ad g 3), .int pa, .int cz, .int ix, .ref (ad g 6)] I J R (fun r I' J' R' => (XI g n L I' ∧ R' = R ∧ fz 74 g [4] I I' ∧ fz 74 g [] J J' ∧ True ∧ I' (ad g 4) 0 = I (ad g 4) 0 ∧ I' (ad g 4) 1 = I (ad g 4) 1 ∧ I' (ad g 4) 2 = I (ad g 4) 2 ∧ I' (ad g 6) 1 = I (ad g 6) 1 ∧ I' (ad g 6) 2 = I (ad g 6) 2) ∧ ∃ v : Int32, r = some (.int v) ∧ 0 ≤ v.toInt ∧ v.toInt ≤ 5 ∧ (v.toInt = 0 → (I' (ad g 4) 3).toInt ≤ 3)) := by
  refine SP_of ⟨by decide, rfl⟩ (Nat.le_of_ble_eq_true rfl) ?_
  have e6528 : I (ad g 1) 1 = L := hI.2
  have b6529 := BT_get hI.1 1 1 2 (0) (0) (900) (by decide) 1 (by decide) (by decide)
  rw [e6528] at b6529
  have fr0 : fz 74 g [4] I I := fz_rf
  have frj0 : fz 74 g [] J J := fz_rf
  obtain ⟨w6530, ew6530⟩ : ∃ w : Int32, I (ad g 4) 0 = w := ⟨_, rfl⟩
  have bw6530 := BT_get hI.1 4 0 5 (0) (0) (1000) (by decide) 0 (by decide) (by decide)
  rw [ew6530] at bw6530
  obtain ⟨w6531, ew6531⟩ : ∃ w : Int32, I (ad g 4) 1 = w := ⟨_, rfl⟩
  have bw6531 := BT_get hI.1 4 0 5 (0) (0) (1000) (by decide) 1 (by decide) (by decide)
  rw [ew6531] at bw6531
  obtain ⟨w6532, ew6532⟩ : ∃ w : Int32, I (ad g 4) 2 = w := ⟨_, rfl⟩
  have bw6532 := BT_get hI.1 4 0 5 (0) (0) (1000) (by decide) 2 (by decide) (by decide)
  rw [ew6532] at bw6532
  obtain ⟨w6533, ew6533⟩ : ∃ w : Int32, I (ad g 6) 1 = w := ⟨_, rfl⟩
  have bw6533 := BT_get hI.1 6 1 2 (0) (0) (4) (by decide) 1 (by decide) (by decide)
  rw [ew6533] at bw6533
  obtain ⟨w6534, ew6534⟩ : ∃ w : Int32, I (ad g 6) 2 = w := ⟨_, rfl⟩
  have bw6534 := BT_get hI.1 6 2 3 (0) (0) (3) (by decide) 2 (by decide) (by decide)
  rw [ew6534] at bw6534
  refine WP_aload_n dX3_faultOfNumber_0 rfl ?_
  refine WP_getr dX3_faultOfNumber_1 fX3_15 rfl (lyx_is hy 3 3 rfl) (rfx hr 3 2 1 (by decide)) ?_
  refine WQ_getiu dX3_faultOfNumber_4 fX3_118 rfl (lyx_is hy 1 5 rfl) (fun v6535 ev6535 => ?_)
  refine WP_istore (ls' := [(0, _), (1, _), (2, _), (3, _), (4, _), (5, _)]) dX3_faultOfNumber_7 (by decide) rfl ?_
  refine WP_iload dX3_faultOfNumber_9 rfl ?_
  refine WP_iload_n dX3_faultOfNumber_11 rfl ?_
  refine WP_callS1 dX3_faultOfNumber_12 ⟨⟨⟨by decide, by decide⟩, zX3_leastOf⟩, lX3_121, tX3_leastOf⟩ (sx_leastOf hy hr hI pa ) (Nat.le_of_ble_eq_true rfl) ?_
  intro r Ia Ja Ra hq
  obtain ⟨⟨ea, eb, ec⟩, v6536, rfl, av6536, bv6536⟩ := hq
  show WP _ _ _ _ (.int _ :: _) _ _ _ _
  rw [ea, eb, ec]
  clear ea eb ec Ia Ja Ra
  refine WQ_icmp_lt 27 dX3_faultOfNumber_15 rfl (fun c6536 => ?_) (fun c6536 => ?_)
  · refine WQ_iconst (2) (2) dX3_faultOfNumber_27 rfl rfl (fun v6538 hv6538 => ?_)
    obtain ⟨w6539, ew6539⟩ : ∃ w : Int32, I (ad g 4) 3 = w := ⟨_, rfl⟩
    have bw6539 := BT_get hI.1 4 0 5 (0) (0) (1000) (by decide) 3 (by decide) (by decide)
    rw [ew6539] at bw6539
    exact WP_iret dX3_faultOfNumber_28 rfl ⟨⟨hI, rfl, fr0, frj0, ⟨trivial, rfl, rfl, rfl, rfl, rfl⟩⟩, _, rfl, by omega, by omega, by (try rw [ew6539]); omega⟩
  · refine WP_iload dX3_faultOfNumber_18 rfl ?_
    refine WP_iload_n dX3_faultOfNumber_20 rfl ?_
    refine WP_callS1 dX3_faultOfNumber_21 ⟨⟨⟨by decide, by decide⟩, zX3_mostOf⟩, lX3_125, tX3_mostOf⟩ (sx_mostOf hy hr hI pa ) (Nat.le_of_ble_eq_true rfl) ?_
    intro r Ia Ja Ra hq
    obtain ⟨⟨ea, eb, ec⟩, v6540, rfl, av6540, bv6540, cv6540⟩ := hq
    show WP _ _ _ _ (.int _ :: _) _ _ _ _
    rw [ea, eb, ec]
    clear ea eb ec Ia Ja Ra
    refine WQ_icmp_le 29 dX3_faultOfNumber_24 rfl (fun c6540 => ?_) (fun c6540 => ?_)
    · refine WP_aload_n dX3_faultOfNumber_29 rfl ?_
      refine WP_getr dX3_faultOfNumber_30 fX3_9 rfl (lyx_is hy 3 3 rfl) (rfx hr 3 3 4 (by decide)) ?_
      refine WP_iload_n dX3_faultOfNumber_33 rfl ?_
      refine WP_iload dX3_faultOfNumber_34 rfl ?_
      refine WQ_iast dX3_faultOfNumber_36 (lyx_is hy 4 13 rfl) (lyx_n hy 4 5 rfl) (by omega) (by omega) (fun I6542 fI6542 => ?_)
      have eI6542 := fI6542
      rw [cl (x := ix) (n := 3) (by omega)] at eI6542
      clear fI6542
      have hI6542 : XI g n L I6542 := by rw [eI6542]; exact (xi_f hy hI (c := 4) (0) (0) (1000) (by decide) (Or.inl (by decide)) (by decide) (by omega) (by omega))
      have e6543 : I6542 (ad g 1) 1 = L := by rw [eI6542, pp_ne _ _ (Or.inl (lyx_ne hy (by decide) (by decide) (by decide)))]; exact e6528
      have e6544 : I6542 (ad g 4) 0 = w6530 := by rw [eI6542, pp_ne _ _ (Or.inr (by decide))]; exact ew6530
      have e6545 : I6542 (ad g 4) 1 = w6531 := by rw [eI6542, pp_ne _ _ (Or.inr (by decide))]; exact ew6531
      have e6546 : I6542 (ad g 4) 2 = w6532 := by rw [eI6542, pp_ne _ _ (Or.inr (by decide))]; exact ew6532
      have e6547 : I6542 (ad g 6) 1 = w6533 := by rw [eI6542, pp_ne _ _ (Or.inl (lyx_ne hy (by decide) (by decide) (by decide)))]; exact ew6533
      have e6548 : I6542 (ad g 6) 2 = w6534 := by rw [eI6542, pp_ne _ _ (Or.inl (lyx_ne hy (by decide) (by decide) (by decide)))]; exact ew6534
      have e6549 : I6542 (ad g 1) 4 = v6535 := by rw [eI6542, pp_ne _ _ (Or.inl (lyx_ne hy (by decide) (by decide) (by decide)))]; exact ev6535
      have e6550 : I6542 (ad g 4) 3 = v6535 := by rw [eI6542, pp_self]
      have fr6551 : fz 74 g [4] I I6542 := by rw [eI6542]; exact fzx_pp hy fr0 (by decide) (by decide)
      clear eI6542
      refine WP_iload_n dX3_faultOfNumber_37 rfl ?_
      refine WQ_bipush (68) (68) dX3_faultOfNumber_38 rfl rfl (fun v6552 hv6552 => ?_)
      refine WQ_icmp_eq 45 dX3_faultOfNumber_40 rfl (fun c6552 => False.elim (by omega)) (fun c6552 => ?_)
      refine WQ_iconst (0) (0) dX3_faultOfNumber_43 rfl rfl (fun v6554 hv6554 => ?_)
      exact WP_iret dX3_faultOfNumber_44 rfl ⟨⟨hI6542, rfl, fr6551, frj0, ⟨trivial, (by rw [e6544, ew6530] <;> exact (eq32 _ _).mpr (by omega)), (by rw [e6545, ew6531] <;> exact (eq32 _ _).mpr (by omega)), (by rw [e6546, ew6532] <;> exact (eq32 _ _).mpr (by omega)), (by rw [e6547, ew6533] <;> exact (eq32 _ _).mpr (by omega)), (by rw [e6548, ew6534] <;> exact (eq32 _ _).mpr (by omega))⟩⟩, _, rfl, by omega, by omega, by (try rw [e6550]); omega⟩
    · refine WQ_iconst (2) (2) dX3_faultOfNumber_27 rfl rfl (fun v6555 hv6555 => ?_)
      obtain ⟨w6556, ew6556⟩ : ∃ w : Int32, I (ad g 4) 3 = w := ⟨_, rfl⟩
      have bw6556 := BT_get hI.1 4 0 5 (0) (0) (1000) (by decide) 3 (by decide) (by decide)
      rw [ew6556] at bw6556
      exact WP_iret dX3_faultOfNumber_28 rfl ⟨⟨hI, rfl, fr0, frj0, ⟨trivial, rfl, rfl, rfl, rfl, rfl⟩⟩, _, rfl, by omega, by omega, by (try rw [ew6556]); omega⟩
set_option maxHeartbeats 4000000 in
set_option maxRecDepth 100000 in
theorem sx_part_6_10_4 {g : GG} {n : Int} {L : Int32} (hy : LyX g)  {I : pI} {J : pJ} {R : pR} (hr : RfX g R) (hI : XI g n L I) (pa : Int32) (cz : Int32) (ix : Int32) (pa_lo : 80 ≤ pa.toInt) (pa_hi : pa.toInt ≤ 80) (cz_lo : 10 ≤ cz.toInt) (cz_hi : cz.toInt ≤ 10) (ix_lo : 4 ≤ ix.toInt) (ix_hi : ix.toInt ≤ 4) : SP g mX3_faultOfNumber [.ref (ad g 3), .int pa, .int cz, .int ix, .ref (ad g 6)] I J R (fun r I' J' R' => (XI g n L I' ∧ R' = R ∧ fz 74 g [4] I I' ∧ fz 74 g [] J J' ∧ True ∧ I' (ad g 4) 0 = I (ad g 4) 0 ∧ I' (ad g 4) 1 = I (ad g 4) 1 ∧ I' (ad g 4) 2 = I (ad g 4) 2 ∧ I' (ad g 4) 3 = I (ad g 4) 3 ∧ I' (ad g 6) 1 = I (ad g 6) 1 ∧ I' (ad g 6) 2 = I (ad g 6) 2) ∧ ∃ v : Int32, r = some (.int v) ∧ 0 ≤ v.toInt ∧ v.toInt ≤ 5 ∧ (v.toInt = 0 → (I' (ad g 4) 4).toInt ≤ 99)) := by
  refine SP_of ⟨by decide, rfl⟩ (Nat.le_of_ble_eq_true rfl) ?_
  have e6557 : I (ad g 1) 1 = L := hI.2
  have b6558 := BT_get hI.1 1 1 2 (0) (0) (900) (by decide) 1 (by decide) (by decide)
  rw [e6557] at b6558
  have fr0 : fz 74 g [4] I I := fz_rf
  have frj0 : fz 74 g [] J J := fz_rf
  obtain ⟨w6559, ew6559⟩ : ∃ w : Int32, I (ad g 4) 0 = w := ⟨_, rfl⟩
  have bw6559 := BT_get hI.1 4 0 5 (0) (0) (1000) (by decide) 0 (by decide) (by decide)
  rw [ew6559] at bw6559
  obtain ⟨w6560, ew6560⟩ : ∃ w : Int32, I (ad g 4) 1 = w := ⟨_, rfl⟩
  have bw6560 := BT_get hI.1 4 0 5 (0) (0) (1000) (by decide) 1 (by decide) (by decide)
  rw [ew6560] at bw6560
  obtain ⟨w6561, ew6561⟩ : ∃ w : Int32, I (ad g 4) 2 = w := ⟨_, rfl⟩
  have bw6561 := BT_get hI.1 4 0 5 (0) (0) (1000) (by decide) 2 (by decide) (by decide)
  rw [ew6561] at bw6561
  obtain ⟨w6562, ew6562⟩ : ∃ w : Int32, I (ad g 4) 3 = w := ⟨_, rfl⟩
  have bw6562 := BT_get hI.1 4 0 5 (0) (0) (1000) (by decide) 3 (by decide) (by decide)
  rw [ew6562] at bw6562
  obtain ⟨w6563, ew6563⟩ : ∃ w : Int32, I (ad g 6) 1 = w := ⟨_, rfl⟩
  have bw6563 := BT_get hI.1 6 1 2 (0) (0) (4) (by decide) 1 (by decide) (by decide)
  rw [ew6563] at bw6563
  obtain ⟨w6564, ew6564⟩ : ∃ w : Int32, I (ad g 6) 2 = w := ⟨_, rfl⟩
  have bw6564 := BT_get hI.1 6 2 3 (0) (0) (3) (by decide) 2 (by decide) (by decide)
  rw [ew6564] at bw6564
  refine WP_aload_n dX3_faultOfNumber_0 rfl ?_
  refine WP_getr dX3_faultOfNumber_1 fX3_15 rfl (lyx_is hy 3 3 rfl) (rfx hr 3 2 1 (by decide)) ?_
  refine WQ_getiu dX3_faultOfNumber_4 fX3_118 rfl (lyx_is hy 1 5 rfl) (fun v6565 ev6565 => ?_)
  refine WP_istore (ls' := [(0, _), (1, _), (2, _), (3, _), (4, _), (5, _)]) dX3_faultOfNumber_7 (by decide) rfl ?_
  refine WP_iload dX3_faultOfNumber_9 rfl ?_
  refine WP_iload_n dX3_faultOfNumber_11 rfl ?_
  refine WP_callS1 dX3_faultOfNumber_12 ⟨⟨⟨by decide, by decide⟩, zX3_leastOf⟩, lX3_121, tX3_leastOf⟩ (sx_leastOf hy hr hI pa ) (Nat.le_of_ble_eq_true rfl) ?_
  intro r Ia Ja Ra hq
  obtain ⟨⟨ea, eb, ec⟩, v6566, rfl, av6566, bv6566⟩ := hq
  show WP _ _ _ _ (.int _ :: _) _ _ _ _
  rw [ea, eb, ec]
  clear ea eb ec Ia Ja Ra
  refine WQ_icmp_lt 27 dX3_faultOfNumber_15 rfl (fun c6566 => ?_) (fun c6566 => ?_)
  · refine WQ_iconst (2) (2) dX3_faultOfNumber_27 rfl rfl (fun v6568 hv6568 => ?_)
    obtain ⟨w6569, ew6569⟩ : ∃ w : Int32, I (ad g 4) 4 = w := ⟨_, rfl⟩
    have bw6569 := BT_get hI.1 4 0 5 (0) (0) (1000) (by decide) 4 (by decide) (by decide)
    rw [ew6569] at bw6569
    exact WP_iret dX3_faultOfNumber_28 rfl ⟨⟨hI, rfl, fr0, frj0, ⟨trivial, rfl, rfl, rfl, rfl, rfl, rfl⟩⟩, _, rfl, by omega, by omega, by (try rw [ew6569]); omega⟩
  · refine WP_iload dX3_faultOfNumber_18 rfl ?_
    refine WP_iload_n dX3_faultOfNumber_20 rfl ?_
    refine WP_callS1 dX3_faultOfNumber_21 ⟨⟨⟨by decide, by decide⟩, zX3_mostOf⟩, lX3_125, tX3_mostOf⟩ (sx_mostOf hy hr hI pa ) (Nat.le_of_ble_eq_true rfl) ?_
    intro r Ia Ja Ra hq
    obtain ⟨⟨ea, eb, ec⟩, v6570, rfl, av6570, bv6570, cv6570⟩ := hq
    show WP _ _ _ _ (.int _ :: _) _ _ _ _
    rw [ea, eb, ec]
    clear ea eb ec Ia Ja Ra
    refine WQ_icmp_le 29 dX3_faultOfNumber_24 rfl (fun c6570 => ?_) (fun c6570 => ?_)
    · refine WP_aload_n dX3_faultOfNumber_29 rfl ?_
      refine WP_getr dX3_faultOfNumber_30 fX3_9 rfl (lyx_is hy 3 3 rfl) (rfx hr 3 3 4 (by decide)) ?_
      refine WP_iload_n dX3_faultOfNumber_33 rfl ?_
      refine WP_iload dX3_faultOfNumber_34 rfl ?_
      refine WQ_iast dX3_faultOfNumber_36 (lyx_is hy 4 13 rfl) (lyx_n hy 4 5 rfl) (by omega) (by omega) (fun I6572 fI6572 => ?_)
      have eI6572 := fI6572
      rw [cl (x := ix) (n := 4) (by omega)] at eI6572
      clear fI6572
      have hI6572 : XI g n L I6572 := by rw [eI6572]; exact (xi_f hy hI (c := 4) (0) (0) (1000) (by decide) (Or.inl (by decide)) (by decide) (by omega) (by omega))
      have e6573 : I6572 (ad g 1) 1 = L := by rw [eI6572, pp_ne _ _ (Or.inl (lyx_ne hy (by decide) (by decide) (by decide)))]; exact e6557
      have e6574 : I6572 (ad g 4) 0 = w6559 := by rw [eI6572, pp_ne _ _ (Or.inr (by decide))]; exact ew6559
      have e6575 : I6572 (ad g 4) 1 = w6560 := by rw [eI6572, pp_ne _ _ (Or.inr (by decide))]; exact ew6560
      have e6576 : I6572 (ad g 4) 2 = w6561 := by rw [eI6572, pp_ne _ _ (Or.inr (by decide))]; exact ew6561
      have e6577 : I6572 (ad g 4) 3 = w6562 := by rw [eI6572, pp_ne _ _ (Or.inr (by decide))]; exact ew6562
      have e6578 : I6572 (ad g 6) 1 = w6563 := by rw [eI6572, pp_ne _ _ (Or.inl (lyx_ne hy (by decide) (by decide) (by decide)))]; exact ew6563
      have e6579 : I6572 (ad g 6) 2 = w6564 := by rw [eI6572, pp_ne _ _ (Or.inl (lyx_ne hy (by decide) (by decide) (by decide)))]; exact ew6564
      have e6580 : I6572 (ad g 1) 4 = v6565 := by rw [eI6572, pp_ne _ _ (Or.inl (lyx_ne hy (by decide) (by decide) (by decide)))]; exact ev6565
      have e6581 : I6572 (ad g 4) 4 = v6565 := by rw [eI6572, pp_self]
      have fr6582 : fz 74 g [4] I I6572 := by rw [eI6572]; exact fzx_pp hy fr0 (by decide) (by decide)
      clear eI6572
      refine WP_iload_n dX3_faultOfNumber_37 rfl ?_
      refine WQ_bipush (68) (68) dX3_faultOfNumber_38 rfl rfl (fun v6583 hv6583 => ?_)
      refine WQ_icmp_eq 45 dX3_faultOfNumber_40 rfl (fun c6583 => False.elim (by omega)) (fun c6583 => ?_)
      refine WQ_iconst (0) (0) dX3_faultOfNumber_43 rfl rfl (fun v6585 hv6585 => ?_)
      exact WP_iret dX3_faultOfNumber_44 rfl ⟨⟨hI6572, rfl, fr6582, frj0, ⟨trivial, (by rw [e6574, ew6559] <;> exact (eq32 _ _).mpr (by omega)), (by rw [e6575, ew6560] <;> exact (eq32 _ _).mpr (by omega)), (by rw [e6576, ew6561] <;> exact (eq32 _ _).mpr (by omega)), (by rw [e6577, ew6562] <;> exact (eq32 _ _).mpr (by omega)), (by rw [e6578, ew6563] <;> exact (eq32 _ _).mpr (by omega)), (by rw [e6579, ew6564] <;> exact (eq32 _ _).mpr (by omega))⟩⟩, _, rfl, by omega, by omega, by (try rw [e6581]); omega⟩
    · refine WQ_iconst (2) (2) dX3_faultOfNumber_27 rfl rfl (fun v6586 hv6586 => ?_)
      obtain ⟨w6587, ew6587⟩ : ∃ w : Int32, I (ad g 4) 4 = w := ⟨_, rfl⟩
      have bw6587 := BT_get hI.1 4 0 5 (0) (0) (1000) (by decide) 4 (by decide) (by decide)
      rw [ew6587] at bw6587
      exact WP_iret dX3_faultOfNumber_28 rfl ⟨⟨hI, rfl, fr0, frj0, ⟨trivial, rfl, rfl, rfl, rfl, rfl, rfl⟩⟩, _, rfl, by omega, by omega, by (try rw [ew6587]); omega⟩
set_option maxHeartbeats 4000000 in
set_option maxRecDepth 100000 in
theorem sx_part_6_11_0 {g : GG} {n : Int} {L : Int32} (hy : LyX g)  {I : pI} {J : pJ} {R : pR} (hr : RfX g R) (hI : XI g n L I) (pa : Int32) (cz : Int32) (ix : Int32) (pa_lo : 86 ≤ pa.toInt) (pa_hi : pa.toInt ≤ 86) (cz_lo : 11 ≤ cz.toInt) (cz_hi : cz.toInt ≤ 11) (ix_lo : 0 ≤ ix.toInt) (ix_hi : ix.toInt ≤ 0) : SP g mX3_faultOfNumber [.ref (ad g 3), .int pa, .int cz, .int ix, .ref (ad g 6)] I J R (fun r I' J' R' => (XI g n L I' ∧ R' = R ∧ fz 74 g [4] I I' ∧ fz 74 g [] J J' ∧ True ∧ I' (ad g 6) 1 = I (ad g 6) 1 ∧ I' (ad g 6) 2 = I (ad g 6) 2) ∧ ∃ v : Int32, r = some (.int v) ∧ 0 ≤ v.toInt ∧ v.toInt ≤ 5 ∧ (v.toInt = 0 → (I' (ad g 4) 0).toInt ≤ 99)) := by
  refine SP_of ⟨by decide, rfl⟩ (Nat.le_of_ble_eq_true rfl) ?_
  have e6588 : I (ad g 1) 1 = L := hI.2
  have b6589 := BT_get hI.1 1 1 2 (0) (0) (900) (by decide) 1 (by decide) (by decide)
  rw [e6588] at b6589
  have fr0 : fz 74 g [4] I I := fz_rf
  have frj0 : fz 74 g [] J J := fz_rf
  obtain ⟨w6590, ew6590⟩ : ∃ w : Int32, I (ad g 6) 1 = w := ⟨_, rfl⟩
  have bw6590 := BT_get hI.1 6 1 2 (0) (0) (4) (by decide) 1 (by decide) (by decide)
  rw [ew6590] at bw6590
  obtain ⟨w6591, ew6591⟩ : ∃ w : Int32, I (ad g 6) 2 = w := ⟨_, rfl⟩
  have bw6591 := BT_get hI.1 6 2 3 (0) (0) (3) (by decide) 2 (by decide) (by decide)
  rw [ew6591] at bw6591
  refine WP_aload_n dX3_faultOfNumber_0 rfl ?_
  refine WP_getr dX3_faultOfNumber_1 fX3_15 rfl (lyx_is hy 3 3 rfl) (rfx hr 3 2 1 (by decide)) ?_
  refine WQ_getiu dX3_faultOfNumber_4 fX3_118 rfl (lyx_is hy 1 5 rfl) (fun v6592 ev6592 => ?_)
  refine WP_istore (ls' := [(0, _), (1, _), (2, _), (3, _), (4, _), (5, _)]) dX3_faultOfNumber_7 (by decide) rfl ?_
  refine WP_iload dX3_faultOfNumber_9 rfl ?_
  refine WP_iload_n dX3_faultOfNumber_11 rfl ?_
  refine WP_callS1 dX3_faultOfNumber_12 ⟨⟨⟨by decide, by decide⟩, zX3_leastOf⟩, lX3_121, tX3_leastOf⟩ (sx_leastOf hy hr hI pa ) (Nat.le_of_ble_eq_true rfl) ?_
  intro r Ia Ja Ra hq
  obtain ⟨⟨ea, eb, ec⟩, v6593, rfl, av6593, bv6593⟩ := hq
  show WP _ _ _ _ (.int _ :: _) _ _ _ _
  rw [ea, eb, ec]
  clear ea eb ec Ia Ja Ra
  refine WQ_icmp_lt 27 dX3_faultOfNumber_15 rfl (fun c6593 => ?_) (fun c6593 => ?_)
  · refine WQ_iconst (2) (2) dX3_faultOfNumber_27 rfl rfl (fun v6595 hv6595 => ?_)
    obtain ⟨w6596, ew6596⟩ : ∃ w : Int32, I (ad g 4) 0 = w := ⟨_, rfl⟩
    have bw6596 := BT_get hI.1 4 0 5 (0) (0) (1000) (by decide) 0 (by decide) (by decide)
    rw [ew6596] at bw6596
    exact WP_iret dX3_faultOfNumber_28 rfl ⟨⟨hI, rfl, fr0, frj0, ⟨trivial, rfl, rfl⟩⟩, _, rfl, by omega, by omega, by (try rw [ew6596]); omega⟩
  · refine WP_iload dX3_faultOfNumber_18 rfl ?_
    refine WP_iload_n dX3_faultOfNumber_20 rfl ?_
    refine WP_callS1 dX3_faultOfNumber_21 ⟨⟨⟨by decide, by decide⟩, zX3_mostOf⟩, lX3_125, tX3_mostOf⟩ (sx_mostOf hy hr hI pa ) (Nat.le_of_ble_eq_true rfl) ?_
    intro r Ia Ja Ra hq
    obtain ⟨⟨ea, eb, ec⟩, v6597, rfl, av6597, bv6597, cv6597⟩ := hq
    show WP _ _ _ _ (.int _ :: _) _ _ _ _
    rw [ea, eb, ec]
    clear ea eb ec Ia Ja Ra
    refine WQ_icmp_le 29 dX3_faultOfNumber_24 rfl (fun c6597 => ?_) (fun c6597 => ?_)
    · refine WP_aload_n dX3_faultOfNumber_29 rfl ?_
      refine WP_getr dX3_faultOfNumber_30 fX3_9 rfl (lyx_is hy 3 3 rfl) (rfx hr 3 3 4 (by decide)) ?_
      refine WP_iload_n dX3_faultOfNumber_33 rfl ?_
      refine WP_iload dX3_faultOfNumber_34 rfl ?_
      refine WQ_iast dX3_faultOfNumber_36 (lyx_is hy 4 13 rfl) (lyx_n hy 4 5 rfl) (by omega) (by omega) (fun I6599 fI6599 => ?_)
      have eI6599 := fI6599
      rw [cl (x := ix) (n := 0) (by omega)] at eI6599
      clear fI6599
      have hI6599 : XI g n L I6599 := by rw [eI6599]; exact (xi_f hy hI (c := 4) (0) (0) (1000) (by decide) (Or.inl (by decide)) (by decide) (by omega) (by omega))
      have e6600 : I6599 (ad g 1) 1 = L := by rw [eI6599, pp_ne _ _ (Or.inl (lyx_ne hy (by decide) (by decide) (by decide)))]; exact e6588
      have e6601 : I6599 (ad g 6) 1 = w6590 := by rw [eI6599, pp_ne _ _ (Or.inl (lyx_ne hy (by decide) (by decide) (by decide)))]; exact ew6590
      have e6602 : I6599 (ad g 6) 2 = w6591 := by rw [eI6599, pp_ne _ _ (Or.inl (lyx_ne hy (by decide) (by decide) (by decide)))]; exact ew6591
      have e6603 : I6599 (ad g 1) 4 = v6592 := by rw [eI6599, pp_ne _ _ (Or.inl (lyx_ne hy (by decide) (by decide) (by decide)))]; exact ev6592
      have e6604 : I6599 (ad g 4) 0 = v6592 := by rw [eI6599, pp_self]
      have fr6605 : fz 74 g [4] I I6599 := by rw [eI6599]; exact fzx_pp hy fr0 (by decide) (by decide)
      clear eI6599
      refine WP_iload_n dX3_faultOfNumber_37 rfl ?_
      refine WQ_bipush (68) (68) dX3_faultOfNumber_38 rfl rfl (fun v6606 hv6606 => ?_)
      refine WQ_icmp_eq 45 dX3_faultOfNumber_40 rfl (fun c6606 => False.elim (by omega)) (fun c6606 => ?_)
      refine WQ_iconst (0) (0) dX3_faultOfNumber_43 rfl rfl (fun v6608 hv6608 => ?_)
      exact WP_iret dX3_faultOfNumber_44 rfl ⟨⟨hI6599, rfl, fr6605, frj0, ⟨trivial, (by rw [e6601, ew6590] <;> exact (eq32 _ _).mpr (by omega)), (by rw [e6602, ew6591] <;> exact (eq32 _ _).mpr (by omega))⟩⟩, _, rfl, by omega, by omega, by (try rw [e6604]); omega⟩
    · refine WQ_iconst (2) (2) dX3_faultOfNumber_27 rfl rfl (fun v6609 hv6609 => ?_)
      obtain ⟨w6610, ew6610⟩ : ∃ w : Int32, I (ad g 4) 0 = w := ⟨_, rfl⟩
      have bw6610 := BT_get hI.1 4 0 5 (0) (0) (1000) (by decide) 0 (by decide) (by decide)
      rw [ew6610] at bw6610
      exact WP_iret dX3_faultOfNumber_28 rfl ⟨⟨hI, rfl, fr0, frj0, ⟨trivial, rfl, rfl⟩⟩, _, rfl, by omega, by omega, by (try rw [ew6610]); omega⟩
set_option maxHeartbeats 4000000 in
set_option maxRecDepth 100000 in
theorem sx_part_6_11_1 {g : GG} {n : Int} {L : Int32} (hy : LyX g)  {I : pI} {J : pJ} {R : pR} (hr : RfX g R) (hI : XI g n L I) (pa : Int32) (cz : Int32) (ix : Int32) (pa_lo : 86 ≤ pa.toInt) (pa_hi : pa.toInt ≤ 86) (cz_lo : 11 ≤ cz.toInt) (cz_hi : cz.toInt ≤ 11) (ix_lo : 1 ≤ ix.toInt) (ix_hi : ix.toInt ≤ 1) : SP g mX3_faultOfNumber [.ref (ad g 3), .int pa, .int cz, .int ix, .ref (ad g 6)] I J R (fun r I' J' R' => (XI g n L I' ∧ R' = R ∧ fz 74 g [4] I I' ∧ fz 74 g [] J J' ∧ True ∧ I' (ad g 4) 0 = I (ad g 4) 0 ∧ I' (ad g 6) 1 = I (ad g 6) 1 ∧ I' (ad g 6) 2 = I (ad g 6) 2) ∧ ∃ v : Int32, r = some (.int v) ∧ 0 ≤ v.toInt ∧ v.toInt ≤ 5 ∧ (v.toInt = 0 → (I' (ad g 4) 1).toInt ≤ 99)) := by
  refine SP_of ⟨by decide, rfl⟩ (Nat.le_of_ble_eq_true rfl) ?_
  have e6611 : I (ad g 1) 1 = L := hI.2
  have b6612 := BT_get hI.1 1 1 2 (0) (0) (900) (by decide) 1 (by decide) (by decide)
  rw [e6611] at b6612
  have fr0 : fz 74 g [4] I I := fz_rf
  have frj0 : fz 74 g [] J J := fz_rf
  obtain ⟨w6613, ew6613⟩ : ∃ w : Int32, I (ad g 4) 0 = w := ⟨_, rfl⟩
  have bw6613 := BT_get hI.1 4 0 5 (0) (0) (1000) (by decide) 0 (by decide) (by decide)
  rw [ew6613] at bw6613
  obtain ⟨w6614, ew6614⟩ : ∃ w : Int32, I (ad g 6) 1 = w := ⟨_, rfl⟩
  have bw6614 := BT_get hI.1 6 1 2 (0) (0) (4) (by decide) 1 (by decide) (by decide)
  rw [ew6614] at bw6614
  obtain ⟨w6615, ew6615⟩ : ∃ w : Int32, I (ad g 6) 2 = w := ⟨_, rfl⟩
  have bw6615 := BT_get hI.1 6 2 3 (0) (0) (3) (by decide) 2 (by decide) (by decide)
  rw [ew6615] at bw6615
  refine WP_aload_n dX3_faultOfNumber_0 rfl ?_
  refine WP_getr dX3_faultOfNumber_1 fX3_15 rfl (lyx_is hy 3 3 rfl) (rfx hr 3 2 1 (by decide)) ?_
  refine WQ_getiu dX3_faultOfNumber_4 fX3_118 rfl (lyx_is hy 1 5 rfl) (fun v6616 ev6616 => ?_)
  refine WP_istore (ls' := [(0, _), (1, _), (2, _), (3, _), (4, _), (5, _)]) dX3_faultOfNumber_7 (by decide) rfl ?_
  refine WP_iload dX3_faultOfNumber_9 rfl ?_
  refine WP_iload_n dX3_faultOfNumber_11 rfl ?_
  refine WP_callS1 dX3_faultOfNumber_12 ⟨⟨⟨by decide, by decide⟩, zX3_leastOf⟩, lX3_121, tX3_leastOf⟩ (sx_leastOf hy hr hI pa ) (Nat.le_of_ble_eq_true rfl) ?_
  intro r Ia Ja Ra hq
  obtain ⟨⟨ea, eb, ec⟩, v6617, rfl, av6617, bv6617⟩ := hq
  show WP _ _ _ _ (.int _ :: _) _ _ _ _
  rw [ea, eb, ec]
  clear ea eb ec Ia Ja Ra
  refine WQ_icmp_lt 27 dX3_faultOfNumber_15 rfl (fun c6617 => ?_) (fun c6617 => ?_)
  · refine WQ_iconst (2) (2) dX3_faultOfNumber_27 rfl rfl (fun v6619 hv6619 => ?_)
    obtain ⟨w6620, ew6620⟩ : ∃ w : Int32, I (ad g 4) 1 = w := ⟨_, rfl⟩
    have bw6620 := BT_get hI.1 4 0 5 (0) (0) (1000) (by decide) 1 (by decide) (by decide)
    rw [ew6620] at bw6620
    exact WP_iret dX3_faultOfNumber_28 rfl ⟨⟨hI, rfl, fr0, frj0, ⟨trivial, rfl, rfl, rfl⟩⟩, _, rfl, by omega, by omega, by (try rw [ew6620]); omega⟩
  · refine WP_iload dX3_faultOfNumber_18 rfl ?_
    refine WP_iload_n dX3_faultOfNumber_20 rfl ?_
    refine WP_callS1 dX3_faultOfNumber_21 ⟨⟨⟨by decide, by decide⟩, zX3_mostOf⟩, lX3_125, tX3_mostOf⟩ (sx_mostOf hy hr hI pa ) (Nat.le_of_ble_eq_true rfl) ?_
    intro r Ia Ja Ra hq
    obtain ⟨⟨ea, eb, ec⟩, v6621, rfl, av6621, bv6621, cv6621⟩ := hq
    show WP _ _ _ _ (.int _ :: _) _ _ _ _
    rw [ea, eb, ec]
    clear ea eb ec Ia Ja Ra
    refine WQ_icmp_le 29 dX3_faultOfNumber_24 rfl (fun c6621 => ?_) (fun c6621 => ?_)
    · refine WP_aload_n dX3_faultOfNumber_29 rfl ?_
      refine WP_getr dX3_faultOfNumber_30 fX3_9 rfl (lyx_is hy 3 3 rfl) (rfx hr 3 3 4 (by decide)) ?_
      refine WP_iload_n dX3_faultOfNumber_33 rfl ?_
      refine WP_iload dX3_faultOfNumber_34 rfl ?_
      refine WQ_iast dX3_faultOfNumber_36 (lyx_is hy 4 13 rfl) (lyx_n hy 4 5 rfl) (by omega) (by omega) (fun I6623 fI6623 => ?_)
      have eI6623 := fI6623
      rw [cl (x := ix) (n := 1) (by omega)] at eI6623
      clear fI6623
      have hI6623 : XI g n L I6623 := by rw [eI6623]; exact (xi_f hy hI (c := 4) (0) (0) (1000) (by decide) (Or.inl (by decide)) (by decide) (by omega) (by omega))
      have e6624 : I6623 (ad g 1) 1 = L := by rw [eI6623, pp_ne _ _ (Or.inl (lyx_ne hy (by decide) (by decide) (by decide)))]; exact e6611
      have e6625 : I6623 (ad g 4) 0 = w6613 := by rw [eI6623, pp_ne _ _ (Or.inr (by decide))]; exact ew6613
      have e6626 : I6623 (ad g 6) 1 = w6614 := by rw [eI6623, pp_ne _ _ (Or.inl (lyx_ne hy (by decide) (by decide) (by decide)))]; exact ew6614
      have e6627 : I6623 (ad g 6) 2 = w6615 := by rw [eI6623, pp_ne _ _ (Or.inl (lyx_ne hy (by decide) (by decide) (by decide)))]; exact ew6615
      have e6628 : I6623 (ad g 1) 4 = v6616 := by rw [eI6623, pp_ne _ _ (Or.inl (lyx_ne hy (by decide) (by decide) (by decide)))]; exact ev6616
      have e6629 : I6623 (ad g 4) 1 = v6616 := by rw [eI6623, pp_self]
      have fr6630 : fz 74 g [4] I I6623 := by rw [eI6623]; exact fzx_pp hy fr0 (by decide) (by decide)
      clear eI6623
      refine WP_iload_n dX3_faultOfNumber_37 rfl ?_
      refine WQ_bipush (68) (68) dX3_faultOfNumber_38 rfl rfl (fun v6631 hv6631 => ?_)
      refine WQ_icmp_eq 45 dX3_faultOfNumber_40 rfl (fun c6631 => False.elim (by omega)) (fun c6631 => ?_)
      refine WQ_iconst (0) (0) dX3_faultOfNumber_43 rfl rfl (fun v6633 hv6633 => ?_)
      exact WP_iret dX3_faultOfNumber_44 rfl ⟨⟨hI6623, rfl, fr6630, frj0, ⟨trivial, (by rw [e6625, ew6613] <;> exact (eq32 _ _).mpr (by omega)), (by rw [e6626, ew6614] <;> exact (eq32 _ _).mpr (by omega)), (by rw [e6627, ew6615] <;> exact (eq32 _ _).mpr (by omega))⟩⟩, _, rfl, by omega, by omega, by (try rw [e6629]); omega⟩
    · refine WQ_iconst (2) (2) dX3_faultOfNumber_27 rfl rfl (fun v6634 hv6634 => ?_)
      obtain ⟨w6635, ew6635⟩ : ∃ w : Int32, I (ad g 4) 1 = w := ⟨_, rfl⟩
      have bw6635 := BT_get hI.1 4 0 5 (0) (0) (1000) (by decide) 1 (by decide) (by decide)
      rw [ew6635] at bw6635
      exact WP_iret dX3_faultOfNumber_28 rfl ⟨⟨hI, rfl, fr0, frj0, ⟨trivial, rfl, rfl, rfl⟩⟩, _, rfl, by omega, by omega, by (try rw [ew6635]); omega⟩
set_option maxHeartbeats 4000000 in
set_option maxRecDepth 100000 in
theorem sx_name_27_1 {g : GG} {n : Int} {L : Int32} (hy : LyX g)  {I : pI} {J : pJ} {R : pR} (hr : RfX g R) (hI : XI g n L I) (os : Int32) (wd : Int64) (os_lo : 1 ≤ os.toInt) (os_hi : os.toInt ≤ 1) (hb : (I (ad g 27) 1).toInt ≤ 3) : SP g mX7_name [.ref (ad g 27), .int os, .long wd] I J R (fun r I' J' R' => (I' = I ∧ R' = R ∧ fz 74 g [41] J J') ∧ r = none) := by
  refine SP_of ⟨by decide, rfl⟩ (Nat.le_of_ble_eq_true rfl) ?_
  have e6636 : I (ad g 1) 1 = L := hI.2
  have b6637 := BT_get hI.1 1 1 2 (0) (0) (900) (by decide) 1 (by decide) (by decide)
  rw [e6636] at b6637
  have frj0 : fz 74 g [41] J J := fz_rf
  obtain ⟨w6638, ew6638⟩ : ∃ w : Int32, I (ad g 27) 1 = w := ⟨_, rfl⟩
  have bw6638 := BT_get hI.1 27 1 2 (0) (0) (4) (by decide) 1 (by decide) (by decide)
  rw [ew6638] at bw6638
  rw [ew6638] at hb
  refine WP_aload_n dX7_name_0 rfl ?_
  refine WP_getr dX7_name_1 fX7_51 rfl (lyx_is hy 27 7 rfl) (rfx hr 27 18 41 (by decide)) ?_
  refine WP_iload_n dX7_name_4 rfl ?_
  have jn21_6639 : ∀ (v6639 : Int32), 0 ≤ v6639.toInt → v6639.toInt ≤ 3 → WP g mX7_name 21 [(0, .ref (ad g 27)), (1, .int os), (2, .long wd)] [.int v6639, .ref (ad g 41)] I J R (fun r I' J' R' => (I' = I ∧ R' = R ∧ fz 74 g [41] J J') ∧ r = none) := by
    intro v6639 av6639 bv6639
    refine WP_lload_n dX7_name_21 rfl ?_
    refine WQ_last dX7_name_22 (lyx_is hy 41 14 rfl) (lyx_n hy 41 7 rfl) (by omega) (by omega) (fun J6641 eJ6641 => ?_)
    have fr6642 : fz 74 g [41] J J6641 := by rw [eJ6641]; exact fzx_pp hy frj0 (by decide) (by decide)
    clear eJ6641
    exact WP_vret dX7_name_23 rfl ⟨⟨rfl, rfl, fr6642⟩, rfl⟩
  refine WQ_if_eq 15 dX7_name_5 rfl (fun c6642 => False.elim (by omega)) (fun c6642 => ?_)
  refine WP_aload_n dX7_name_8 rfl ?_
  refine WQ_getim dX7_name_9 fX7_65 rfl (lyx_is hy 27 7 rfl) ew6638 ?_
  refine WP_goto 21 dX7_name_12 rfl ?_
  exact WP_sub (fc rfl (fc rfl (fc rfl fn))) (jn21_6639 w6638 (by omega) (by omega))
set_option maxHeartbeats 4000000 in
set_option maxRecDepth 100000 in
theorem sx_name_27_0 {g : GG} {n : Int} {L : Int32} (hy : LyX g)  {I : pI} {J : pJ} {R : pR} (hr : RfX g R) (hI : XI g n L I) (os : Int32) (wd : Int64) (os_lo : 0 ≤ os.toInt) (os_hi : os.toInt ≤ 0) (hb : (I (ad g 27) 2).toInt ≤ 2) : SP g mX7_name [.ref (ad g 27), .int os, .long wd] I J R (fun r I' J' R' => (I' = I ∧ R' = R ∧ fz 74 g [41] J J') ∧ r = none) := by
  refine SP_of ⟨by decide, rfl⟩ (Nat.le_of_ble_eq_true rfl) ?_
  have e6644 : I (ad g 1) 1 = L := hI.2
  have b6645 := BT_get hI.1 1 1 2 (0) (0) (900) (by decide) 1 (by decide) (by decide)
  rw [e6644] at b6645
  have frj0 : fz 74 g [41] J J := fz_rf
  obtain ⟨w6646, ew6646⟩ : ∃ w : Int32, I (ad g 27) 2 = w := ⟨_, rfl⟩
  have bw6646 := BT_get hI.1 27 2 3 (0) (0) (3) (by decide) 2 (by decide) (by decide)
  rw [ew6646] at bw6646
  rw [ew6646] at hb
  refine WP_aload_n dX7_name_0 rfl ?_
  refine WP_getr dX7_name_1 fX7_51 rfl (lyx_is hy 27 7 rfl) (rfx hr 27 18 41 (by decide)) ?_
  refine WP_iload_n dX7_name_4 rfl ?_
  have jn21_6649 : ∀ (v6649 : Int32), 4 ≤ v6649.toInt → v6649.toInt ≤ 6 → WP g mX7_name 21 [(0, .ref (ad g 27)), (1, .int os), (2, .long wd)] [.int v6649, .ref (ad g 41)] I J R (fun r I' J' R' => (I' = I ∧ R' = R ∧ fz 74 g [41] J J') ∧ r = none) := by
    intro v6649 av6649 bv6649
    refine WP_lload_n dX7_name_21 rfl ?_
    refine WQ_last dX7_name_22 (lyx_is hy 41 14 rfl) (lyx_n hy 41 7 rfl) (by omega) (by omega) (fun J6651 eJ6651 => ?_)
    have fr6652 : fz 74 g [41] J J6651 := by rw [eJ6651]; exact fzx_pp hy frj0 (by decide) (by decide)
    clear eJ6651
    exact WP_vret dX7_name_23 rfl ⟨⟨rfl, rfl, fr6652⟩, rfl⟩
  refine WQ_if_eq 15 dX7_name_5 rfl (fun c6652 => ?_) (fun c6652 => False.elim (by omega))
  refine WQ_iconst (4) (4) dX7_name_15 rfl rfl (fun v6654 hv6654 => ?_)
  refine WP_aload_n dX7_name_16 rfl ?_
  refine WQ_getim dX7_name_17 fX7_68 rfl (lyx_is hy 27 7 rfl) ew6646 ?_
  refine WQ_iadd dX7_name_20 (by omega) (by omega) (fun v6655 hv6655 => ?_)
  exact WP_sub (fc rfl (fc rfl (fc rfl fn))) (jn21_6649 v6655 (by omega) (by omega))
set_option maxHeartbeats 4000000 in
set_option maxRecDepth 100000 in
theorem sx_part_27_0_0 {g : GG} {n : Int} {L : Int32} (hy : LyX g)  {I : pI} {J : pJ} {R : pR} (hr : RfX g R) (hI : XI g n L I) (pa : Int32) (cz : Int32) (ix : Int32) (pa_lo : 68 ≤ pa.toInt) (pa_hi : pa.toInt ≤ 68) (cz_lo : 0 ≤ cz.toInt) (cz_hi : cz.toInt ≤ 0) (ix_lo : 0 ≤ ix.toInt) (ix_hi : ix.toInt ≤ 0) : SP g mX3_faultOfNumber [.ref (ad g 3), .int pa, .int cz, .int ix, .ref (ad g 27)] I J R (fun r I' J' R' => (XI g n L I' ∧ R' = R ∧ fz 74 g [4] I I' ∧ fz 74 g [] J J' ∧ True ∧ I' (ad g 27) 1 = I (ad g 27) 1 ∧ I' (ad g 27) 2 = I (ad g 27) 2) ∧ ∃ v : Int32, r = some (.int v) ∧ 0 ≤ v.toInt ∧ v.toInt ≤ 5 ∧ (v.toInt = 0 → (I' (ad g 4) 0).toInt ≤ 6)) := by
  refine SP_of ⟨by decide, rfl⟩ (Nat.le_of_ble_eq_true rfl) ?_
  have e6656 : I (ad g 1) 1 = L := hI.2
  have b6657 := BT_get hI.1 1 1 2 (0) (0) (900) (by decide) 1 (by decide) (by decide)
  rw [e6656] at b6657
  have fr0 : fz 74 g [4] I I := fz_rf
  have frj0 : fz 74 g [] J J := fz_rf
  obtain ⟨w6658, ew6658⟩ : ∃ w : Int32, I (ad g 27) 1 = w := ⟨_, rfl⟩
  have bw6658 := BT_get hI.1 27 1 2 (0) (0) (4) (by decide) 1 (by decide) (by decide)
  rw [ew6658] at bw6658
  obtain ⟨w6659, ew6659⟩ : ∃ w : Int32, I (ad g 27) 2 = w := ⟨_, rfl⟩
  have bw6659 := BT_get hI.1 27 2 3 (0) (0) (3) (by decide) 2 (by decide) (by decide)
  rw [ew6659] at bw6659
  refine WP_aload_n dX3_faultOfNumber_0 rfl ?_
  refine WP_getr dX3_faultOfNumber_1 fX3_15 rfl (lyx_is hy 3 3 rfl) (rfx hr 3 2 1 (by decide)) ?_
  refine WQ_getiu dX3_faultOfNumber_4 fX3_118 rfl (lyx_is hy 1 5 rfl) (fun v6660 ev6660 => ?_)
  refine WP_istore (ls' := [(0, _), (1, _), (2, _), (3, _), (4, _), (5, _)]) dX3_faultOfNumber_7 (by decide) rfl ?_
  refine WP_iload dX3_faultOfNumber_9 rfl ?_
  refine WP_iload_n dX3_faultOfNumber_11 rfl ?_
  refine WP_callS1 dX3_faultOfNumber_12 ⟨⟨⟨by decide, by decide⟩, zX3_leastOf⟩, lX3_121, tX3_leastOf⟩ (sx_leastOf hy hr hI pa ) (Nat.le_of_ble_eq_true rfl) ?_
  intro r Ia Ja Ra hq
  obtain ⟨⟨ea, eb, ec⟩, v6661, rfl, av6661, bv6661⟩ := hq
  show WP _ _ _ _ (.int _ :: _) _ _ _ _
  rw [ea, eb, ec]
  clear ea eb ec Ia Ja Ra
  refine WQ_icmp_lt 27 dX3_faultOfNumber_15 rfl (fun c6661 => ?_) (fun c6661 => ?_)
  · refine WQ_iconst (2) (2) dX3_faultOfNumber_27 rfl rfl (fun v6663 hv6663 => ?_)
    obtain ⟨w6664, ew6664⟩ : ∃ w : Int32, I (ad g 4) 0 = w := ⟨_, rfl⟩
    have bw6664 := BT_get hI.1 4 0 5 (0) (0) (1000) (by decide) 0 (by decide) (by decide)
    rw [ew6664] at bw6664
    exact WP_iret dX3_faultOfNumber_28 rfl ⟨⟨hI, rfl, fr0, frj0, ⟨trivial, rfl, rfl⟩⟩, _, rfl, by omega, by omega, by (try rw [ew6664]); omega⟩
  · refine WP_iload dX3_faultOfNumber_18 rfl ?_
    refine WP_iload_n dX3_faultOfNumber_20 rfl ?_
    refine WP_callS1 dX3_faultOfNumber_21 ⟨⟨⟨by decide, by decide⟩, zX3_mostOf⟩, lX3_125, tX3_mostOf⟩ (sx_mostOf hy hr hI pa ) (Nat.le_of_ble_eq_true rfl) ?_
    intro r Ia Ja Ra hq
    obtain ⟨⟨ea, eb, ec⟩, v6665, rfl, av6665, bv6665, cv6665⟩ := hq
    show WP _ _ _ _ (.int _ :: _) _ _ _ _
    rw [ea, eb, ec]
    clear ea eb ec Ia Ja Ra
    refine WQ_icmp_le 29 dX3_faultOfNumber_24 rfl (fun c6665 => ?_) (fun c6665 => ?_)
    · refine WP_aload_n dX3_faultOfNumber_29 rfl ?_
      refine WP_getr dX3_faultOfNumber_30 fX3_9 rfl (lyx_is hy 3 3 rfl) (rfx hr 3 3 4 (by decide)) ?_
      refine WP_iload_n dX3_faultOfNumber_33 rfl ?_
      refine WP_iload dX3_faultOfNumber_34 rfl ?_
      refine WQ_iast dX3_faultOfNumber_36 (lyx_is hy 4 13 rfl) (lyx_n hy 4 5 rfl) (by omega) (by omega) (fun I6667 fI6667 => ?_)
      have eI6667 := fI6667
      rw [cl (x := ix) (n := 0) (by omega)] at eI6667
      clear fI6667
      have hI6667 : XI g n L I6667 := by rw [eI6667]; exact (xi_f hy hI (c := 4) (0) (0) (1000) (by decide) (Or.inl (by decide)) (by decide) (by omega) (by omega))
      have e6668 : I6667 (ad g 1) 1 = L := by rw [eI6667, pp_ne _ _ (Or.inl (lyx_ne hy (by decide) (by decide) (by decide)))]; exact e6656
      have e6669 : I6667 (ad g 27) 1 = w6658 := by rw [eI6667, pp_ne _ _ (Or.inl (lyx_ne hy (by decide) (by decide) (by decide)))]; exact ew6658
      have e6670 : I6667 (ad g 27) 2 = w6659 := by rw [eI6667, pp_ne _ _ (Or.inl (lyx_ne hy (by decide) (by decide) (by decide)))]; exact ew6659
      have e6671 : I6667 (ad g 1) 4 = v6660 := by rw [eI6667, pp_ne _ _ (Or.inl (lyx_ne hy (by decide) (by decide) (by decide)))]; exact ev6660
      have e6672 : I6667 (ad g 4) 0 = v6660 := by rw [eI6667, pp_self]
      have fr6673 : fz 74 g [4] I I6667 := by rw [eI6667]; exact fzx_pp hy fr0 (by decide) (by decide)
      clear eI6667
      refine WP_iload_n dX3_faultOfNumber_37 rfl ?_
      refine WQ_bipush (68) (68) dX3_faultOfNumber_38 rfl rfl (fun v6674 hv6674 => ?_)
      refine WQ_icmp_eq 45 dX3_faultOfNumber_40 rfl (fun c6674 => ?_) (fun c6674 => False.elim (by omega))
      refine WP_aload dX3_faultOfNumber_45 rfl ?_
      refine WP_iload_n dX3_faultOfNumber_47 rfl ?_
      refine WP_iload_n dX3_faultOfNumber_48 rfl ?_
      refine WQ_if_ne 56 dX3_faultOfNumber_49 rfl (fun c6675 => False.elim (by omega)) (fun c6675 => ?_)
      refine WQ_iconst (0) (0) dX3_faultOfNumber_52 rfl rfl (fun v6677 hv6677 => ?_)
      refine WP_goto 62 dX3_faultOfNumber_53 rfl ?_
      refine WP_iload dX3_faultOfNumber_62 rfl ?_
      refine WP_callV3 (k := 7) dX3_faultOfNumber_64 ⟨⟨⟨by decide, by decide⟩, zX7_isTold⟩, lX3_114, by decide, rfl, vX7_isTold.1, vX7_isTold.2⟩ (lyx_is hy 27 7 rfl) (sx_isTold_27 hy hr hI6667 cz v6677 v6660 (by omega) (by omega) (by omega) (by omega) ) (Nat.le_of_ble_eq_true rfl) ?_
      intro r Ia Ja Ra hq
      obtain ⟨⟨ea, eb, ec⟩, v6678, rfl, av6678, bv6678⟩ := hq
      show WP _ _ _ _ (.int _ :: _) _ _ _ _
      rw [ea, eb, ec]
      clear ea eb ec Ia Ja Ra
      refine WQ_if_eq 74 dX3_faultOfNumber_67 rfl (fun c6678 => ?_) (fun c6678 => ?_)
      · refine WQ_iconst (0) (0) dX3_faultOfNumber_74 rfl rfl (fun v6680 hv6680 => ?_)
        exact WP_iret dX3_faultOfNumber_75 rfl ⟨⟨hI6667, rfl, fr6673, frj0, ⟨trivial, (by rw [e6669, ew6658] <;> exact (eq32 _ _).mpr (by omega)), (by rw [e6670, ew6659] <;> exact (eq32 _ _).mpr (by omega))⟩⟩, _, rfl, by omega, by omega, by (try rw [e6672]); omega⟩
      · refine WQ_iconst (3) (3) dX3_faultOfNumber_70 rfl rfl (fun v6681 hv6681 => ?_)
        refine WP_goto 75 dX3_faultOfNumber_71 rfl ?_
        exact WP_iret dX3_faultOfNumber_75 rfl ⟨⟨hI6667, rfl, fr6673, frj0, ⟨trivial, (by rw [e6669, ew6658] <;> exact (eq32 _ _).mpr (by omega)), (by rw [e6670, ew6659] <;> exact (eq32 _ _).mpr (by omega))⟩⟩, _, rfl, by omega, by omega, by (try rw [e6672]); omega⟩
    · refine WQ_iconst (2) (2) dX3_faultOfNumber_27 rfl rfl (fun v6682 hv6682 => ?_)
      obtain ⟨w6683, ew6683⟩ : ∃ w : Int32, I (ad g 4) 0 = w := ⟨_, rfl⟩
      have bw6683 := BT_get hI.1 4 0 5 (0) (0) (1000) (by decide) 0 (by decide) (by decide)
      rw [ew6683] at bw6683
      exact WP_iret dX3_faultOfNumber_28 rfl ⟨⟨hI, rfl, fr0, frj0, ⟨trivial, rfl, rfl⟩⟩, _, rfl, by omega, by omega, by (try rw [ew6683]); omega⟩
set_option maxHeartbeats 4000000 in
set_option maxRecDepth 100000 in
theorem sx_part_27_0_1 {g : GG} {n : Int} {L : Int32} (hy : LyX g)  {I : pI} {J : pJ} {R : pR} (hr : RfX g R) (hI : XI g n L I) (pa : Int32) (cz : Int32) (ix : Int32) (pa_lo : 76 ≤ pa.toInt) (pa_hi : pa.toInt ≤ 76) (cz_lo : 0 ≤ cz.toInt) (cz_hi : cz.toInt ≤ 0) (ix_lo : 1 ≤ ix.toInt) (ix_hi : ix.toInt ≤ 1) : SP g mX3_faultOfNumber [.ref (ad g 3), .int pa, .int cz, .int ix, .ref (ad g 27)] I J R (fun r I' J' R' => (XI g n L I' ∧ R' = R ∧ fz 74 g [4] I I' ∧ fz 74 g [] J J' ∧ True ∧ I' (ad g 4) 0 = I (ad g 4) 0 ∧ I' (ad g 27) 1 = I (ad g 27) 1 ∧ I' (ad g 27) 2 = I (ad g 27) 2) ∧ ∃ v : Int32, r = some (.int v) ∧ 0 ≤ v.toInt ∧ v.toInt ≤ 5 ∧ (v.toInt = 0 → (I' (ad g 4) 1).toInt ≤ 900)) := by
  refine SP_of ⟨by decide, rfl⟩ (Nat.le_of_ble_eq_true rfl) ?_
  have e6684 : I (ad g 1) 1 = L := hI.2
  have b6685 := BT_get hI.1 1 1 2 (0) (0) (900) (by decide) 1 (by decide) (by decide)
  rw [e6684] at b6685
  have fr0 : fz 74 g [4] I I := fz_rf
  have frj0 : fz 74 g [] J J := fz_rf
  obtain ⟨w6686, ew6686⟩ : ∃ w : Int32, I (ad g 4) 0 = w := ⟨_, rfl⟩
  have bw6686 := BT_get hI.1 4 0 5 (0) (0) (1000) (by decide) 0 (by decide) (by decide)
  rw [ew6686] at bw6686
  obtain ⟨w6687, ew6687⟩ : ∃ w : Int32, I (ad g 27) 1 = w := ⟨_, rfl⟩
  have bw6687 := BT_get hI.1 27 1 2 (0) (0) (4) (by decide) 1 (by decide) (by decide)
  rw [ew6687] at bw6687
  obtain ⟨w6688, ew6688⟩ : ∃ w : Int32, I (ad g 27) 2 = w := ⟨_, rfl⟩
  have bw6688 := BT_get hI.1 27 2 3 (0) (0) (3) (by decide) 2 (by decide) (by decide)
  rw [ew6688] at bw6688
  refine WP_aload_n dX3_faultOfNumber_0 rfl ?_
  refine WP_getr dX3_faultOfNumber_1 fX3_15 rfl (lyx_is hy 3 3 rfl) (rfx hr 3 2 1 (by decide)) ?_
  refine WQ_getiu dX3_faultOfNumber_4 fX3_118 rfl (lyx_is hy 1 5 rfl) (fun v6689 ev6689 => ?_)
  refine WP_istore (ls' := [(0, _), (1, _), (2, _), (3, _), (4, _), (5, _)]) dX3_faultOfNumber_7 (by decide) rfl ?_
  refine WP_iload dX3_faultOfNumber_9 rfl ?_
  refine WP_iload_n dX3_faultOfNumber_11 rfl ?_
  refine WP_callS1 dX3_faultOfNumber_12 ⟨⟨⟨by decide, by decide⟩, zX3_leastOf⟩, lX3_121, tX3_leastOf⟩ (sx_leastOf hy hr hI pa ) (Nat.le_of_ble_eq_true rfl) ?_
  intro r Ia Ja Ra hq
  obtain ⟨⟨ea, eb, ec⟩, v6690, rfl, av6690, bv6690⟩ := hq
  show WP _ _ _ _ (.int _ :: _) _ _ _ _
  rw [ea, eb, ec]
  clear ea eb ec Ia Ja Ra
  refine WQ_icmp_lt 27 dX3_faultOfNumber_15 rfl (fun c6690 => ?_) (fun c6690 => ?_)
  · refine WQ_iconst (2) (2) dX3_faultOfNumber_27 rfl rfl (fun v6692 hv6692 => ?_)
    obtain ⟨w6693, ew6693⟩ : ∃ w : Int32, I (ad g 4) 1 = w := ⟨_, rfl⟩
    have bw6693 := BT_get hI.1 4 0 5 (0) (0) (1000) (by decide) 1 (by decide) (by decide)
    rw [ew6693] at bw6693
    exact WP_iret dX3_faultOfNumber_28 rfl ⟨⟨hI, rfl, fr0, frj0, ⟨trivial, rfl, rfl, rfl⟩⟩, _, rfl, by omega, by omega, by (try rw [ew6693]); omega⟩
  · refine WP_iload dX3_faultOfNumber_18 rfl ?_
    refine WP_iload_n dX3_faultOfNumber_20 rfl ?_
    refine WP_callS1 dX3_faultOfNumber_21 ⟨⟨⟨by decide, by decide⟩, zX3_mostOf⟩, lX3_125, tX3_mostOf⟩ (sx_mostOf hy hr hI pa ) (Nat.le_of_ble_eq_true rfl) ?_
    intro r Ia Ja Ra hq
    obtain ⟨⟨ea, eb, ec⟩, v6694, rfl, av6694, bv6694, cv6694⟩ := hq
    show WP _ _ _ _ (.int _ :: _) _ _ _ _
    rw [ea, eb, ec]
    clear ea eb ec Ia Ja Ra
    refine WQ_icmp_le 29 dX3_faultOfNumber_24 rfl (fun c6694 => ?_) (fun c6694 => ?_)
    · refine WP_aload_n dX3_faultOfNumber_29 rfl ?_
      refine WP_getr dX3_faultOfNumber_30 fX3_9 rfl (lyx_is hy 3 3 rfl) (rfx hr 3 3 4 (by decide)) ?_
      refine WP_iload_n dX3_faultOfNumber_33 rfl ?_
      refine WP_iload dX3_faultOfNumber_34 rfl ?_
      refine WQ_iast dX3_faultOfNumber_36 (lyx_is hy 4 13 rfl) (lyx_n hy 4 5 rfl) (by omega) (by omega) (fun I6696 fI6696 => ?_)
      have eI6696 := fI6696
      rw [cl (x := ix) (n := 1) (by omega)] at eI6696
      clear fI6696
      have hI6696 : XI g n L I6696 := by rw [eI6696]; exact (xi_f hy hI (c := 4) (0) (0) (1000) (by decide) (Or.inl (by decide)) (by decide) (by omega) (by omega))
      have e6697 : I6696 (ad g 1) 1 = L := by rw [eI6696, pp_ne _ _ (Or.inl (lyx_ne hy (by decide) (by decide) (by decide)))]; exact e6684
      have e6698 : I6696 (ad g 4) 0 = w6686 := by rw [eI6696, pp_ne _ _ (Or.inr (by decide))]; exact ew6686
      have e6699 : I6696 (ad g 27) 1 = w6687 := by rw [eI6696, pp_ne _ _ (Or.inl (lyx_ne hy (by decide) (by decide) (by decide)))]; exact ew6687
      have e6700 : I6696 (ad g 27) 2 = w6688 := by rw [eI6696, pp_ne _ _ (Or.inl (lyx_ne hy (by decide) (by decide) (by decide)))]; exact ew6688
      have e6701 : I6696 (ad g 1) 4 = v6689 := by rw [eI6696, pp_ne _ _ (Or.inl (lyx_ne hy (by decide) (by decide) (by decide)))]; exact ev6689
      have e6702 : I6696 (ad g 4) 1 = v6689 := by rw [eI6696, pp_self]
      have fr6703 : fz 74 g [4] I I6696 := by rw [eI6696]; exact fzx_pp hy fr0 (by decide) (by decide)
      clear eI6696
      refine WP_iload_n dX3_faultOfNumber_37 rfl ?_
      refine WQ_bipush (68) (68) dX3_faultOfNumber_38 rfl rfl (fun v6704 hv6704 => ?_)
      refine WQ_icmp_eq 45 dX3_faultOfNumber_40 rfl (fun c6704 => False.elim (by omega)) (fun c6704 => ?_)
      refine WQ_iconst (0) (0) dX3_faultOfNumber_43 rfl rfl (fun v6706 hv6706 => ?_)
      exact WP_iret dX3_faultOfNumber_44 rfl ⟨⟨hI6696, rfl, fr6703, frj0, ⟨trivial, (by rw [e6698, ew6686] <;> exact (eq32 _ _).mpr (by omega)), (by rw [e6699, ew6687] <;> exact (eq32 _ _).mpr (by omega)), (by rw [e6700, ew6688] <;> exact (eq32 _ _).mpr (by omega))⟩⟩, _, rfl, by omega, by omega, by (try rw [e6702]); omega⟩
    · refine WQ_iconst (2) (2) dX3_faultOfNumber_27 rfl rfl (fun v6707 hv6707 => ?_)
      obtain ⟨w6708, ew6708⟩ : ∃ w : Int32, I (ad g 4) 1 = w := ⟨_, rfl⟩
      have bw6708 := BT_get hI.1 4 0 5 (0) (0) (1000) (by decide) 1 (by decide) (by decide)
      rw [ew6708] at bw6708
      exact WP_iret dX3_faultOfNumber_28 rfl ⟨⟨hI, rfl, fr0, frj0, ⟨trivial, rfl, rfl, rfl⟩⟩, _, rfl, by omega, by omega, by (try rw [ew6708]); omega⟩
set_option maxHeartbeats 4000000 in
set_option maxRecDepth 100000 in
theorem sx_part_27_1_0 {g : GG} {n : Int} {L : Int32} (hy : LyX g)  {I : pI} {J : pJ} {R : pR} (hr : RfX g R) (hI : XI g n L I) (pa : Int32) (cz : Int32) (ix : Int32) (pa_lo : 110 ≤ pa.toInt) (pa_hi : pa.toInt ≤ 110) (cz_lo : 1 ≤ cz.toInt) (cz_hi : cz.toInt ≤ 1) (ix_lo : 0 ≤ ix.toInt) (ix_hi : ix.toInt ≤ 0) (hb : (I (ad g 27) 1).toInt ≤ 3) : SP g mX3_faultOfName [.ref (ad g 3), .int pa, .int cz, .int ix, .ref (ad g 27)] I J R (fun r I' J' R' => (XI g n L I' ∧ R' = R ∧ fz 74 g [] I I' ∧ fz 74 g [41] J J' ∧ True ∧ I' (ad g 27) 1 = I (ad g 27) 1 ∧ I' (ad g 27) 2 = I (ad g 27) 2) ∧ ∃ v : Int32, r = some (.int v) ∧ 0 ≤ v.toInt ∧ v.toInt ≤ 5) := by
  refine SP_of ⟨by decide, rfl⟩ (Nat.le_of_ble_eq_true rfl) ?_
  have e6709 : I (ad g 1) 1 = L := hI.2
  have b6710 := BT_get hI.1 1 1 2 (0) (0) (900) (by decide) 1 (by decide) (by decide)
  rw [e6709] at b6710
  have fr0 : fz 74 g [] I I := fz_rf
  have frj0 : fz 74 g [41] J J := fz_rf
  obtain ⟨w6711, ew6711⟩ : ∃ w : Int32, I (ad g 27) 1 = w := ⟨_, rfl⟩
  have bw6711 := BT_get hI.1 27 1 2 (0) (0) (4) (by decide) 1 (by decide) (by decide)
  rw [ew6711] at bw6711
  obtain ⟨w6712, ew6712⟩ : ∃ w : Int32, I (ad g 27) 2 = w := ⟨_, rfl⟩
  have bw6712 := BT_get hI.1 27 2 3 (0) (0) (3) (by decide) 2 (by decide) (by decide)
  rw [ew6712] at bw6712
  rw [ew6711] at hb
  refine WP_iload_n dX3_faultOfName_0 rfl ?_
  refine WQ_bipush (115) (115) dX3_faultOfName_1 rfl rfl (fun v6713 hv6713 => ?_)
  have jn17_6717 : ∀ (v6717 : Int32), 1 ≤ v6717.toInt → v6717.toInt ≤ 1 → WP g mX3_faultOfName 17 [(0, .ref (ad g 3)), (1, .int pa), (2, .int cz), (3, .int ix), (4, .ref (ad g 27))] [.int v6717] I J R (fun r I' J' R' => (XI g n L I' ∧ R' = R ∧ fz 74 g [] I I' ∧ fz 74 g [41] J J' ∧ True ∧ I' (ad g 27) 1 = I (ad g 27) 1 ∧ I' (ad g 27) 2 = I (ad g 27) 2) ∧ ∃ v : Int32, r = some (.int v) ∧ 0 ≤ v.toInt ∧ v.toInt ≤ 5) := by
    intro v6717 av6717 bv6717
    refine WP_istore (ls' := [(0, _), (1, _), (2, _), (3, _), (4, _), (5, _)]) dX3_faultOfName_17 (by decide) rfl ?_
    refine WP_iload dX3_faultOfName_19 rfl ?_
    have jn51_6721 : ∀ (v6721 : Int32), -1 ≤ v6721.toInt → v6721.toInt ≤ 3 → WP g mX3_faultOfName 51 [(0, .ref (ad g 3)), (1, .int pa), (2, .int cz), (3, .int ix), (4, .ref (ad g 27)), (5, .int v6717)] [.int v6721] I J R (fun r I' J' R' => (XI g n L I' ∧ R' = R ∧ fz 74 g [] I I' ∧ fz 74 g [41] J J' ∧ True ∧ I' (ad g 27) 1 = I (ad g 27) 1 ∧ I' (ad g 27) 2 = I (ad g 27) 2) ∧ ∃ v : Int32, r = some (.int v) ∧ 0 ≤ v.toInt ∧ v.toInt ≤ 5) := by
      intro v6721 av6721 bv6721
      refine WP_istore (ls' := [(0, _), (1, _), (2, _), (3, _), (4, _), (5, _), (6, _)]) dX3_faultOfName_51 (by decide) rfl ?_
      refine WP_iload_n dX3_faultOfName_53 rfl ?_
      refine WQ_bipush (110) (110) dX3_faultOfName_54 rfl rfl (fun v6723 hv6723 => ?_)
      refine WQ_icmp_eq 65 dX3_faultOfName_56 rfl (fun c6723 => ?_) (fun c6723 => False.elim (by omega))
      refine WP_iload dX3_faultOfName_65 rfl ?_
      refine WQ_iconst (-1) (-1) dX3_faultOfName_67 rfl rfl (fun v6725 hv6725 => ?_)
      refine WQ_icmp_eq 73 dX3_faultOfName_68 rfl (fun c6725 => ?_) (fun c6725 => ?_)
      · refine WP_aload dX3_faultOfName_73 rfl ?_
        refine WP_iload_n dX3_faultOfName_75 rfl ?_
        refine WQ_bipush (110) (110) dX3_faultOfName_76 rfl rfl (fun v6727 hv6727 => ?_)
        have jn86_6729 : ∀ (v6729 : Int32), 1 ≤ v6729.toInt → v6729.toInt ≤ 1 → WP g mX3_faultOfName 86 [(0, .ref (ad g 3)), (1, .int pa), (2, .int cz), (3, .int ix), (4, .ref (ad g 27)), (5, .int v6717), (6, .int v6721)] [.int v6729, .ref (ad g 27)] I J R (fun r I' J' R' => (XI g n L I' ∧ R' = R ∧ fz 74 g [] I I' ∧ fz 74 g [41] J J' ∧ True ∧ I' (ad g 27) 1 = I (ad g 27) 1 ∧ I' (ad g 27) 2 = I (ad g 27) 2) ∧ ∃ v : Int32, r = some (.int v) ∧ 0 ≤ v.toInt ∧ v.toInt ≤ 5) := by
          intro v6729 av6729 bv6729
          refine WP_aload_n dX3_faultOfName_86 rfl ?_
          refine WP_getr dX3_faultOfName_87 fX3_15 rfl (lyx_is hy 3 3 rfl) (rfx hr 3 2 1 (by decide)) ?_
          refine WQ_getl dX3_faultOfName_90 fX3_80 rfl (lyx_is hy 1 5 rfl) (fun l6731 el6731 => ?_)
          refine WP_callV2 (k := 7) dX3_faultOfName_93 ⟨⟨⟨by decide, by decide⟩, zX7_name⟩, lX3_110, by decide, rfl, vX7_name.1, vX7_name.2⟩ (lyx_is hy 27 7 rfl) (sx_name_27_1 hy hr hI v6729 l6731 (by omega) (by omega) (by rw [ew6711]; omega)) (Nat.le_of_ble_eq_true rfl) ?_
          intro r Ia J6732 Ra hq
          obtain ⟨⟨ea, ec, fjJ6732⟩, rfl⟩ := hq
          rw [ea, ec]
          clear ea ec Ia Ra
          have fr6733 : fz 74 g [41] J J6732 := fz_tr frj0 (fz_mono fjJ6732 (by decide))
          refine WQ_iconst (0) (0) dX3_faultOfName_96 rfl rfl (fun v6734 hv6734 => ?_)
          exact WP_iret dX3_faultOfName_97 rfl ⟨⟨hI, rfl, fr0, fr6733, ⟨trivial, rfl, rfl⟩⟩, _, rfl, by omega, by omega⟩
        refine WQ_icmp_ne 85 dX3_faultOfName_78 rfl (fun c6734 => False.elim (by omega)) (fun c6734 => ?_)
        refine WQ_iconst (1) (1) dX3_faultOfName_81 rfl rfl (fun v6736 hv6736 => ?_)
        refine WP_goto 86 dX3_faultOfName_82 rfl ?_
        exact WP_sub (fc rfl (fc rfl (fc rfl (fc rfl (fc rfl (fc rfl (fc rfl fn))))))) (jn86_6729 v6736 (by omega) (by omega))
      · refine WQ_iconst (3) (3) dX3_faultOfName_71 rfl rfl (fun v6737 hv6737 => ?_)
        exact WP_iret dX3_faultOfName_72 rfl ⟨⟨hI, rfl, fr0, frj0, ⟨trivial, rfl, rfl⟩⟩, _, rfl, by omega, by omega⟩
    refine WQ_if_eq 39 dX3_faultOfName_21 rfl (fun c6737 => False.elim (by omega)) (fun c6737 => ?_)
    refine WP_aload dX3_faultOfName_24 rfl ?_
    refine WP_aload_n dX3_faultOfName_26 rfl ?_
    refine WP_getr dX3_faultOfName_27 fX3_15 rfl (lyx_is hy 3 3 rfl) (rfx hr 3 2 1 (by decide)) ?_
    refine WQ_getl dX3_faultOfName_30 fX3_80 rfl (lyx_is hy 1 5 rfl) (fun l6739 el6739 => ?_)
    refine WP_callV1 (k := 7) dX3_faultOfName_33 ⟨⟨⟨by decide, by decide⟩, zX7_sortNamed⟩, lX3_103, by decide, rfl, vX7_sortNamed.1, vX7_sortNamed.2⟩ (lyx_is hy 27 7 rfl) (sx_sortNamed_27 hy hr hI l6739 ) (Nat.le_of_ble_eq_true rfl) ?_
    intro r Ia Ja Ra hq
    obtain ⟨⟨ea, eb, ec⟩, v6740, rfl, av6740, bv6740⟩ := hq
    show WP _ _ _ _ (.int _ :: _) _ _ _ _
    rw [ea, eb, ec]
    clear ea eb ec Ia Ja Ra
    refine WP_goto 51 dX3_faultOfName_36 rfl ?_
    exact WP_sub (fc rfl (fc rfl (fc rfl (fc rfl (fc rfl (fc rfl fn)))))) (jn51_6721 v6740 (by omega) (by omega))
  refine WQ_icmp_eq 12 dX3_faultOfName_3 rfl (fun c6740 => False.elim (by omega)) (fun c6740 => ?_)
  refine WP_iload_n dX3_faultOfName_6 rfl ?_
  refine WQ_bipush (110) (110) dX3_faultOfName_7 rfl rfl (fun v6742 hv6742 => ?_)
  refine WQ_icmp_ne 16 dX3_faultOfName_9 rfl (fun c6742 => False.elim (by omega)) (fun c6742 => ?_)
  refine WQ_iconst (1) (1) dX3_faultOfName_12 rfl rfl (fun v6744 hv6744 => ?_)
  refine WP_goto 17 dX3_faultOfName_13 rfl ?_
  exact WP_sub (fc rfl (fc rfl (fc rfl (fc rfl (fc rfl fn))))) (jn17_6717 v6744 (by omega) (by omega))
set_option maxHeartbeats 4000000 in
set_option maxRecDepth 100000 in
theorem sx_part_27_1_1 {g : GG} {n : Int} {L : Int32} (hy : LyX g)  {I : pI} {J : pJ} {R : pR} (hr : RfX g R) (hI : XI g n L I) (pa : Int32) (cz : Int32) (ix : Int32) (pa_lo : 80 ≤ pa.toInt) (pa_hi : pa.toInt ≤ 80) (cz_lo : 1 ≤ cz.toInt) (cz_hi : cz.toInt ≤ 1) (ix_lo : 1 ≤ ix.toInt) (ix_hi : ix.toInt ≤ 1) : SP g mX3_faultOfNumber [.ref (ad g 3), .int pa, .int cz, .int ix, .ref (ad g 27)] I J R (fun r I' J' R' => (XI g n L I' ∧ R' = R ∧ fz 74 g [4] I I' ∧ fz 74 g [] J J' ∧ True ∧ I' (ad g 4) 0 = I (ad g 4) 0 ∧ I' (ad g 27) 1 = I (ad g 27) 1 ∧ I' (ad g 27) 2 = I (ad g 27) 2) ∧ ∃ v : Int32, r = some (.int v) ∧ 0 ≤ v.toInt ∧ v.toInt ≤ 5 ∧ (v.toInt = 0 → (I' (ad g 4) 1).toInt ≤ 99)) := by
  refine SP_of ⟨by decide, rfl⟩ (Nat.le_of_ble_eq_true rfl) ?_
  have e6745 : I (ad g 1) 1 = L := hI.2
  have b6746 := BT_get hI.1 1 1 2 (0) (0) (900) (by decide) 1 (by decide) (by decide)
  rw [e6745] at b6746
  have fr0 : fz 74 g [4] I I := fz_rf
  have frj0 : fz 74 g [] J J := fz_rf
  obtain ⟨w6747, ew6747⟩ : ∃ w : Int32, I (ad g 4) 0 = w := ⟨_, rfl⟩
  have bw6747 := BT_get hI.1 4 0 5 (0) (0) (1000) (by decide) 0 (by decide) (by decide)
  rw [ew6747] at bw6747
  obtain ⟨w6748, ew6748⟩ : ∃ w : Int32, I (ad g 27) 1 = w := ⟨_, rfl⟩
  have bw6748 := BT_get hI.1 27 1 2 (0) (0) (4) (by decide) 1 (by decide) (by decide)
  rw [ew6748] at bw6748
  obtain ⟨w6749, ew6749⟩ : ∃ w : Int32, I (ad g 27) 2 = w := ⟨_, rfl⟩
  have bw6749 := BT_get hI.1 27 2 3 (0) (0) (3) (by decide) 2 (by decide) (by decide)
  rw [ew6749] at bw6749
  refine WP_aload_n dX3_faultOfNumber_0 rfl ?_
  refine WP_getr dX3_faultOfNumber_1 fX3_15 rfl (lyx_is hy 3 3 rfl) (rfx hr 3 2 1 (by decide)) ?_
  refine WQ_getiu dX3_faultOfNumber_4 fX3_118 rfl (lyx_is hy 1 5 rfl) (fun v6750 ev6750 => ?_)
  refine WP_istore (ls' := [(0, _), (1, _), (2, _), (3, _), (4, _), (5, _)]) dX3_faultOfNumber_7 (by decide) rfl ?_
  refine WP_iload dX3_faultOfNumber_9 rfl ?_
  refine WP_iload_n dX3_faultOfNumber_11 rfl ?_
  refine WP_callS1 dX3_faultOfNumber_12 ⟨⟨⟨by decide, by decide⟩, zX3_leastOf⟩, lX3_121, tX3_leastOf⟩ (sx_leastOf hy hr hI pa ) (Nat.le_of_ble_eq_true rfl) ?_
  intro r Ia Ja Ra hq
  obtain ⟨⟨ea, eb, ec⟩, v6751, rfl, av6751, bv6751⟩ := hq
  show WP _ _ _ _ (.int _ :: _) _ _ _ _
  rw [ea, eb, ec]
  clear ea eb ec Ia Ja Ra
  refine WQ_icmp_lt 27 dX3_faultOfNumber_15 rfl (fun c6751 => ?_) (fun c6751 => ?_)
  · refine WQ_iconst (2) (2) dX3_faultOfNumber_27 rfl rfl (fun v6753 hv6753 => ?_)
    obtain ⟨w6754, ew6754⟩ : ∃ w : Int32, I (ad g 4) 1 = w := ⟨_, rfl⟩
    have bw6754 := BT_get hI.1 4 0 5 (0) (0) (1000) (by decide) 1 (by decide) (by decide)
    rw [ew6754] at bw6754
    exact WP_iret dX3_faultOfNumber_28 rfl ⟨⟨hI, rfl, fr0, frj0, ⟨trivial, rfl, rfl, rfl⟩⟩, _, rfl, by omega, by omega, by (try rw [ew6754]); omega⟩
  · refine WP_iload dX3_faultOfNumber_18 rfl ?_
    refine WP_iload_n dX3_faultOfNumber_20 rfl ?_
    refine WP_callS1 dX3_faultOfNumber_21 ⟨⟨⟨by decide, by decide⟩, zX3_mostOf⟩, lX3_125, tX3_mostOf⟩ (sx_mostOf hy hr hI pa ) (Nat.le_of_ble_eq_true rfl) ?_
    intro r Ia Ja Ra hq
    obtain ⟨⟨ea, eb, ec⟩, v6755, rfl, av6755, bv6755, cv6755⟩ := hq
    show WP _ _ _ _ (.int _ :: _) _ _ _ _
    rw [ea, eb, ec]
    clear ea eb ec Ia Ja Ra
    refine WQ_icmp_le 29 dX3_faultOfNumber_24 rfl (fun c6755 => ?_) (fun c6755 => ?_)
    · refine WP_aload_n dX3_faultOfNumber_29 rfl ?_
      refine WP_getr dX3_faultOfNumber_30 fX3_9 rfl (lyx_is hy 3 3 rfl) (rfx hr 3 3 4 (by decide)) ?_
      refine WP_iload_n dX3_faultOfNumber_33 rfl ?_
      refine WP_iload dX3_faultOfNumber_34 rfl ?_
      refine WQ_iast dX3_faultOfNumber_36 (lyx_is hy 4 13 rfl) (lyx_n hy 4 5 rfl) (by omega) (by omega) (fun I6757 fI6757 => ?_)
      have eI6757 := fI6757
      rw [cl (x := ix) (n := 1) (by omega)] at eI6757
      clear fI6757
      have hI6757 : XI g n L I6757 := by rw [eI6757]; exact (xi_f hy hI (c := 4) (0) (0) (1000) (by decide) (Or.inl (by decide)) (by decide) (by omega) (by omega))
      have e6758 : I6757 (ad g 1) 1 = L := by rw [eI6757, pp_ne _ _ (Or.inl (lyx_ne hy (by decide) (by decide) (by decide)))]; exact e6745
      have e6759 : I6757 (ad g 4) 0 = w6747 := by rw [eI6757, pp_ne _ _ (Or.inr (by decide))]; exact ew6747
      have e6760 : I6757 (ad g 27) 1 = w6748 := by rw [eI6757, pp_ne _ _ (Or.inl (lyx_ne hy (by decide) (by decide) (by decide)))]; exact ew6748
      have e6761 : I6757 (ad g 27) 2 = w6749 := by rw [eI6757, pp_ne _ _ (Or.inl (lyx_ne hy (by decide) (by decide) (by decide)))]; exact ew6749
      have e6762 : I6757 (ad g 1) 4 = v6750 := by rw [eI6757, pp_ne _ _ (Or.inl (lyx_ne hy (by decide) (by decide) (by decide)))]; exact ev6750
      have e6763 : I6757 (ad g 4) 1 = v6750 := by rw [eI6757, pp_self]
      have fr6764 : fz 74 g [4] I I6757 := by rw [eI6757]; exact fzx_pp hy fr0 (by decide) (by decide)
      clear eI6757
      refine WP_iload_n dX3_faultOfNumber_37 rfl ?_
      refine WQ_bipush (68) (68) dX3_faultOfNumber_38 rfl rfl (fun v6765 hv6765 => ?_)
      refine WQ_icmp_eq 45 dX3_faultOfNumber_40 rfl (fun c6765 => False.elim (by omega)) (fun c6765 => ?_)
      refine WQ_iconst (0) (0) dX3_faultOfNumber_43 rfl rfl (fun v6767 hv6767 => ?_)
      exact WP_iret dX3_faultOfNumber_44 rfl ⟨⟨hI6757, rfl, fr6764, frj0, ⟨trivial, (by rw [e6759, ew6747] <;> exact (eq32 _ _).mpr (by omega)), (by rw [e6760, ew6748] <;> exact (eq32 _ _).mpr (by omega)), (by rw [e6761, ew6749] <;> exact (eq32 _ _).mpr (by omega))⟩⟩, _, rfl, by omega, by omega, by (try rw [e6763]); omega⟩
    · refine WQ_iconst (2) (2) dX3_faultOfNumber_27 rfl rfl (fun v6768 hv6768 => ?_)
      obtain ⟨w6769, ew6769⟩ : ∃ w : Int32, I (ad g 4) 1 = w := ⟨_, rfl⟩
      have bw6769 := BT_get hI.1 4 0 5 (0) (0) (1000) (by decide) 1 (by decide) (by decide)
      rw [ew6769] at bw6769
      exact WP_iret dX3_faultOfNumber_28 rfl ⟨⟨hI, rfl, fr0, frj0, ⟨trivial, rfl, rfl, rfl⟩⟩, _, rfl, by omega, by omega, by (try rw [ew6769]); omega⟩
set_option maxHeartbeats 4000000 in
set_option maxRecDepth 100000 in
theorem sx_part_27_1_2 {g : GG} {n : Int} {L : Int32} (hy : LyX g)  {I : pI} {J : pJ} {R : pR} (hr : RfX g R) (hI : XI g n L I) (pa : Int32) (cz : Int32) (ix : Int32) (pa_lo : 72 ≤ pa.toInt) (pa_hi : pa.toInt ≤ 72) (cz_lo : 1 ≤ cz.toInt) (cz_hi : cz.toInt ≤ 1) (ix_lo : 2 ≤ ix.toInt) (ix_hi : ix.toInt ≤ 2) : SP g mX3_faultOfNumber [.ref (ad g 3), .int pa, .int cz, .int ix, .ref (ad g 27)] I J R (fun r I' J' R' => (XI g n L I' ∧ R' = R ∧ fz 74 g [4] I I' ∧ fz 74 g [] J J' ∧ True ∧ I' (ad g 4) 0 = I (ad g 4) 0 ∧ I' (ad g 4) 1 = I (ad g 4) 1 ∧ I' (ad g 27) 1 = I (ad g 27) 1 ∧ I' (ad g 27) 2 = I (ad g 27) 2) ∧ ∃ v : Int32, r = some (.int v) ∧ 0 ≤ v.toInt ∧ v.toInt ≤ 5 ∧ (v.toInt = 0 → (I' (ad g 4) 2).toInt ≤ 1000)) := by
  refine SP_of ⟨by decide, rfl⟩ (Nat.le_of_ble_eq_true rfl) ?_
  have e6770 : I (ad g 1) 1 = L := hI.2
  have b6771 := BT_get hI.1 1 1 2 (0) (0) (900) (by decide) 1 (by decide) (by decide)
  rw [e6770] at b6771
  have fr0 : fz 74 g [4] I I := fz_rf
  have frj0 : fz 74 g [] J J := fz_rf
  obtain ⟨w6772, ew6772⟩ : ∃ w : Int32, I (ad g 4) 0 = w := ⟨_, rfl⟩
  have bw6772 := BT_get hI.1 4 0 5 (0) (0) (1000) (by decide) 0 (by decide) (by decide)
  rw [ew6772] at bw6772
  obtain ⟨w6773, ew6773⟩ : ∃ w : Int32, I (ad g 4) 1 = w := ⟨_, rfl⟩
  have bw6773 := BT_get hI.1 4 0 5 (0) (0) (1000) (by decide) 1 (by decide) (by decide)
  rw [ew6773] at bw6773
  obtain ⟨w6774, ew6774⟩ : ∃ w : Int32, I (ad g 27) 1 = w := ⟨_, rfl⟩
  have bw6774 := BT_get hI.1 27 1 2 (0) (0) (4) (by decide) 1 (by decide) (by decide)
  rw [ew6774] at bw6774
  obtain ⟨w6775, ew6775⟩ : ∃ w : Int32, I (ad g 27) 2 = w := ⟨_, rfl⟩
  have bw6775 := BT_get hI.1 27 2 3 (0) (0) (3) (by decide) 2 (by decide) (by decide)
  rw [ew6775] at bw6775
  refine WP_aload_n dX3_faultOfNumber_0 rfl ?_
  refine WP_getr dX3_faultOfNumber_1 fX3_15 rfl (lyx_is hy 3 3 rfl) (rfx hr 3 2 1 (by decide)) ?_
  refine WQ_getiu dX3_faultOfNumber_4 fX3_118 rfl (lyx_is hy 1 5 rfl) (fun v6776 ev6776 => ?_)
  refine WP_istore (ls' := [(0, _), (1, _), (2, _), (3, _), (4, _), (5, _)]) dX3_faultOfNumber_7 (by decide) rfl ?_
  refine WP_iload dX3_faultOfNumber_9 rfl ?_
  refine WP_iload_n dX3_faultOfNumber_11 rfl ?_
  refine WP_callS1 dX3_faultOfNumber_12 ⟨⟨⟨by decide, by decide⟩, zX3_leastOf⟩, lX3_121, tX3_leastOf⟩ (sx_leastOf hy hr hI pa ) (Nat.le_of_ble_eq_true rfl) ?_
  intro r Ia Ja Ra hq
  obtain ⟨⟨ea, eb, ec⟩, v6777, rfl, av6777, bv6777⟩ := hq
  show WP _ _ _ _ (.int _ :: _) _ _ _ _
  rw [ea, eb, ec]
  clear ea eb ec Ia Ja Ra
  refine WQ_icmp_lt 27 dX3_faultOfNumber_15 rfl (fun c6777 => ?_) (fun c6777 => ?_)
  · refine WQ_iconst (2) (2) dX3_faultOfNumber_27 rfl rfl (fun v6779 hv6779 => ?_)
    obtain ⟨w6780, ew6780⟩ : ∃ w : Int32, I (ad g 4) 2 = w := ⟨_, rfl⟩
    have bw6780 := BT_get hI.1 4 0 5 (0) (0) (1000) (by decide) 2 (by decide) (by decide)
    rw [ew6780] at bw6780
    exact WP_iret dX3_faultOfNumber_28 rfl ⟨⟨hI, rfl, fr0, frj0, ⟨trivial, rfl, rfl, rfl, rfl⟩⟩, _, rfl, by omega, by omega, by (try rw [ew6780]); omega⟩
  · refine WP_iload dX3_faultOfNumber_18 rfl ?_
    refine WP_iload_n dX3_faultOfNumber_20 rfl ?_
    refine WP_callS1 dX3_faultOfNumber_21 ⟨⟨⟨by decide, by decide⟩, zX3_mostOf⟩, lX3_125, tX3_mostOf⟩ (sx_mostOf hy hr hI pa ) (Nat.le_of_ble_eq_true rfl) ?_
    intro r Ia Ja Ra hq
    obtain ⟨⟨ea, eb, ec⟩, v6781, rfl, av6781, bv6781, cv6781⟩ := hq
    show WP _ _ _ _ (.int _ :: _) _ _ _ _
    rw [ea, eb, ec]
    clear ea eb ec Ia Ja Ra
    refine WQ_icmp_le 29 dX3_faultOfNumber_24 rfl (fun c6781 => ?_) (fun c6781 => ?_)
    · refine WP_aload_n dX3_faultOfNumber_29 rfl ?_
      refine WP_getr dX3_faultOfNumber_30 fX3_9 rfl (lyx_is hy 3 3 rfl) (rfx hr 3 3 4 (by decide)) ?_
      refine WP_iload_n dX3_faultOfNumber_33 rfl ?_
      refine WP_iload dX3_faultOfNumber_34 rfl ?_
      refine WQ_iast dX3_faultOfNumber_36 (lyx_is hy 4 13 rfl) (lyx_n hy 4 5 rfl) (by omega) (by omega) (fun I6783 fI6783 => ?_)
      have eI6783 := fI6783
      rw [cl (x := ix) (n := 2) (by omega)] at eI6783
      clear fI6783
      have hI6783 : XI g n L I6783 := by rw [eI6783]; exact (xi_f hy hI (c := 4) (0) (0) (1000) (by decide) (Or.inl (by decide)) (by decide) (by omega) (by omega))
      have e6784 : I6783 (ad g 1) 1 = L := by rw [eI6783, pp_ne _ _ (Or.inl (lyx_ne hy (by decide) (by decide) (by decide)))]; exact e6770
      have e6785 : I6783 (ad g 4) 0 = w6772 := by rw [eI6783, pp_ne _ _ (Or.inr (by decide))]; exact ew6772
      have e6786 : I6783 (ad g 4) 1 = w6773 := by rw [eI6783, pp_ne _ _ (Or.inr (by decide))]; exact ew6773
      have e6787 : I6783 (ad g 27) 1 = w6774 := by rw [eI6783, pp_ne _ _ (Or.inl (lyx_ne hy (by decide) (by decide) (by decide)))]; exact ew6774
      have e6788 : I6783 (ad g 27) 2 = w6775 := by rw [eI6783, pp_ne _ _ (Or.inl (lyx_ne hy (by decide) (by decide) (by decide)))]; exact ew6775
      have e6789 : I6783 (ad g 1) 4 = v6776 := by rw [eI6783, pp_ne _ _ (Or.inl (lyx_ne hy (by decide) (by decide) (by decide)))]; exact ev6776
      have e6790 : I6783 (ad g 4) 2 = v6776 := by rw [eI6783, pp_self]
      have fr6791 : fz 74 g [4] I I6783 := by rw [eI6783]; exact fzx_pp hy fr0 (by decide) (by decide)
      clear eI6783
      refine WP_iload_n dX3_faultOfNumber_37 rfl ?_
      refine WQ_bipush (68) (68) dX3_faultOfNumber_38 rfl rfl (fun v6792 hv6792 => ?_)
      refine WQ_icmp_eq 45 dX3_faultOfNumber_40 rfl (fun c6792 => False.elim (by omega)) (fun c6792 => ?_)
      refine WQ_iconst (0) (0) dX3_faultOfNumber_43 rfl rfl (fun v6794 hv6794 => ?_)
      exact WP_iret dX3_faultOfNumber_44 rfl ⟨⟨hI6783, rfl, fr6791, frj0, ⟨trivial, (by rw [e6785, ew6772] <;> exact (eq32 _ _).mpr (by omega)), (by rw [e6786, ew6773] <;> exact (eq32 _ _).mpr (by omega)), (by rw [e6787, ew6774] <;> exact (eq32 _ _).mpr (by omega)), (by rw [e6788, ew6775] <;> exact (eq32 _ _).mpr (by omega))⟩⟩, _, rfl, by omega, by omega, by (try rw [e6790]); omega⟩
    · refine WQ_iconst (2) (2) dX3_faultOfNumber_27 rfl rfl (fun v6795 hv6795 => ?_)
      obtain ⟨w6796, ew6796⟩ : ∃ w : Int32, I (ad g 4) 2 = w := ⟨_, rfl⟩
      have bw6796 := BT_get hI.1 4 0 5 (0) (0) (1000) (by decide) 2 (by decide) (by decide)
      rw [ew6796] at bw6796
      exact WP_iret dX3_faultOfNumber_28 rfl ⟨⟨hI, rfl, fr0, frj0, ⟨trivial, rfl, rfl, rfl, rfl⟩⟩, _, rfl, by omega, by omega, by (try rw [ew6796]); omega⟩
set_option maxHeartbeats 4000000 in
set_option maxRecDepth 100000 in
theorem sx_part_27_1_3 {g : GG} {n : Int} {L : Int32} (hy : LyX g)  {I : pI} {J : pJ} {R : pR} (hr : RfX g R) (hI : XI g n L I) (pa : Int32) (cz : Int32) (ix : Int32) (pa_lo : 67 ≤ pa.toInt) (pa_hi : pa.toInt ≤ 67) (cz_lo : 1 ≤ cz.toInt) (cz_hi : cz.toInt ≤ 1) (ix_lo : 3 ≤ ix.toInt) (ix_hi : ix.toInt ≤ 3) : SP g mX3_faultOfNumber [.ref (ad g 3), .int pa, .int cz, .int ix, .ref (ad g 27)] I J R (fun r I' J' R' => (XI g n L I' ∧ R' = R ∧ fz 74 g [4] I I' ∧ fz 74 g [] J J' ∧ True ∧ I' (ad g 4) 0 = I (ad g 4) 0 ∧ I' (ad g 4) 1 = I (ad g 4) 1 ∧ I' (ad g 4) 2 = I (ad g 4) 2 ∧ I' (ad g 27) 1 = I (ad g 27) 1 ∧ I' (ad g 27) 2 = I (ad g 27) 2) ∧ ∃ v : Int32, r = some (.int v) ∧ 0 ≤ v.toInt ∧ v.toInt ≤ 5 ∧ (v.toInt = 0 → (I' (ad g 4) 3).toInt ≤ 60)) := by
  refine SP_of ⟨by decide, rfl⟩ (Nat.le_of_ble_eq_true rfl) ?_
  have e6797 : I (ad g 1) 1 = L := hI.2
  have b6798 := BT_get hI.1 1 1 2 (0) (0) (900) (by decide) 1 (by decide) (by decide)
  rw [e6797] at b6798
  have fr0 : fz 74 g [4] I I := fz_rf
  have frj0 : fz 74 g [] J J := fz_rf
  obtain ⟨w6799, ew6799⟩ : ∃ w : Int32, I (ad g 4) 0 = w := ⟨_, rfl⟩
  have bw6799 := BT_get hI.1 4 0 5 (0) (0) (1000) (by decide) 0 (by decide) (by decide)
  rw [ew6799] at bw6799
  obtain ⟨w6800, ew6800⟩ : ∃ w : Int32, I (ad g 4) 1 = w := ⟨_, rfl⟩
  have bw6800 := BT_get hI.1 4 0 5 (0) (0) (1000) (by decide) 1 (by decide) (by decide)
  rw [ew6800] at bw6800
  obtain ⟨w6801, ew6801⟩ : ∃ w : Int32, I (ad g 4) 2 = w := ⟨_, rfl⟩
  have bw6801 := BT_get hI.1 4 0 5 (0) (0) (1000) (by decide) 2 (by decide) (by decide)
  rw [ew6801] at bw6801
  obtain ⟨w6802, ew6802⟩ : ∃ w : Int32, I (ad g 27) 1 = w := ⟨_, rfl⟩
  have bw6802 := BT_get hI.1 27 1 2 (0) (0) (4) (by decide) 1 (by decide) (by decide)
  rw [ew6802] at bw6802
  obtain ⟨w6803, ew6803⟩ : ∃ w : Int32, I (ad g 27) 2 = w := ⟨_, rfl⟩
  have bw6803 := BT_get hI.1 27 2 3 (0) (0) (3) (by decide) 2 (by decide) (by decide)
  rw [ew6803] at bw6803
  refine WP_aload_n dX3_faultOfNumber_0 rfl ?_
  refine WP_getr dX3_faultOfNumber_1 fX3_15 rfl (lyx_is hy 3 3 rfl) (rfx hr 3 2 1 (by decide)) ?_
  refine WQ_getiu dX3_faultOfNumber_4 fX3_118 rfl (lyx_is hy 1 5 rfl) (fun v6804 ev6804 => ?_)
  refine WP_istore (ls' := [(0, _), (1, _), (2, _), (3, _), (4, _), (5, _)]) dX3_faultOfNumber_7 (by decide) rfl ?_
  refine WP_iload dX3_faultOfNumber_9 rfl ?_
  refine WP_iload_n dX3_faultOfNumber_11 rfl ?_
  refine WP_callS1 dX3_faultOfNumber_12 ⟨⟨⟨by decide, by decide⟩, zX3_leastOf⟩, lX3_121, tX3_leastOf⟩ (sx_leastOf hy hr hI pa ) (Nat.le_of_ble_eq_true rfl) ?_
  intro r Ia Ja Ra hq
  obtain ⟨⟨ea, eb, ec⟩, v6805, rfl, av6805, bv6805⟩ := hq
  show WP _ _ _ _ (.int _ :: _) _ _ _ _
  rw [ea, eb, ec]
  clear ea eb ec Ia Ja Ra
  refine WQ_icmp_lt 27 dX3_faultOfNumber_15 rfl (fun c6805 => ?_) (fun c6805 => ?_)
  · refine WQ_iconst (2) (2) dX3_faultOfNumber_27 rfl rfl (fun v6807 hv6807 => ?_)
    obtain ⟨w6808, ew6808⟩ : ∃ w : Int32, I (ad g 4) 3 = w := ⟨_, rfl⟩
    have bw6808 := BT_get hI.1 4 0 5 (0) (0) (1000) (by decide) 3 (by decide) (by decide)
    rw [ew6808] at bw6808
    exact WP_iret dX3_faultOfNumber_28 rfl ⟨⟨hI, rfl, fr0, frj0, ⟨trivial, rfl, rfl, rfl, rfl, rfl⟩⟩, _, rfl, by omega, by omega, by (try rw [ew6808]); omega⟩
  · refine WP_iload dX3_faultOfNumber_18 rfl ?_
    refine WP_iload_n dX3_faultOfNumber_20 rfl ?_
    refine WP_callS1 dX3_faultOfNumber_21 ⟨⟨⟨by decide, by decide⟩, zX3_mostOf⟩, lX3_125, tX3_mostOf⟩ (sx_mostOf hy hr hI pa ) (Nat.le_of_ble_eq_true rfl) ?_
    intro r Ia Ja Ra hq
    obtain ⟨⟨ea, eb, ec⟩, v6809, rfl, av6809, bv6809, cv6809⟩ := hq
    show WP _ _ _ _ (.int _ :: _) _ _ _ _
    rw [ea, eb, ec]
    clear ea eb ec Ia Ja Ra
    refine WQ_icmp_le 29 dX3_faultOfNumber_24 rfl (fun c6809 => ?_) (fun c6809 => ?_)
    · refine WP_aload_n dX3_faultOfNumber_29 rfl ?_
      refine WP_getr dX3_faultOfNumber_30 fX3_9 rfl (lyx_is hy 3 3 rfl) (rfx hr 3 3 4 (by decide)) ?_
      refine WP_iload_n dX3_faultOfNumber_33 rfl ?_
      refine WP_iload dX3_faultOfNumber_34 rfl ?_
      refine WQ_iast dX3_faultOfNumber_36 (lyx_is hy 4 13 rfl) (lyx_n hy 4 5 rfl) (by omega) (by omega) (fun I6811 fI6811 => ?_)
      have eI6811 := fI6811
      rw [cl (x := ix) (n := 3) (by omega)] at eI6811
      clear fI6811
      have hI6811 : XI g n L I6811 := by rw [eI6811]; exact (xi_f hy hI (c := 4) (0) (0) (1000) (by decide) (Or.inl (by decide)) (by decide) (by omega) (by omega))
      have e6812 : I6811 (ad g 1) 1 = L := by rw [eI6811, pp_ne _ _ (Or.inl (lyx_ne hy (by decide) (by decide) (by decide)))]; exact e6797
      have e6813 : I6811 (ad g 4) 0 = w6799 := by rw [eI6811, pp_ne _ _ (Or.inr (by decide))]; exact ew6799
      have e6814 : I6811 (ad g 4) 1 = w6800 := by rw [eI6811, pp_ne _ _ (Or.inr (by decide))]; exact ew6800
      have e6815 : I6811 (ad g 4) 2 = w6801 := by rw [eI6811, pp_ne _ _ (Or.inr (by decide))]; exact ew6801
      have e6816 : I6811 (ad g 27) 1 = w6802 := by rw [eI6811, pp_ne _ _ (Or.inl (lyx_ne hy (by decide) (by decide) (by decide)))]; exact ew6802
      have e6817 : I6811 (ad g 27) 2 = w6803 := by rw [eI6811, pp_ne _ _ (Or.inl (lyx_ne hy (by decide) (by decide) (by decide)))]; exact ew6803
      have e6818 : I6811 (ad g 1) 4 = v6804 := by rw [eI6811, pp_ne _ _ (Or.inl (lyx_ne hy (by decide) (by decide) (by decide)))]; exact ev6804
      have e6819 : I6811 (ad g 4) 3 = v6804 := by rw [eI6811, pp_self]
      have fr6820 : fz 74 g [4] I I6811 := by rw [eI6811]; exact fzx_pp hy fr0 (by decide) (by decide)
      clear eI6811
      refine WP_iload_n dX3_faultOfNumber_37 rfl ?_
      refine WQ_bipush (68) (68) dX3_faultOfNumber_38 rfl rfl (fun v6821 hv6821 => ?_)
      refine WQ_icmp_eq 45 dX3_faultOfNumber_40 rfl (fun c6821 => False.elim (by omega)) (fun c6821 => ?_)
      refine WQ_iconst (0) (0) dX3_faultOfNumber_43 rfl rfl (fun v6823 hv6823 => ?_)
      exact WP_iret dX3_faultOfNumber_44 rfl ⟨⟨hI6811, rfl, fr6820, frj0, ⟨trivial, (by rw [e6813, ew6799] <;> exact (eq32 _ _).mpr (by omega)), (by rw [e6814, ew6800] <;> exact (eq32 _ _).mpr (by omega)), (by rw [e6815, ew6801] <;> exact (eq32 _ _).mpr (by omega)), (by rw [e6816, ew6802] <;> exact (eq32 _ _).mpr (by omega)), (by rw [e6817, ew6803] <;> exact (eq32 _ _).mpr (by omega))⟩⟩, _, rfl, by omega, by omega, by (try rw [e6819]); omega⟩
    · refine WQ_iconst (2) (2) dX3_faultOfNumber_27 rfl rfl (fun v6824 hv6824 => ?_)
      obtain ⟨w6825, ew6825⟩ : ∃ w : Int32, I (ad g 4) 3 = w := ⟨_, rfl⟩
      have bw6825 := BT_get hI.1 4 0 5 (0) (0) (1000) (by decide) 3 (by decide) (by decide)
      rw [ew6825] at bw6825
      exact WP_iret dX3_faultOfNumber_28 rfl ⟨⟨hI, rfl, fr0, frj0, ⟨trivial, rfl, rfl, rfl, rfl, rfl⟩⟩, _, rfl, by omega, by omega, by (try rw [ew6825]); omega⟩
set_option maxHeartbeats 4000000 in
set_option maxRecDepth 100000 in
theorem sx_part_27_2_0 {g : GG} {n : Int} {L : Int32} (hy : LyX g)  {I : pI} {J : pJ} {R : pR} (hr : RfX g R) (hI : XI g n L I) (pa : Int32) (cz : Int32) (ix : Int32) (pa_lo : 109 ≤ pa.toInt) (pa_hi : pa.toInt ≤ 109) (cz_lo : 2 ≤ cz.toInt) (cz_hi : cz.toInt ≤ 2) (ix_lo : 0 ≤ ix.toInt) (ix_hi : ix.toInt ≤ 0) (hb : (I (ad g 27) 2).toInt ≤ 2) : SP g mX3_faultOfName [.ref (ad g 3), .int pa, .int cz, .int ix, .ref (ad g 27)] I J R (fun r I' J' R' => (XI g n L I' ∧ R' = R ∧ fz 74 g [] I I' ∧ fz 74 g [41] J J' ∧ True ∧ I' (ad g 27) 1 = I (ad g 27) 1 ∧ I' (ad g 27) 2 = I (ad g 27) 2) ∧ ∃ v : Int32, r = some (.int v) ∧ 0 ≤ v.toInt ∧ v.toInt ≤ 5) := by
  refine SP_of ⟨by decide, rfl⟩ (Nat.le_of_ble_eq_true rfl) ?_
  have e6826 : I (ad g 1) 1 = L := hI.2
  have b6827 := BT_get hI.1 1 1 2 (0) (0) (900) (by decide) 1 (by decide) (by decide)
  rw [e6826] at b6827
  have fr0 : fz 74 g [] I I := fz_rf
  have frj0 : fz 74 g [41] J J := fz_rf
  obtain ⟨w6828, ew6828⟩ : ∃ w : Int32, I (ad g 27) 1 = w := ⟨_, rfl⟩
  have bw6828 := BT_get hI.1 27 1 2 (0) (0) (4) (by decide) 1 (by decide) (by decide)
  rw [ew6828] at bw6828
  obtain ⟨w6829, ew6829⟩ : ∃ w : Int32, I (ad g 27) 2 = w := ⟨_, rfl⟩
  have bw6829 := BT_get hI.1 27 2 3 (0) (0) (3) (by decide) 2 (by decide) (by decide)
  rw [ew6829] at bw6829
  rw [ew6829] at hb
  refine WP_iload_n dX3_faultOfName_0 rfl ?_
  refine WQ_bipush (115) (115) dX3_faultOfName_1 rfl rfl (fun v6830 hv6830 => ?_)
  have jn17_6834 : ∀ (v6834 : Int32), 0 ≤ v6834.toInt → v6834.toInt ≤ 0 → WP g mX3_faultOfName 17 [(0, .ref (ad g 3)), (1, .int pa), (2, .int cz), (3, .int ix), (4, .ref (ad g 27))] [.int v6834] I J R (fun r I' J' R' => (XI g n L I' ∧ R' = R ∧ fz 74 g [] I I' ∧ fz 74 g [41] J J' ∧ True ∧ I' (ad g 27) 1 = I (ad g 27) 1 ∧ I' (ad g 27) 2 = I (ad g 27) 2) ∧ ∃ v : Int32, r = some (.int v) ∧ 0 ≤ v.toInt ∧ v.toInt ≤ 5) := by
    intro v6834 av6834 bv6834
    refine WP_istore (ls' := [(0, _), (1, _), (2, _), (3, _), (4, _), (5, _)]) dX3_faultOfName_17 (by decide) rfl ?_
    refine WP_iload dX3_faultOfName_19 rfl ?_
    have jn51_6838 : ∀ (v6838 : Int32), -1 ≤ v6838.toInt → v6838.toInt ≤ 2 → WP g mX3_faultOfName 51 [(0, .ref (ad g 3)), (1, .int pa), (2, .int cz), (3, .int ix), (4, .ref (ad g 27)), (5, .int v6834)] [.int v6838] I J R (fun r I' J' R' => (XI g n L I' ∧ R' = R ∧ fz 74 g [] I I' ∧ fz 74 g [41] J J' ∧ True ∧ I' (ad g 27) 1 = I (ad g 27) 1 ∧ I' (ad g 27) 2 = I (ad g 27) 2) ∧ ∃ v : Int32, r = some (.int v) ∧ 0 ≤ v.toInt ∧ v.toInt ≤ 5) := by
      intro v6838 av6838 bv6838
      refine WP_istore (ls' := [(0, _), (1, _), (2, _), (3, _), (4, _), (5, _), (6, _)]) dX3_faultOfName_51 (by decide) rfl ?_
      refine WP_iload_n dX3_faultOfName_53 rfl ?_
      refine WQ_bipush (110) (110) dX3_faultOfName_54 rfl rfl (fun v6840 hv6840 => ?_)
      refine WQ_icmp_eq 65 dX3_faultOfName_56 rfl (fun c6840 => False.elim (by omega)) (fun c6840 => ?_)
      refine WP_iload_n dX3_faultOfName_59 rfl ?_
      refine WQ_bipush (109) (109) dX3_faultOfName_60 rfl rfl (fun v6842 hv6842 => ?_)
      refine WQ_icmp_ne 98 dX3_faultOfName_62 rfl (fun c6842 => False.elim (by omega)) (fun c6842 => ?_)
      refine WP_iload dX3_faultOfName_65 rfl ?_
      refine WQ_iconst (-1) (-1) dX3_faultOfName_67 rfl rfl (fun v6844 hv6844 => ?_)
      refine WQ_icmp_eq 73 dX3_faultOfName_68 rfl (fun c6844 => ?_) (fun c6844 => ?_)
      · refine WP_aload dX3_faultOfName_73 rfl ?_
        refine WP_iload_n dX3_faultOfName_75 rfl ?_
        refine WQ_bipush (110) (110) dX3_faultOfName_76 rfl rfl (fun v6846 hv6846 => ?_)
        have jn86_6848 : ∀ (v6848 : Int32), 0 ≤ v6848.toInt → v6848.toInt ≤ 0 → WP g mX3_faultOfName 86 [(0, .ref (ad g 3)), (1, .int pa), (2, .int cz), (3, .int ix), (4, .ref (ad g 27)), (5, .int v6834), (6, .int v6838)] [.int v6848, .ref (ad g 27)] I J R (fun r I' J' R' => (XI g n L I' ∧ R' = R ∧ fz 74 g [] I I' ∧ fz 74 g [41] J J' ∧ True ∧ I' (ad g 27) 1 = I (ad g 27) 1 ∧ I' (ad g 27) 2 = I (ad g 27) 2) ∧ ∃ v : Int32, r = some (.int v) ∧ 0 ≤ v.toInt ∧ v.toInt ≤ 5) := by
          intro v6848 av6848 bv6848
          refine WP_aload_n dX3_faultOfName_86 rfl ?_
          refine WP_getr dX3_faultOfName_87 fX3_15 rfl (lyx_is hy 3 3 rfl) (rfx hr 3 2 1 (by decide)) ?_
          refine WQ_getl dX3_faultOfName_90 fX3_80 rfl (lyx_is hy 1 5 rfl) (fun l6850 el6850 => ?_)
          refine WP_callV2 (k := 7) dX3_faultOfName_93 ⟨⟨⟨by decide, by decide⟩, zX7_name⟩, lX3_110, by decide, rfl, vX7_name.1, vX7_name.2⟩ (lyx_is hy 27 7 rfl) (sx_name_27_0 hy hr hI v6848 l6850 (by omega) (by omega) (by rw [ew6829]; omega)) (Nat.le_of_ble_eq_true rfl) ?_
          intro r Ia J6851 Ra hq
          obtain ⟨⟨ea, ec, fjJ6851⟩, rfl⟩ := hq
          rw [ea, ec]
          clear ea ec Ia Ra
          have fr6852 : fz 74 g [41] J J6851 := fz_tr frj0 (fz_mono fjJ6851 (by decide))
          refine WQ_iconst (0) (0) dX3_faultOfName_96 rfl rfl (fun v6853 hv6853 => ?_)
          exact WP_iret dX3_faultOfName_97 rfl ⟨⟨hI, rfl, fr0, fr6852, ⟨trivial, rfl, rfl⟩⟩, _, rfl, by omega, by omega⟩
        refine WQ_icmp_ne 85 dX3_faultOfName_78 rfl (fun c6853 => ?_) (fun c6853 => False.elim (by omega))
        refine WQ_iconst (0) (0) dX3_faultOfName_85 rfl rfl (fun v6855 hv6855 => ?_)
        exact WP_sub (fc rfl (fc rfl (fc rfl (fc rfl (fc rfl (fc rfl (fc rfl fn))))))) (jn86_6848 v6855 (by omega) (by omega))
      · refine WQ_iconst (3) (3) dX3_faultOfName_71 rfl rfl (fun v6856 hv6856 => ?_)
        exact WP_iret dX3_faultOfName_72 rfl ⟨⟨hI, rfl, fr0, frj0, ⟨trivial, rfl, rfl⟩⟩, _, rfl, by omega, by omega⟩
    refine WQ_if_eq 39 dX3_faultOfName_21 rfl (fun c6856 => ?_) (fun c6856 => False.elim (by omega))
    refine WP_aload dX3_faultOfName_39 rfl ?_
    refine WP_aload_n dX3_faultOfName_41 rfl ?_
    refine WP_getr dX3_faultOfName_42 fX3_15 rfl (lyx_is hy 3 3 rfl) (rfx hr 3 2 1 (by decide)) ?_
    refine WQ_getl dX3_faultOfName_45 fX3_80 rfl (lyx_is hy 1 5 rfl) (fun l6858 el6858 => ?_)
    refine WP_callV1 (k := 7) dX3_faultOfName_48 ⟨⟨⟨by decide, by decide⟩, zX7_thingNamed⟩, lX3_107, by decide, rfl, vX7_thingNamed.1, vX7_thingNamed.2⟩ (lyx_is hy 27 7 rfl) (sx_thingNamed_27 hy hr hI l6858 ) (Nat.le_of_ble_eq_true rfl) ?_
    intro r Ia Ja Ra hq
    obtain ⟨⟨ea, eb, ec⟩, v6859, rfl, av6859, bv6859⟩ := hq
    show WP _ _ _ _ (.int _ :: _) _ _ _ _
    rw [ea, eb, ec]
    clear ea eb ec Ia Ja Ra
    exact WP_sub (fc rfl (fc rfl (fc rfl (fc rfl (fc rfl (fc rfl fn)))))) (jn51_6838 v6859 (by omega) (by omega))
  refine WQ_icmp_eq 12 dX3_faultOfName_3 rfl (fun c6859 => False.elim (by omega)) (fun c6859 => ?_)
  refine WP_iload_n dX3_faultOfName_6 rfl ?_
  refine WQ_bipush (110) (110) dX3_faultOfName_7 rfl rfl (fun v6861 hv6861 => ?_)
  refine WQ_icmp_ne 16 dX3_faultOfName_9 rfl (fun c6861 => ?_) (fun c6861 => False.elim (by omega))
  refine WQ_iconst (0) (0) dX3_faultOfName_16 rfl rfl (fun v6863 hv6863 => ?_)
  exact WP_sub (fc rfl (fc rfl (fc rfl (fc rfl (fc rfl fn))))) (jn17_6834 v6863 (by omega) (by omega))
set_option maxHeartbeats 4000000 in
set_option maxRecDepth 100000 in
theorem sx_part_27_2_1 {g : GG} {n : Int} {L : Int32} (hy : LyX g)  {I : pI} {J : pJ} {R : pR} (hr : RfX g R) (hI : XI g n L I) (pa : Int32) (cz : Int32) (ix : Int32) (pa_lo : 72 ≤ pa.toInt) (pa_hi : pa.toInt ≤ 72) (cz_lo : 2 ≤ cz.toInt) (cz_hi : cz.toInt ≤ 2) (ix_lo : 1 ≤ ix.toInt) (ix_hi : ix.toInt ≤ 1) : SP g mX3_faultOfNumber [.ref (ad g 3), .int pa, .int cz, .int ix, .ref (ad g 27)] I J R (fun r I' J' R' => (XI g n L I' ∧ R' = R ∧ fz 74 g [4] I I' ∧ fz 74 g [] J J' ∧ True ∧ I' (ad g 4) 0 = I (ad g 4) 0 ∧ I' (ad g 27) 1 = I (ad g 27) 1 ∧ I' (ad g 27) 2 = I (ad g 27) 2) ∧ ∃ v : Int32, r = some (.int v) ∧ 0 ≤ v.toInt ∧ v.toInt ≤ 5 ∧ (v.toInt = 0 → (I' (ad g 4) 1).toInt ≤ 1000)) := by
  refine SP_of ⟨by decide, rfl⟩ (Nat.le_of_ble_eq_true rfl) ?_
  have e6864 : I (ad g 1) 1 = L := hI.2
  have b6865 := BT_get hI.1 1 1 2 (0) (0) (900) (by decide) 1 (by decide) (by decide)
  rw [e6864] at b6865
  have fr0 : fz 74 g [4] I I := fz_rf
  have frj0 : fz 74 g [] J J := fz_rf
  obtain ⟨w6866, ew6866⟩ : ∃ w : Int32, I (ad g 4) 0 = w := ⟨_, rfl⟩
  have bw6866 := BT_get hI.1 4 0 5 (0) (0) (1000) (by decide) 0 (by decide) (by decide)
  rw [ew6866] at bw6866
  obtain ⟨w6867, ew6867⟩ : ∃ w : Int32, I (ad g 27) 1 = w := ⟨_, rfl⟩
  have bw6867 := BT_get hI.1 27 1 2 (0) (0) (4) (by decide) 1 (by decide) (by decide)
  rw [ew6867] at bw6867
  obtain ⟨w6868, ew6868⟩ : ∃ w : Int32, I (ad g 27) 2 = w := ⟨_, rfl⟩
  have bw6868 := BT_get hI.1 27 2 3 (0) (0) (3) (by decide) 2 (by decide) (by decide)
  rw [ew6868] at bw6868
  refine WP_aload_n dX3_faultOfNumber_0 rfl ?_
  refine WP_getr dX3_faultOfNumber_1 fX3_15 rfl (lyx_is hy 3 3 rfl) (rfx hr 3 2 1 (by decide)) ?_
  refine WQ_getiu dX3_faultOfNumber_4 fX3_118 rfl (lyx_is hy 1 5 rfl) (fun v6869 ev6869 => ?_)
  refine WP_istore (ls' := [(0, _), (1, _), (2, _), (3, _), (4, _), (5, _)]) dX3_faultOfNumber_7 (by decide) rfl ?_
  refine WP_iload dX3_faultOfNumber_9 rfl ?_
  refine WP_iload_n dX3_faultOfNumber_11 rfl ?_
  refine WP_callS1 dX3_faultOfNumber_12 ⟨⟨⟨by decide, by decide⟩, zX3_leastOf⟩, lX3_121, tX3_leastOf⟩ (sx_leastOf hy hr hI pa ) (Nat.le_of_ble_eq_true rfl) ?_
  intro r Ia Ja Ra hq
  obtain ⟨⟨ea, eb, ec⟩, v6870, rfl, av6870, bv6870⟩ := hq
  show WP _ _ _ _ (.int _ :: _) _ _ _ _
  rw [ea, eb, ec]
  clear ea eb ec Ia Ja Ra
  refine WQ_icmp_lt 27 dX3_faultOfNumber_15 rfl (fun c6870 => ?_) (fun c6870 => ?_)
  · refine WQ_iconst (2) (2) dX3_faultOfNumber_27 rfl rfl (fun v6872 hv6872 => ?_)
    obtain ⟨w6873, ew6873⟩ : ∃ w : Int32, I (ad g 4) 1 = w := ⟨_, rfl⟩
    have bw6873 := BT_get hI.1 4 0 5 (0) (0) (1000) (by decide) 1 (by decide) (by decide)
    rw [ew6873] at bw6873
    exact WP_iret dX3_faultOfNumber_28 rfl ⟨⟨hI, rfl, fr0, frj0, ⟨trivial, rfl, rfl, rfl⟩⟩, _, rfl, by omega, by omega, by (try rw [ew6873]); omega⟩
  · refine WP_iload dX3_faultOfNumber_18 rfl ?_
    refine WP_iload_n dX3_faultOfNumber_20 rfl ?_
    refine WP_callS1 dX3_faultOfNumber_21 ⟨⟨⟨by decide, by decide⟩, zX3_mostOf⟩, lX3_125, tX3_mostOf⟩ (sx_mostOf hy hr hI pa ) (Nat.le_of_ble_eq_true rfl) ?_
    intro r Ia Ja Ra hq
    obtain ⟨⟨ea, eb, ec⟩, v6874, rfl, av6874, bv6874, cv6874⟩ := hq
    show WP _ _ _ _ (.int _ :: _) _ _ _ _
    rw [ea, eb, ec]
    clear ea eb ec Ia Ja Ra
    refine WQ_icmp_le 29 dX3_faultOfNumber_24 rfl (fun c6874 => ?_) (fun c6874 => ?_)
    · refine WP_aload_n dX3_faultOfNumber_29 rfl ?_
      refine WP_getr dX3_faultOfNumber_30 fX3_9 rfl (lyx_is hy 3 3 rfl) (rfx hr 3 3 4 (by decide)) ?_
      refine WP_iload_n dX3_faultOfNumber_33 rfl ?_
      refine WP_iload dX3_faultOfNumber_34 rfl ?_
      refine WQ_iast dX3_faultOfNumber_36 (lyx_is hy 4 13 rfl) (lyx_n hy 4 5 rfl) (by omega) (by omega) (fun I6876 fI6876 => ?_)
      have eI6876 := fI6876
      rw [cl (x := ix) (n := 1) (by omega)] at eI6876
      clear fI6876
      have hI6876 : XI g n L I6876 := by rw [eI6876]; exact (xi_f hy hI (c := 4) (0) (0) (1000) (by decide) (Or.inl (by decide)) (by decide) (by omega) (by omega))
      have e6877 : I6876 (ad g 1) 1 = L := by rw [eI6876, pp_ne _ _ (Or.inl (lyx_ne hy (by decide) (by decide) (by decide)))]; exact e6864
      have e6878 : I6876 (ad g 4) 0 = w6866 := by rw [eI6876, pp_ne _ _ (Or.inr (by decide))]; exact ew6866
      have e6879 : I6876 (ad g 27) 1 = w6867 := by rw [eI6876, pp_ne _ _ (Or.inl (lyx_ne hy (by decide) (by decide) (by decide)))]; exact ew6867
      have e6880 : I6876 (ad g 27) 2 = w6868 := by rw [eI6876, pp_ne _ _ (Or.inl (lyx_ne hy (by decide) (by decide) (by decide)))]; exact ew6868
      have e6881 : I6876 (ad g 1) 4 = v6869 := by rw [eI6876, pp_ne _ _ (Or.inl (lyx_ne hy (by decide) (by decide) (by decide)))]; exact ev6869
      have e6882 : I6876 (ad g 4) 1 = v6869 := by rw [eI6876, pp_self]
      have fr6883 : fz 74 g [4] I I6876 := by rw [eI6876]; exact fzx_pp hy fr0 (by decide) (by decide)
      clear eI6876
      refine WP_iload_n dX3_faultOfNumber_37 rfl ?_
      refine WQ_bipush (68) (68) dX3_faultOfNumber_38 rfl rfl (fun v6884 hv6884 => ?_)
      refine WQ_icmp_eq 45 dX3_faultOfNumber_40 rfl (fun c6884 => False.elim (by omega)) (fun c6884 => ?_)
      refine WQ_iconst (0) (0) dX3_faultOfNumber_43 rfl rfl (fun v6886 hv6886 => ?_)
      exact WP_iret dX3_faultOfNumber_44 rfl ⟨⟨hI6876, rfl, fr6883, frj0, ⟨trivial, (by rw [e6878, ew6866] <;> exact (eq32 _ _).mpr (by omega)), (by rw [e6879, ew6867] <;> exact (eq32 _ _).mpr (by omega)), (by rw [e6880, ew6868] <;> exact (eq32 _ _).mpr (by omega))⟩⟩, _, rfl, by omega, by omega, by (try rw [e6882]); omega⟩
    · refine WQ_iconst (2) (2) dX3_faultOfNumber_27 rfl rfl (fun v6887 hv6887 => ?_)
      obtain ⟨w6888, ew6888⟩ : ∃ w : Int32, I (ad g 4) 1 = w := ⟨_, rfl⟩
      have bw6888 := BT_get hI.1 4 0 5 (0) (0) (1000) (by decide) 1 (by decide) (by decide)
      rw [ew6888] at bw6888
      exact WP_iret dX3_faultOfNumber_28 rfl ⟨⟨hI, rfl, fr0, frj0, ⟨trivial, rfl, rfl, rfl⟩⟩, _, rfl, by omega, by omega, by (try rw [ew6888]); omega⟩
set_option maxHeartbeats 4000000 in
set_option maxRecDepth 100000 in
theorem sx_part_27_2_2 {g : GG} {n : Int} {L : Int32} (hy : LyX g)  {I : pI} {J : pJ} {R : pR} (hr : RfX g R) (hI : XI g n L I) (pa : Int32) (cz : Int32) (ix : Int32) (pa_lo : 71 ≤ pa.toInt) (pa_hi : pa.toInt ≤ 71) (cz_lo : 2 ≤ cz.toInt) (cz_hi : cz.toInt ≤ 2) (ix_lo : 2 ≤ ix.toInt) (ix_hi : ix.toInt ≤ 2) : SP g mX3_faultOfNumber [.ref (ad g 3), .int pa, .int cz, .int ix, .ref (ad g 27)] I J R (fun r I' J' R' => (XI g n L I' ∧ R' = R ∧ fz 74 g [4] I I' ∧ fz 74 g [] J J' ∧ True ∧ I' (ad g 4) 0 = I (ad g 4) 0 ∧ I' (ad g 4) 1 = I (ad g 4) 1 ∧ I' (ad g 27) 1 = I (ad g 27) 1 ∧ I' (ad g 27) 2 = I (ad g 27) 2) ∧ ∃ v : Int32, r = some (.int v) ∧ 0 ≤ v.toInt ∧ v.toInt ≤ 5 ∧ (v.toInt = 0 → (I' (ad g 4) 2).toInt ≤ 9)) := by
  refine SP_of ⟨by decide, rfl⟩ (Nat.le_of_ble_eq_true rfl) ?_
  have e6889 : I (ad g 1) 1 = L := hI.2
  have b6890 := BT_get hI.1 1 1 2 (0) (0) (900) (by decide) 1 (by decide) (by decide)
  rw [e6889] at b6890
  have fr0 : fz 74 g [4] I I := fz_rf
  have frj0 : fz 74 g [] J J := fz_rf
  obtain ⟨w6891, ew6891⟩ : ∃ w : Int32, I (ad g 4) 0 = w := ⟨_, rfl⟩
  have bw6891 := BT_get hI.1 4 0 5 (0) (0) (1000) (by decide) 0 (by decide) (by decide)
  rw [ew6891] at bw6891
  obtain ⟨w6892, ew6892⟩ : ∃ w : Int32, I (ad g 4) 1 = w := ⟨_, rfl⟩
  have bw6892 := BT_get hI.1 4 0 5 (0) (0) (1000) (by decide) 1 (by decide) (by decide)
  rw [ew6892] at bw6892
  obtain ⟨w6893, ew6893⟩ : ∃ w : Int32, I (ad g 27) 1 = w := ⟨_, rfl⟩
  have bw6893 := BT_get hI.1 27 1 2 (0) (0) (4) (by decide) 1 (by decide) (by decide)
  rw [ew6893] at bw6893
  obtain ⟨w6894, ew6894⟩ : ∃ w : Int32, I (ad g 27) 2 = w := ⟨_, rfl⟩
  have bw6894 := BT_get hI.1 27 2 3 (0) (0) (3) (by decide) 2 (by decide) (by decide)
  rw [ew6894] at bw6894
  refine WP_aload_n dX3_faultOfNumber_0 rfl ?_
  refine WP_getr dX3_faultOfNumber_1 fX3_15 rfl (lyx_is hy 3 3 rfl) (rfx hr 3 2 1 (by decide)) ?_
  refine WQ_getiu dX3_faultOfNumber_4 fX3_118 rfl (lyx_is hy 1 5 rfl) (fun v6895 ev6895 => ?_)
  refine WP_istore (ls' := [(0, _), (1, _), (2, _), (3, _), (4, _), (5, _)]) dX3_faultOfNumber_7 (by decide) rfl ?_
  refine WP_iload dX3_faultOfNumber_9 rfl ?_
  refine WP_iload_n dX3_faultOfNumber_11 rfl ?_
  refine WP_callS1 dX3_faultOfNumber_12 ⟨⟨⟨by decide, by decide⟩, zX3_leastOf⟩, lX3_121, tX3_leastOf⟩ (sx_leastOf hy hr hI pa ) (Nat.le_of_ble_eq_true rfl) ?_
  intro r Ia Ja Ra hq
  obtain ⟨⟨ea, eb, ec⟩, v6896, rfl, av6896, bv6896⟩ := hq
  show WP _ _ _ _ (.int _ :: _) _ _ _ _
  rw [ea, eb, ec]
  clear ea eb ec Ia Ja Ra
  refine WQ_icmp_lt 27 dX3_faultOfNumber_15 rfl (fun c6896 => ?_) (fun c6896 => ?_)
  · refine WQ_iconst (2) (2) dX3_faultOfNumber_27 rfl rfl (fun v6898 hv6898 => ?_)
    obtain ⟨w6899, ew6899⟩ : ∃ w : Int32, I (ad g 4) 2 = w := ⟨_, rfl⟩
    have bw6899 := BT_get hI.1 4 0 5 (0) (0) (1000) (by decide) 2 (by decide) (by decide)
    rw [ew6899] at bw6899
    exact WP_iret dX3_faultOfNumber_28 rfl ⟨⟨hI, rfl, fr0, frj0, ⟨trivial, rfl, rfl, rfl, rfl⟩⟩, _, rfl, by omega, by omega, by (try rw [ew6899]); omega⟩
  · refine WP_iload dX3_faultOfNumber_18 rfl ?_
    refine WP_iload_n dX3_faultOfNumber_20 rfl ?_
    refine WP_callS1 dX3_faultOfNumber_21 ⟨⟨⟨by decide, by decide⟩, zX3_mostOf⟩, lX3_125, tX3_mostOf⟩ (sx_mostOf hy hr hI pa ) (Nat.le_of_ble_eq_true rfl) ?_
    intro r Ia Ja Ra hq
    obtain ⟨⟨ea, eb, ec⟩, v6900, rfl, av6900, bv6900, cv6900⟩ := hq
    show WP _ _ _ _ (.int _ :: _) _ _ _ _
    rw [ea, eb, ec]
    clear ea eb ec Ia Ja Ra
    refine WQ_icmp_le 29 dX3_faultOfNumber_24 rfl (fun c6900 => ?_) (fun c6900 => ?_)
    · refine WP_aload_n dX3_faultOfNumber_29 rfl ?_
      refine WP_getr dX3_faultOfNumber_30 fX3_9 rfl (lyx_is hy 3 3 rfl) (rfx hr 3 3 4 (by decide)) ?_
      refine WP_iload_n dX3_faultOfNumber_33 rfl ?_
      refine WP_iload dX3_faultOfNumber_34 rfl ?_
      refine WQ_iast dX3_faultOfNumber_36 (lyx_is hy 4 13 rfl) (lyx_n hy 4 5 rfl) (by omega) (by omega) (fun I6902 fI6902 => ?_)
      have eI6902 := fI6902
      rw [cl (x := ix) (n := 2) (by omega)] at eI6902
      clear fI6902
      have hI6902 : XI g n L I6902 := by rw [eI6902]; exact (xi_f hy hI (c := 4) (0) (0) (1000) (by decide) (Or.inl (by decide)) (by decide) (by omega) (by omega))
      have e6903 : I6902 (ad g 1) 1 = L := by rw [eI6902, pp_ne _ _ (Or.inl (lyx_ne hy (by decide) (by decide) (by decide)))]; exact e6889
      have e6904 : I6902 (ad g 4) 0 = w6891 := by rw [eI6902, pp_ne _ _ (Or.inr (by decide))]; exact ew6891
      have e6905 : I6902 (ad g 4) 1 = w6892 := by rw [eI6902, pp_ne _ _ (Or.inr (by decide))]; exact ew6892
      have e6906 : I6902 (ad g 27) 1 = w6893 := by rw [eI6902, pp_ne _ _ (Or.inl (lyx_ne hy (by decide) (by decide) (by decide)))]; exact ew6893
      have e6907 : I6902 (ad g 27) 2 = w6894 := by rw [eI6902, pp_ne _ _ (Or.inl (lyx_ne hy (by decide) (by decide) (by decide)))]; exact ew6894
      have e6908 : I6902 (ad g 1) 4 = v6895 := by rw [eI6902, pp_ne _ _ (Or.inl (lyx_ne hy (by decide) (by decide) (by decide)))]; exact ev6895
      have e6909 : I6902 (ad g 4) 2 = v6895 := by rw [eI6902, pp_self]
      have fr6910 : fz 74 g [4] I I6902 := by rw [eI6902]; exact fzx_pp hy fr0 (by decide) (by decide)
      clear eI6902
      refine WP_iload_n dX3_faultOfNumber_37 rfl ?_
      refine WQ_bipush (68) (68) dX3_faultOfNumber_38 rfl rfl (fun v6911 hv6911 => ?_)
      refine WQ_icmp_eq 45 dX3_faultOfNumber_40 rfl (fun c6911 => False.elim (by omega)) (fun c6911 => ?_)
      refine WQ_iconst (0) (0) dX3_faultOfNumber_43 rfl rfl (fun v6913 hv6913 => ?_)
      exact WP_iret dX3_faultOfNumber_44 rfl ⟨⟨hI6902, rfl, fr6910, frj0, ⟨trivial, (by rw [e6904, ew6891] <;> exact (eq32 _ _).mpr (by omega)), (by rw [e6905, ew6892] <;> exact (eq32 _ _).mpr (by omega)), (by rw [e6906, ew6893] <;> exact (eq32 _ _).mpr (by omega)), (by rw [e6907, ew6894] <;> exact (eq32 _ _).mpr (by omega))⟩⟩, _, rfl, by omega, by omega, by (try rw [e6909]); omega⟩
    · refine WQ_iconst (2) (2) dX3_faultOfNumber_27 rfl rfl (fun v6914 hv6914 => ?_)
      obtain ⟨w6915, ew6915⟩ : ∃ w : Int32, I (ad g 4) 2 = w := ⟨_, rfl⟩
      have bw6915 := BT_get hI.1 4 0 5 (0) (0) (1000) (by decide) 2 (by decide) (by decide)
      rw [ew6915] at bw6915
      exact WP_iret dX3_faultOfNumber_28 rfl ⟨⟨hI, rfl, fr0, frj0, ⟨trivial, rfl, rfl, rfl, rfl⟩⟩, _, rfl, by omega, by omega, by (try rw [ew6915]); omega⟩
set_option maxHeartbeats 4000000 in
set_option maxRecDepth 100000 in
theorem sx_part_27_3_0 {g : GG} {n : Int} {L : Int32} (hy : LyX g)  {I : pI} {J : pJ} {R : pR} (hr : RfX g R) (hI : XI g n L I) (pa : Int32) (cz : Int32) (ix : Int32) (pa_lo : 115 ≤ pa.toInt) (pa_hi : pa.toInt ≤ 115) (cz_lo : 3 ≤ cz.toInt) (cz_hi : cz.toInt ≤ 3) (ix_lo : 0 ≤ ix.toInt) (ix_hi : ix.toInt ≤ 0) : SP g mX3_faultOfName [.ref (ad g 3), .int pa, .int cz, .int ix, .ref (ad g 27)] I J R (fun r I' J' R' => (XI g n L I' ∧ R' = R ∧ fz 74 g [4] I I' ∧ fz 74 g [] J J' ∧ True ∧ I' (ad g 27) 1 = I (ad g 27) 1 ∧ I' (ad g 27) 2 = I (ad g 27) 2) ∧ ∃ v : Int32, r = some (.int v) ∧ 0 ≤ v.toInt ∧ v.toInt ≤ 5 ∧ (v.toInt = 0 → (I' (ad g 4) 0).toInt ≤ 3)) := by
  refine SP_of ⟨by decide, rfl⟩ (Nat.le_of_ble_eq_true rfl) ?_
  have e6916 : I (ad g 1) 1 = L := hI.2
  have b6917 := BT_get hI.1 1 1 2 (0) (0) (900) (by decide) 1 (by decide) (by decide)
  rw [e6916] at b6917
  have fr0 : fz 74 g [4] I I := fz_rf
  have frj0 : fz 74 g [] J J := fz_rf
  obtain ⟨w6918, ew6918⟩ : ∃ w : Int32, I (ad g 27) 1 = w := ⟨_, rfl⟩
  have bw6918 := BT_get hI.1 27 1 2 (0) (0) (4) (by decide) 1 (by decide) (by decide)
  rw [ew6918] at bw6918
  obtain ⟨w6919, ew6919⟩ : ∃ w : Int32, I (ad g 27) 2 = w := ⟨_, rfl⟩
  have bw6919 := BT_get hI.1 27 2 3 (0) (0) (3) (by decide) 2 (by decide) (by decide)
  rw [ew6919] at bw6919
  refine WP_iload_n dX3_faultOfName_0 rfl ?_
  refine WQ_bipush (115) (115) dX3_faultOfName_1 rfl rfl (fun v6920 hv6920 => ?_)
  refine WQ_icmp_eq 12 dX3_faultOfName_3 rfl (fun c6920 => ?_) (fun c6920 => False.elim (by omega))
  refine WQ_iconst (1) (1) dX3_faultOfName_12 rfl rfl (fun v6922 hv6922 => ?_)
  refine WP_goto 17 dX3_faultOfName_13 rfl ?_
  refine WP_istore (ls' := [(0, _), (1, _), (2, _), (3, _), (4, _), (5, _)]) dX3_faultOfName_17 (by decide) rfl ?_
  refine WP_iload dX3_faultOfName_19 rfl ?_
  refine WQ_if_eq 39 dX3_faultOfName_21 rfl (fun c6922 => False.elim (by omega)) (fun c6922 => ?_)
  refine WP_aload dX3_faultOfName_24 rfl ?_
  refine WP_aload_n dX3_faultOfName_26 rfl ?_
  refine WP_getr dX3_faultOfName_27 fX3_15 rfl (lyx_is hy 3 3 rfl) (rfx hr 3 2 1 (by decide)) ?_
  refine WQ_getl dX3_faultOfName_30 fX3_80 rfl (lyx_is hy 1 5 rfl) (fun l6924 el6924 => ?_)
  refine WP_callV1 (k := 7) dX3_faultOfName_33 ⟨⟨⟨by decide, by decide⟩, zX7_sortNamed⟩, lX3_103, by decide, rfl, vX7_sortNamed.1, vX7_sortNamed.2⟩ (lyx_is hy 27 7 rfl) (sx_sortNamed_27 hy hr hI l6924 ) (Nat.le_of_ble_eq_true rfl) ?_
  intro r Ia Ja Ra hq
  obtain ⟨⟨ea, eb, ec⟩, v6925, rfl, av6925, bv6925⟩ := hq
  show WP _ _ _ _ (.int _ :: _) _ _ _ _
  rw [ea, eb, ec]
  clear ea eb ec Ia Ja Ra
  refine WP_goto 51 dX3_faultOfName_36 rfl ?_
  refine WP_istore (ls' := [(0, _), (1, _), (2, _), (3, _), (4, _), (5, _), (6, _)]) dX3_faultOfName_51 (by decide) rfl ?_
  refine WP_iload_n dX3_faultOfName_53 rfl ?_
  refine WQ_bipush (110) (110) dX3_faultOfName_54 rfl rfl (fun v6926 hv6926 => ?_)
  refine WQ_icmp_eq 65 dX3_faultOfName_56 rfl (fun c6926 => False.elim (by omega)) (fun c6926 => ?_)
  refine WP_iload_n dX3_faultOfName_59 rfl ?_
  refine WQ_bipush (109) (109) dX3_faultOfName_60 rfl rfl (fun v6928 hv6928 => ?_)
  refine WQ_icmp_ne 98 dX3_faultOfName_62 rfl (fun c6928 => ?_) (fun c6928 => False.elim (by omega))
  refine WP_iload dX3_faultOfName_98 rfl ?_
  refine WQ_iconst (-1) (-1) dX3_faultOfName_100 rfl rfl (fun v6930 hv6930 => ?_)
  refine WQ_icmp_ne 106 dX3_faultOfName_101 rfl (fun c6930 => ?_) (fun c6930 => ?_)
  · refine WP_aload_n dX3_faultOfName_106 rfl ?_
    refine WP_getr dX3_faultOfName_107 fX3_9 rfl (lyx_is hy 3 3 rfl) (rfx hr 3 3 4 (by decide)) ?_
    refine WP_iload_n dX3_faultOfName_110 rfl ?_
    refine WP_iload dX3_faultOfName_111 rfl ?_
    refine WQ_iast dX3_faultOfName_113 (lyx_is hy 4 13 rfl) (lyx_n hy 4 5 rfl) (by omega) (by omega) (fun I6932 fI6932 => ?_)
    have eI6932 := fI6932
    rw [cl (x := ix) (n := 0) (by omega)] at eI6932
    clear fI6932
    have hI6932 : XI g n L I6932 := by rw [eI6932]; exact (xi_f hy hI (c := 4) (0) (0) (1000) (by decide) (Or.inl (by decide)) (by decide) (by omega) (by omega))
    have e6933 : I6932 (ad g 1) 1 = L := by rw [eI6932, pp_ne _ _ (Or.inl (lyx_ne hy (by decide) (by decide) (by decide)))]; exact e6916
    have e6934 : I6932 (ad g 27) 1 = w6918 := by rw [eI6932, pp_ne _ _ (Or.inl (lyx_ne hy (by decide) (by decide) (by decide)))]; exact ew6918
    have e6935 : I6932 (ad g 27) 2 = w6919 := by rw [eI6932, pp_ne _ _ (Or.inl (lyx_ne hy (by decide) (by decide) (by decide)))]; exact ew6919
    have e6936 : I6932 (ad g 4) 0 = v6925 := by rw [eI6932, pp_self]
    have fr6937 : fz 74 g [4] I I6932 := by rw [eI6932]; exact fzx_pp hy fr0 (by decide) (by decide)
    clear eI6932
    refine WP_iload_n dX3_faultOfName_114 rfl ?_
    refine WQ_bipush (7) (7) dX3_faultOfName_115 rfl rfl (fun v6938 hv6938 => ?_)
    refine WQ_icmp_ne 137 dX3_faultOfName_117 rfl (fun c6938 => ?_) (fun c6938 => False.elim (by omega))
    refine WQ_iconst (0) (0) dX3_faultOfName_137 rfl rfl (fun v6940 hv6940 => ?_)
    exact WP_iret dX3_faultOfName_138 rfl ⟨⟨hI6932, rfl, fr6937, frj0, ⟨trivial, (by rw [e6934, ew6918] <;> exact (eq32 _ _).mpr (by omega)), (by rw [e6935, ew6919] <;> exact (eq32 _ _).mpr (by omega))⟩⟩, _, rfl, by omega, by omega, by (try rw [e6936]); omega⟩
  · refine WQ_iconst (5) (5) dX3_faultOfName_104 rfl rfl (fun v6941 hv6941 => ?_)
    obtain ⟨w6942, ew6942⟩ : ∃ w : Int32, I (ad g 4) 0 = w := ⟨_, rfl⟩
    have bw6942 := BT_get hI.1 4 0 5 (0) (0) (1000) (by decide) 0 (by decide) (by decide)
    rw [ew6942] at bw6942
    exact WP_iret dX3_faultOfName_105 rfl ⟨⟨hI, rfl, fr0, frj0, ⟨trivial, rfl, rfl⟩⟩, _, rfl, by omega, by omega, by (try rw [ew6942]); omega⟩
set_option maxHeartbeats 4000000 in
set_option maxRecDepth 100000 in
theorem sx_part_27_3_1 {g : GG} {n : Int} {L : Int32} (hy : LyX g)  {I : pI} {J : pJ} {R : pR} (hr : RfX g R) (hI : XI g n L I) (pa : Int32) (cz : Int32) (ix : Int32) (pa_lo : 68 ≤ pa.toInt) (pa_hi : pa.toInt ≤ 68) (cz_lo : 3 ≤ cz.toInt) (cz_hi : cz.toInt ≤ 3) (ix_lo : 1 ≤ ix.toInt) (ix_hi : ix.toInt ≤ 1) (hb : (I (ad g 4) 0).toInt ≤ 3) : SP g mX3_faultOfNumber [.ref (ad g 3), .int pa, .int cz, .int ix, .ref (ad g 27)] I J R (fun r I' J' R' => (XI g n L I' ∧ R' = R ∧ fz 74 g [4] I I' ∧ fz 74 g [] J J' ∧ True ∧ I' (ad g 4) 0 = I (ad g 4) 0 ∧ I' (ad g 27) 1 = I (ad g 27) 1 ∧ I' (ad g 27) 2 = I (ad g 27) 2) ∧ ∃ v : Int32, r = some (.int v) ∧ 0 ≤ v.toInt ∧ v.toInt ≤ 5 ∧ (v.toInt = 0 → (I' (ad g 4) 1).toInt ≤ 6)) := by
  refine SP_of ⟨by decide, rfl⟩ (Nat.le_of_ble_eq_true rfl) ?_
  have e6943 : I (ad g 1) 1 = L := hI.2
  have b6944 := BT_get hI.1 1 1 2 (0) (0) (900) (by decide) 1 (by decide) (by decide)
  rw [e6943] at b6944
  have fr0 : fz 74 g [4] I I := fz_rf
  have frj0 : fz 74 g [] J J := fz_rf
  obtain ⟨w6945, ew6945⟩ : ∃ w : Int32, I (ad g 4) 0 = w := ⟨_, rfl⟩
  have bw6945 := BT_get hI.1 4 0 5 (0) (0) (1000) (by decide) 0 (by decide) (by decide)
  rw [ew6945] at bw6945
  obtain ⟨w6946, ew6946⟩ : ∃ w : Int32, I (ad g 27) 1 = w := ⟨_, rfl⟩
  have bw6946 := BT_get hI.1 27 1 2 (0) (0) (4) (by decide) 1 (by decide) (by decide)
  rw [ew6946] at bw6946
  obtain ⟨w6947, ew6947⟩ : ∃ w : Int32, I (ad g 27) 2 = w := ⟨_, rfl⟩
  have bw6947 := BT_get hI.1 27 2 3 (0) (0) (3) (by decide) 2 (by decide) (by decide)
  rw [ew6947] at bw6947
  rw [ew6945] at hb
  refine WP_aload_n dX3_faultOfNumber_0 rfl ?_
  refine WP_getr dX3_faultOfNumber_1 fX3_15 rfl (lyx_is hy 3 3 rfl) (rfx hr 3 2 1 (by decide)) ?_
  refine WQ_getiu dX3_faultOfNumber_4 fX3_118 rfl (lyx_is hy 1 5 rfl) (fun v6948 ev6948 => ?_)
  refine WP_istore (ls' := [(0, _), (1, _), (2, _), (3, _), (4, _), (5, _)]) dX3_faultOfNumber_7 (by decide) rfl ?_
  refine WP_iload dX3_faultOfNumber_9 rfl ?_
  refine WP_iload_n dX3_faultOfNumber_11 rfl ?_
  refine WP_callS1 dX3_faultOfNumber_12 ⟨⟨⟨by decide, by decide⟩, zX3_leastOf⟩, lX3_121, tX3_leastOf⟩ (sx_leastOf hy hr hI pa ) (Nat.le_of_ble_eq_true rfl) ?_
  intro r Ia Ja Ra hq
  obtain ⟨⟨ea, eb, ec⟩, v6949, rfl, av6949, bv6949⟩ := hq
  show WP _ _ _ _ (.int _ :: _) _ _ _ _
  rw [ea, eb, ec]
  clear ea eb ec Ia Ja Ra
  refine WQ_icmp_lt 27 dX3_faultOfNumber_15 rfl (fun c6949 => ?_) (fun c6949 => ?_)
  · refine WQ_iconst (2) (2) dX3_faultOfNumber_27 rfl rfl (fun v6951 hv6951 => ?_)
    obtain ⟨w6952, ew6952⟩ : ∃ w : Int32, I (ad g 4) 1 = w := ⟨_, rfl⟩
    have bw6952 := BT_get hI.1 4 0 5 (0) (0) (1000) (by decide) 1 (by decide) (by decide)
    rw [ew6952] at bw6952
    exact WP_iret dX3_faultOfNumber_28 rfl ⟨⟨hI, rfl, fr0, frj0, ⟨trivial, rfl, rfl, rfl⟩⟩, _, rfl, by omega, by omega, by (try rw [ew6952]); omega⟩
  · refine WP_iload dX3_faultOfNumber_18 rfl ?_
    refine WP_iload_n dX3_faultOfNumber_20 rfl ?_
    refine WP_callS1 dX3_faultOfNumber_21 ⟨⟨⟨by decide, by decide⟩, zX3_mostOf⟩, lX3_125, tX3_mostOf⟩ (sx_mostOf hy hr hI pa ) (Nat.le_of_ble_eq_true rfl) ?_
    intro r Ia Ja Ra hq
    obtain ⟨⟨ea, eb, ec⟩, v6953, rfl, av6953, bv6953, cv6953⟩ := hq
    show WP _ _ _ _ (.int _ :: _) _ _ _ _
    rw [ea, eb, ec]
    clear ea eb ec Ia Ja Ra
    refine WQ_icmp_le 29 dX3_faultOfNumber_24 rfl (fun c6953 => ?_) (fun c6953 => ?_)
    · refine WP_aload_n dX3_faultOfNumber_29 rfl ?_
      refine WP_getr dX3_faultOfNumber_30 fX3_9 rfl (lyx_is hy 3 3 rfl) (rfx hr 3 3 4 (by decide)) ?_
      refine WP_iload_n dX3_faultOfNumber_33 rfl ?_
      refine WP_iload dX3_faultOfNumber_34 rfl ?_
      refine WQ_iast dX3_faultOfNumber_36 (lyx_is hy 4 13 rfl) (lyx_n hy 4 5 rfl) (by omega) (by omega) (fun I6955 fI6955 => ?_)
      have eI6955 := fI6955
      rw [cl (x := ix) (n := 1) (by omega)] at eI6955
      clear fI6955
      have hI6955 : XI g n L I6955 := by rw [eI6955]; exact (xi_f hy hI (c := 4) (0) (0) (1000) (by decide) (Or.inl (by decide)) (by decide) (by omega) (by omega))
      have e6956 : I6955 (ad g 1) 1 = L := by rw [eI6955, pp_ne _ _ (Or.inl (lyx_ne hy (by decide) (by decide) (by decide)))]; exact e6943
      have e6957 : I6955 (ad g 4) 0 = w6945 := by rw [eI6955, pp_ne _ _ (Or.inr (by decide))]; exact ew6945
      have e6958 : I6955 (ad g 27) 1 = w6946 := by rw [eI6955, pp_ne _ _ (Or.inl (lyx_ne hy (by decide) (by decide) (by decide)))]; exact ew6946
      have e6959 : I6955 (ad g 27) 2 = w6947 := by rw [eI6955, pp_ne _ _ (Or.inl (lyx_ne hy (by decide) (by decide) (by decide)))]; exact ew6947
      have e6960 : I6955 (ad g 1) 4 = v6948 := by rw [eI6955, pp_ne _ _ (Or.inl (lyx_ne hy (by decide) (by decide) (by decide)))]; exact ev6948
      have e6961 : I6955 (ad g 4) 1 = v6948 := by rw [eI6955, pp_self]
      have fr6962 : fz 74 g [4] I I6955 := by rw [eI6955]; exact fzx_pp hy fr0 (by decide) (by decide)
      clear eI6955
      refine WP_iload_n dX3_faultOfNumber_37 rfl ?_
      refine WQ_bipush (68) (68) dX3_faultOfNumber_38 rfl rfl (fun v6963 hv6963 => ?_)
      refine WQ_icmp_eq 45 dX3_faultOfNumber_40 rfl (fun c6963 => ?_) (fun c6963 => False.elim (by omega))
      refine WP_aload dX3_faultOfNumber_45 rfl ?_
      refine WP_iload_n dX3_faultOfNumber_47 rfl ?_
      refine WP_iload_n dX3_faultOfNumber_48 rfl ?_
      refine WQ_if_ne 56 dX3_faultOfNumber_49 rfl (fun c6964 => ?_) (fun c6964 => False.elim (by omega))
      refine WP_aload_n dX3_faultOfNumber_56 rfl ?_
      refine WP_getr dX3_faultOfNumber_57 fX3_9 rfl (lyx_is hy 3 3 rfl) (rfx hr 3 3 4 (by decide)) ?_
      refine WQ_iconst (0) (0) dX3_faultOfNumber_60 rfl rfl (fun v6966 hv6966 => ?_)
      refine WQ_ialdm (z := 0) dX3_faultOfNumber_61 (lyx_is hy 4 13 rfl) (lyx_n hy 4 5 rfl) hv6966 (by decide) e6957 ?_
      refine WP_iload dX3_faultOfNumber_62 rfl ?_
      refine WP_callV3 (k := 7) dX3_faultOfNumber_64 ⟨⟨⟨by decide, by decide⟩, zX7_isTold⟩, lX3_114, by decide, rfl, vX7_isTold.1, vX7_isTold.2⟩ (lyx_is hy 27 7 rfl) (sx_isTold_27 hy hr hI6955 cz w6945 v6948 (by omega) (by omega) (by omega) (by omega) ) (Nat.le_of_ble_eq_true rfl) ?_
      intro r Ia Ja Ra hq
      obtain ⟨⟨ea, eb, ec⟩, v6968, rfl, av6968, bv6968⟩ := hq
      show WP _ _ _ _ (.int _ :: _) _ _ _ _
      rw [ea, eb, ec]
      clear ea eb ec Ia Ja Ra
      refine WQ_if_eq 74 dX3_faultOfNumber_67 rfl (fun c6968 => ?_) (fun c6968 => ?_)
      · refine WQ_iconst (0) (0) dX3_faultOfNumber_74 rfl rfl (fun v6970 hv6970 => ?_)
        exact WP_iret dX3_faultOfNumber_75 rfl ⟨⟨hI6955, rfl, fr6962, frj0, ⟨trivial, (by rw [e6957, ew6945] <;> exact (eq32 _ _).mpr (by omega)), (by rw [e6958, ew6946] <;> exact (eq32 _ _).mpr (by omega)), (by rw [e6959, ew6947] <;> exact (eq32 _ _).mpr (by omega))⟩⟩, _, rfl, by omega, by omega, by (try rw [e6961]); omega⟩
      · refine WQ_iconst (3) (3) dX3_faultOfNumber_70 rfl rfl (fun v6971 hv6971 => ?_)
        refine WP_goto 75 dX3_faultOfNumber_71 rfl ?_
        exact WP_iret dX3_faultOfNumber_75 rfl ⟨⟨hI6955, rfl, fr6962, frj0, ⟨trivial, (by rw [e6957, ew6945] <;> exact (eq32 _ _).mpr (by omega)), (by rw [e6958, ew6946] <;> exact (eq32 _ _).mpr (by omega)), (by rw [e6959, ew6947] <;> exact (eq32 _ _).mpr (by omega))⟩⟩, _, rfl, by omega, by omega, by (try rw [e6961]); omega⟩
    · refine WQ_iconst (2) (2) dX3_faultOfNumber_27 rfl rfl (fun v6972 hv6972 => ?_)
      obtain ⟨w6973, ew6973⟩ : ∃ w : Int32, I (ad g 4) 1 = w := ⟨_, rfl⟩
      have bw6973 := BT_get hI.1 4 0 5 (0) (0) (1000) (by decide) 1 (by decide) (by decide)
      rw [ew6973] at bw6973
      exact WP_iret dX3_faultOfNumber_28 rfl ⟨⟨hI, rfl, fr0, frj0, ⟨trivial, rfl, rfl, rfl⟩⟩, _, rfl, by omega, by omega, by (try rw [ew6973]); omega⟩
set_option maxHeartbeats 4000000 in
set_option maxRecDepth 100000 in
theorem sx_part_27_3_2 {g : GG} {n : Int} {L : Int32} (hy : LyX g)  {I : pI} {J : pJ} {R : pR} (hr : RfX g R) (hI : XI g n L I) (pa : Int32) (cz : Int32) (ix : Int32) (pa_lo : 69 ≤ pa.toInt) (pa_hi : pa.toInt ≤ 69) (cz_lo : 3 ≤ cz.toInt) (cz_hi : cz.toInt ≤ 3) (ix_lo : 2 ≤ ix.toInt) (ix_hi : ix.toInt ≤ 2) : SP g mX3_faultOfNumber [.ref (ad g 3), .int pa, .int cz, .int ix, .ref (ad g 27)] I J R (fun r I' J' R' => (XI g n L I' ∧ R' = R ∧ fz 74 g [4] I I' ∧ fz 74 g [] J J' ∧ True ∧ I' (ad g 4) 0 = I (ad g 4) 0 ∧ I' (ad g 4) 1 = I (ad g 4) 1 ∧ I' (ad g 27) 1 = I (ad g 27) 1 ∧ I' (ad g 27) 2 = I (ad g 27) 2) ∧ ∃ v : Int32, r = some (.int v) ∧ 0 ≤ v.toInt ∧ v.toInt ≤ 5 ∧ (v.toInt = 0 → (I' (ad g 4) 2).toInt ≤ 20)) := by
  refine SP_of ⟨by decide, rfl⟩ (Nat.le_of_ble_eq_true rfl) ?_
  have e6974 : I (ad g 1) 1 = L := hI.2
  have b6975 := BT_get hI.1 1 1 2 (0) (0) (900) (by decide) 1 (by decide) (by decide)
  rw [e6974] at b6975
  have fr0 : fz 74 g [4] I I := fz_rf
  have frj0 : fz 74 g [] J J := fz_rf
  obtain ⟨w6976, ew6976⟩ : ∃ w : Int32, I (ad g 4) 0 = w := ⟨_, rfl⟩
  have bw6976 := BT_get hI.1 4 0 5 (0) (0) (1000) (by decide) 0 (by decide) (by decide)
  rw [ew6976] at bw6976
  obtain ⟨w6977, ew6977⟩ : ∃ w : Int32, I (ad g 4) 1 = w := ⟨_, rfl⟩
  have bw6977 := BT_get hI.1 4 0 5 (0) (0) (1000) (by decide) 1 (by decide) (by decide)
  rw [ew6977] at bw6977
  obtain ⟨w6978, ew6978⟩ : ∃ w : Int32, I (ad g 27) 1 = w := ⟨_, rfl⟩
  have bw6978 := BT_get hI.1 27 1 2 (0) (0) (4) (by decide) 1 (by decide) (by decide)
  rw [ew6978] at bw6978
  obtain ⟨w6979, ew6979⟩ : ∃ w : Int32, I (ad g 27) 2 = w := ⟨_, rfl⟩
  have bw6979 := BT_get hI.1 27 2 3 (0) (0) (3) (by decide) 2 (by decide) (by decide)
  rw [ew6979] at bw6979
  refine WP_aload_n dX3_faultOfNumber_0 rfl ?_
  refine WP_getr dX3_faultOfNumber_1 fX3_15 rfl (lyx_is hy 3 3 rfl) (rfx hr 3 2 1 (by decide)) ?_
  refine WQ_getiu dX3_faultOfNumber_4 fX3_118 rfl (lyx_is hy 1 5 rfl) (fun v6980 ev6980 => ?_)
  refine WP_istore (ls' := [(0, _), (1, _), (2, _), (3, _), (4, _), (5, _)]) dX3_faultOfNumber_7 (by decide) rfl ?_
  refine WP_iload dX3_faultOfNumber_9 rfl ?_
  refine WP_iload_n dX3_faultOfNumber_11 rfl ?_
  refine WP_callS1 dX3_faultOfNumber_12 ⟨⟨⟨by decide, by decide⟩, zX3_leastOf⟩, lX3_121, tX3_leastOf⟩ (sx_leastOf hy hr hI pa ) (Nat.le_of_ble_eq_true rfl) ?_
  intro r Ia Ja Ra hq
  obtain ⟨⟨ea, eb, ec⟩, v6981, rfl, av6981, bv6981⟩ := hq
  show WP _ _ _ _ (.int _ :: _) _ _ _ _
  rw [ea, eb, ec]
  clear ea eb ec Ia Ja Ra
  refine WQ_icmp_lt 27 dX3_faultOfNumber_15 rfl (fun c6981 => ?_) (fun c6981 => ?_)
  · refine WQ_iconst (2) (2) dX3_faultOfNumber_27 rfl rfl (fun v6983 hv6983 => ?_)
    obtain ⟨w6984, ew6984⟩ : ∃ w : Int32, I (ad g 4) 2 = w := ⟨_, rfl⟩
    have bw6984 := BT_get hI.1 4 0 5 (0) (0) (1000) (by decide) 2 (by decide) (by decide)
    rw [ew6984] at bw6984
    exact WP_iret dX3_faultOfNumber_28 rfl ⟨⟨hI, rfl, fr0, frj0, ⟨trivial, rfl, rfl, rfl, rfl⟩⟩, _, rfl, by omega, by omega, by (try rw [ew6984]); omega⟩
  · refine WP_iload dX3_faultOfNumber_18 rfl ?_
    refine WP_iload_n dX3_faultOfNumber_20 rfl ?_
    refine WP_callS1 dX3_faultOfNumber_21 ⟨⟨⟨by decide, by decide⟩, zX3_mostOf⟩, lX3_125, tX3_mostOf⟩ (sx_mostOf hy hr hI pa ) (Nat.le_of_ble_eq_true rfl) ?_
    intro r Ia Ja Ra hq
    obtain ⟨⟨ea, eb, ec⟩, v6985, rfl, av6985, bv6985, cv6985⟩ := hq
    show WP _ _ _ _ (.int _ :: _) _ _ _ _
    rw [ea, eb, ec]
    clear ea eb ec Ia Ja Ra
    refine WQ_icmp_le 29 dX3_faultOfNumber_24 rfl (fun c6985 => ?_) (fun c6985 => ?_)
    · refine WP_aload_n dX3_faultOfNumber_29 rfl ?_
      refine WP_getr dX3_faultOfNumber_30 fX3_9 rfl (lyx_is hy 3 3 rfl) (rfx hr 3 3 4 (by decide)) ?_
      refine WP_iload_n dX3_faultOfNumber_33 rfl ?_
      refine WP_iload dX3_faultOfNumber_34 rfl ?_
      refine WQ_iast dX3_faultOfNumber_36 (lyx_is hy 4 13 rfl) (lyx_n hy 4 5 rfl) (by omega) (by omega) (fun I6987 fI6987 => ?_)
      have eI6987 := fI6987
      rw [cl (x := ix) (n := 2) (by omega)] at eI6987
      clear fI6987
      have hI6987 : XI g n L I6987 := by rw [eI6987]; exact (xi_f hy hI (c := 4) (0) (0) (1000) (by decide) (Or.inl (by decide)) (by decide) (by omega) (by omega))
      have e6988 : I6987 (ad g 1) 1 = L := by rw [eI6987, pp_ne _ _ (Or.inl (lyx_ne hy (by decide) (by decide) (by decide)))]; exact e6974
      have e6989 : I6987 (ad g 4) 0 = w6976 := by rw [eI6987, pp_ne _ _ (Or.inr (by decide))]; exact ew6976
      have e6990 : I6987 (ad g 4) 1 = w6977 := by rw [eI6987, pp_ne _ _ (Or.inr (by decide))]; exact ew6977
      have e6991 : I6987 (ad g 27) 1 = w6978 := by rw [eI6987, pp_ne _ _ (Or.inl (lyx_ne hy (by decide) (by decide) (by decide)))]; exact ew6978
      have e6992 : I6987 (ad g 27) 2 = w6979 := by rw [eI6987, pp_ne _ _ (Or.inl (lyx_ne hy (by decide) (by decide) (by decide)))]; exact ew6979
      have e6993 : I6987 (ad g 1) 4 = v6980 := by rw [eI6987, pp_ne _ _ (Or.inl (lyx_ne hy (by decide) (by decide) (by decide)))]; exact ev6980
      have e6994 : I6987 (ad g 4) 2 = v6980 := by rw [eI6987, pp_self]
      have fr6995 : fz 74 g [4] I I6987 := by rw [eI6987]; exact fzx_pp hy fr0 (by decide) (by decide)
      clear eI6987
      refine WP_iload_n dX3_faultOfNumber_37 rfl ?_
      refine WQ_bipush (68) (68) dX3_faultOfNumber_38 rfl rfl (fun v6996 hv6996 => ?_)
      refine WQ_icmp_eq 45 dX3_faultOfNumber_40 rfl (fun c6996 => False.elim (by omega)) (fun c6996 => ?_)
      refine WQ_iconst (0) (0) dX3_faultOfNumber_43 rfl rfl (fun v6998 hv6998 => ?_)
      exact WP_iret dX3_faultOfNumber_44 rfl ⟨⟨hI6987, rfl, fr6995, frj0, ⟨trivial, (by rw [e6989, ew6976] <;> exact (eq32 _ _).mpr (by omega)), (by rw [e6990, ew6977] <;> exact (eq32 _ _).mpr (by omega)), (by rw [e6991, ew6978] <;> exact (eq32 _ _).mpr (by omega)), (by rw [e6992, ew6979] <;> exact (eq32 _ _).mpr (by omega))⟩⟩, _, rfl, by omega, by omega, by (try rw [e6994]); omega⟩
    · refine WQ_iconst (2) (2) dX3_faultOfNumber_27 rfl rfl (fun v6999 hv6999 => ?_)
      obtain ⟨w7000, ew7000⟩ : ∃ w : Int32, I (ad g 4) 2 = w := ⟨_, rfl⟩
      have bw7000 := BT_get hI.1 4 0 5 (0) (0) (1000) (by decide) 2 (by decide) (by decide)
      rw [ew7000] at bw7000
      exact WP_iret dX3_faultOfNumber_28 rfl ⟨⟨hI, rfl, fr0, frj0, ⟨trivial, rfl, rfl, rfl, rfl⟩⟩, _, rfl, by omega, by omega, by (try rw [ew7000]); omega⟩
set_option maxHeartbeats 4000000 in
set_option maxRecDepth 100000 in
theorem sx_part_27_4_0 {g : GG} {n : Int} {L : Int32} (hy : LyX g)  {I : pI} {J : pJ} {R : pR} (hr : RfX g R) (hI : XI g n L I) (pa : Int32) (cz : Int32) (ix : Int32) (pa_lo : 116 ≤ pa.toInt) (pa_hi : pa.toInt ≤ 116) (cz_lo : 4 ≤ cz.toInt) (cz_hi : cz.toInt ≤ 4) (ix_lo : 0 ≤ ix.toInt) (ix_hi : ix.toInt ≤ 0) : SP g mX3_faultOfName [.ref (ad g 3), .int pa, .int cz, .int ix, .ref (ad g 27)] I J R (fun r I' J' R' => (XI g n L I' ∧ R' = R ∧ fz 74 g [4] I I' ∧ fz 74 g [] J J' ∧ True ∧ I' (ad g 27) 1 = I (ad g 27) 1 ∧ I' (ad g 27) 2 = I (ad g 27) 2) ∧ ∃ v : Int32, r = some (.int v) ∧ 0 ≤ v.toInt ∧ v.toInt ≤ 5 ∧ (v.toInt = 0 → (I' (ad g 4) 0).toInt ≤ 2)) := by
  refine SP_of ⟨by decide, rfl⟩ (Nat.le_of_ble_eq_true rfl) ?_
  have e7001 : I (ad g 1) 1 = L := hI.2
  have b7002 := BT_get hI.1 1 1 2 (0) (0) (900) (by decide) 1 (by decide) (by decide)
  rw [e7001] at b7002
  have fr0 : fz 74 g [4] I I := fz_rf
  have frj0 : fz 74 g [] J J := fz_rf
  obtain ⟨w7003, ew7003⟩ : ∃ w : Int32, I (ad g 27) 1 = w := ⟨_, rfl⟩
  have bw7003 := BT_get hI.1 27 1 2 (0) (0) (4) (by decide) 1 (by decide) (by decide)
  rw [ew7003] at bw7003
  obtain ⟨w7004, ew7004⟩ : ∃ w : Int32, I (ad g 27) 2 = w := ⟨_, rfl⟩
  have bw7004 := BT_get hI.1 27 2 3 (0) (0) (3) (by decide) 2 (by decide) (by decide)
  rw [ew7004] at bw7004
  refine WP_iload_n dX3_faultOfName_0 rfl ?_
  refine WQ_bipush (115) (115) dX3_faultOfName_1 rfl rfl (fun v7005 hv7005 => ?_)
  refine WQ_icmp_eq 12 dX3_faultOfName_3 rfl (fun c7005 => False.elim (by omega)) (fun c7005 => ?_)
  refine WP_iload_n dX3_faultOfName_6 rfl ?_
  refine WQ_bipush (110) (110) dX3_faultOfName_7 rfl rfl (fun v7007 hv7007 => ?_)
  refine WQ_icmp_ne 16 dX3_faultOfName_9 rfl (fun c7007 => ?_) (fun c7007 => False.elim (by omega))
  refine WQ_iconst (0) (0) dX3_faultOfName_16 rfl rfl (fun v7009 hv7009 => ?_)
  refine WP_istore (ls' := [(0, _), (1, _), (2, _), (3, _), (4, _), (5, _)]) dX3_faultOfName_17 (by decide) rfl ?_
  refine WP_iload dX3_faultOfName_19 rfl ?_
  refine WQ_if_eq 39 dX3_faultOfName_21 rfl (fun c7009 => ?_) (fun c7009 => False.elim (by omega))
  refine WP_aload dX3_faultOfName_39 rfl ?_
  refine WP_aload_n dX3_faultOfName_41 rfl ?_
  refine WP_getr dX3_faultOfName_42 fX3_15 rfl (lyx_is hy 3 3 rfl) (rfx hr 3 2 1 (by decide)) ?_
  refine WQ_getl dX3_faultOfName_45 fX3_80 rfl (lyx_is hy 1 5 rfl) (fun l7011 el7011 => ?_)
  refine WP_callV1 (k := 7) dX3_faultOfName_48 ⟨⟨⟨by decide, by decide⟩, zX7_thingNamed⟩, lX3_107, by decide, rfl, vX7_thingNamed.1, vX7_thingNamed.2⟩ (lyx_is hy 27 7 rfl) (sx_thingNamed_27 hy hr hI l7011 ) (Nat.le_of_ble_eq_true rfl) ?_
  intro r Ia Ja Ra hq
  obtain ⟨⟨ea, eb, ec⟩, v7012, rfl, av7012, bv7012⟩ := hq
  show WP _ _ _ _ (.int _ :: _) _ _ _ _
  rw [ea, eb, ec]
  clear ea eb ec Ia Ja Ra
  refine WP_istore (ls' := [(0, _), (1, _), (2, _), (3, _), (4, _), (5, _), (6, _)]) dX3_faultOfName_51 (by decide) rfl ?_
  refine WP_iload_n dX3_faultOfName_53 rfl ?_
  refine WQ_bipush (110) (110) dX3_faultOfName_54 rfl rfl (fun v7013 hv7013 => ?_)
  refine WQ_icmp_eq 65 dX3_faultOfName_56 rfl (fun c7013 => False.elim (by omega)) (fun c7013 => ?_)
  refine WP_iload_n dX3_faultOfName_59 rfl ?_
  refine WQ_bipush (109) (109) dX3_faultOfName_60 rfl rfl (fun v7015 hv7015 => ?_)
  refine WQ_icmp_ne 98 dX3_faultOfName_62 rfl (fun c7015 => ?_) (fun c7015 => False.elim (by omega))
  refine WP_iload dX3_faultOfName_98 rfl ?_
  refine WQ_iconst (-1) (-1) dX3_faultOfName_100 rfl rfl (fun v7017 hv7017 => ?_)
  refine WQ_icmp_ne 106 dX3_faultOfName_101 rfl (fun c7017 => ?_) (fun c7017 => ?_)
  · refine WP_aload_n dX3_faultOfName_106 rfl ?_
    refine WP_getr dX3_faultOfName_107 fX3_9 rfl (lyx_is hy 3 3 rfl) (rfx hr 3 3 4 (by decide)) ?_
    refine WP_iload_n dX3_faultOfName_110 rfl ?_
    refine WP_iload dX3_faultOfName_111 rfl ?_
    refine WQ_iast dX3_faultOfName_113 (lyx_is hy 4 13 rfl) (lyx_n hy 4 5 rfl) (by omega) (by omega) (fun I7019 fI7019 => ?_)
    have eI7019 := fI7019
    rw [cl (x := ix) (n := 0) (by omega)] at eI7019
    clear fI7019
    have hI7019 : XI g n L I7019 := by rw [eI7019]; exact (xi_f hy hI (c := 4) (0) (0) (1000) (by decide) (Or.inl (by decide)) (by decide) (by omega) (by omega))
    have e7020 : I7019 (ad g 1) 1 = L := by rw [eI7019, pp_ne _ _ (Or.inl (lyx_ne hy (by decide) (by decide) (by decide)))]; exact e7001
    have e7021 : I7019 (ad g 27) 1 = w7003 := by rw [eI7019, pp_ne _ _ (Or.inl (lyx_ne hy (by decide) (by decide) (by decide)))]; exact ew7003
    have e7022 : I7019 (ad g 27) 2 = w7004 := by rw [eI7019, pp_ne _ _ (Or.inl (lyx_ne hy (by decide) (by decide) (by decide)))]; exact ew7004
    have e7023 : I7019 (ad g 4) 0 = v7012 := by rw [eI7019, pp_self]
    have fr7024 : fz 74 g [4] I I7019 := by rw [eI7019]; exact fzx_pp hy fr0 (by decide) (by decide)
    clear eI7019
    refine WP_iload_n dX3_faultOfName_114 rfl ?_
    refine WQ_bipush (7) (7) dX3_faultOfName_115 rfl rfl (fun v7025 hv7025 => ?_)
    refine WQ_icmp_ne 137 dX3_faultOfName_117 rfl (fun c7025 => ?_) (fun c7025 => False.elim (by omega))
    refine WQ_iconst (0) (0) dX3_faultOfName_137 rfl rfl (fun v7027 hv7027 => ?_)
    exact WP_iret dX3_faultOfName_138 rfl ⟨⟨hI7019, rfl, fr7024, frj0, ⟨trivial, (by rw [e7021, ew7003] <;> exact (eq32 _ _).mpr (by omega)), (by rw [e7022, ew7004] <;> exact (eq32 _ _).mpr (by omega))⟩⟩, _, rfl, by omega, by omega, by (try rw [e7023]); omega⟩
  · refine WQ_iconst (5) (5) dX3_faultOfName_104 rfl rfl (fun v7028 hv7028 => ?_)
    obtain ⟨w7029, ew7029⟩ : ∃ w : Int32, I (ad g 4) 0 = w := ⟨_, rfl⟩
    have bw7029 := BT_get hI.1 4 0 5 (0) (0) (1000) (by decide) 0 (by decide) (by decide)
    rw [ew7029] at bw7029
    exact WP_iret dX3_faultOfName_105 rfl ⟨⟨hI, rfl, fr0, frj0, ⟨trivial, rfl, rfl⟩⟩, _, rfl, by omega, by omega, by (try rw [ew7029]); omega⟩
set_option maxHeartbeats 4000000 in
set_option maxRecDepth 100000 in
theorem sx_part_27_4_1 {g : GG} {n : Int} {L : Int32} (hy : LyX g)  {I : pI} {J : pJ} {R : pR} (hr : RfX g R) (hI : XI g n L I) (pa : Int32) (cz : Int32) (ix : Int32) (pa_lo : 68 ≤ pa.toInt) (pa_hi : pa.toInt ≤ 68) (cz_lo : 4 ≤ cz.toInt) (cz_hi : cz.toInt ≤ 4) (ix_lo : 1 ≤ ix.toInt) (ix_hi : ix.toInt ≤ 1) (hb : (I (ad g 4) 0).toInt ≤ 3) : SP g mX3_faultOfNumber [.ref (ad g 3), .int pa, .int cz, .int ix, .ref (ad g 27)] I J R (fun r I' J' R' => (XI g n L I' ∧ R' = R ∧ fz 74 g [4] I I' ∧ fz 74 g [] J J' ∧ True ∧ I' (ad g 4) 0 = I (ad g 4) 0 ∧ I' (ad g 27) 1 = I (ad g 27) 1 ∧ I' (ad g 27) 2 = I (ad g 27) 2) ∧ ∃ v : Int32, r = some (.int v) ∧ 0 ≤ v.toInt ∧ v.toInt ≤ 5 ∧ (v.toInt = 0 → (I' (ad g 4) 1).toInt ≤ 6)) := by
  refine SP_of ⟨by decide, rfl⟩ (Nat.le_of_ble_eq_true rfl) ?_
  have e7030 : I (ad g 1) 1 = L := hI.2
  have b7031 := BT_get hI.1 1 1 2 (0) (0) (900) (by decide) 1 (by decide) (by decide)
  rw [e7030] at b7031
  have fr0 : fz 74 g [4] I I := fz_rf
  have frj0 : fz 74 g [] J J := fz_rf
  obtain ⟨w7032, ew7032⟩ : ∃ w : Int32, I (ad g 4) 0 = w := ⟨_, rfl⟩
  have bw7032 := BT_get hI.1 4 0 5 (0) (0) (1000) (by decide) 0 (by decide) (by decide)
  rw [ew7032] at bw7032
  obtain ⟨w7033, ew7033⟩ : ∃ w : Int32, I (ad g 27) 1 = w := ⟨_, rfl⟩
  have bw7033 := BT_get hI.1 27 1 2 (0) (0) (4) (by decide) 1 (by decide) (by decide)
  rw [ew7033] at bw7033
  obtain ⟨w7034, ew7034⟩ : ∃ w : Int32, I (ad g 27) 2 = w := ⟨_, rfl⟩
  have bw7034 := BT_get hI.1 27 2 3 (0) (0) (3) (by decide) 2 (by decide) (by decide)
  rw [ew7034] at bw7034
  rw [ew7032] at hb
  refine WP_aload_n dX3_faultOfNumber_0 rfl ?_
  refine WP_getr dX3_faultOfNumber_1 fX3_15 rfl (lyx_is hy 3 3 rfl) (rfx hr 3 2 1 (by decide)) ?_
  refine WQ_getiu dX3_faultOfNumber_4 fX3_118 rfl (lyx_is hy 1 5 rfl) (fun v7035 ev7035 => ?_)
  refine WP_istore (ls' := [(0, _), (1, _), (2, _), (3, _), (4, _), (5, _)]) dX3_faultOfNumber_7 (by decide) rfl ?_
  refine WP_iload dX3_faultOfNumber_9 rfl ?_
  refine WP_iload_n dX3_faultOfNumber_11 rfl ?_
  refine WP_callS1 dX3_faultOfNumber_12 ⟨⟨⟨by decide, by decide⟩, zX3_leastOf⟩, lX3_121, tX3_leastOf⟩ (sx_leastOf hy hr hI pa ) (Nat.le_of_ble_eq_true rfl) ?_
  intro r Ia Ja Ra hq
  obtain ⟨⟨ea, eb, ec⟩, v7036, rfl, av7036, bv7036⟩ := hq
  show WP _ _ _ _ (.int _ :: _) _ _ _ _
  rw [ea, eb, ec]
  clear ea eb ec Ia Ja Ra
  refine WQ_icmp_lt 27 dX3_faultOfNumber_15 rfl (fun c7036 => ?_) (fun c7036 => ?_)
  · refine WQ_iconst (2) (2) dX3_faultOfNumber_27 rfl rfl (fun v7038 hv7038 => ?_)
    obtain ⟨w7039, ew7039⟩ : ∃ w : Int32, I (ad g 4) 1 = w := ⟨_, rfl⟩
    have bw7039 := BT_get hI.1 4 0 5 (0) (0) (1000) (by decide) 1 (by decide) (by decide)
    rw [ew7039] at bw7039
    exact WP_iret dX3_faultOfNumber_28 rfl ⟨⟨hI, rfl, fr0, frj0, ⟨trivial, rfl, rfl, rfl⟩⟩, _, rfl, by omega, by omega, by (try rw [ew7039]); omega⟩
  · refine WP_iload dX3_faultOfNumber_18 rfl ?_
    refine WP_iload_n dX3_faultOfNumber_20 rfl ?_
    refine WP_callS1 dX3_faultOfNumber_21 ⟨⟨⟨by decide, by decide⟩, zX3_mostOf⟩, lX3_125, tX3_mostOf⟩ (sx_mostOf hy hr hI pa ) (Nat.le_of_ble_eq_true rfl) ?_
    intro r Ia Ja Ra hq
    obtain ⟨⟨ea, eb, ec⟩, v7040, rfl, av7040, bv7040, cv7040⟩ := hq
    show WP _ _ _ _ (.int _ :: _) _ _ _ _
    rw [ea, eb, ec]
    clear ea eb ec Ia Ja Ra
    refine WQ_icmp_le 29 dX3_faultOfNumber_24 rfl (fun c7040 => ?_) (fun c7040 => ?_)
    · refine WP_aload_n dX3_faultOfNumber_29 rfl ?_
      refine WP_getr dX3_faultOfNumber_30 fX3_9 rfl (lyx_is hy 3 3 rfl) (rfx hr 3 3 4 (by decide)) ?_
      refine WP_iload_n dX3_faultOfNumber_33 rfl ?_
      refine WP_iload dX3_faultOfNumber_34 rfl ?_
      refine WQ_iast dX3_faultOfNumber_36 (lyx_is hy 4 13 rfl) (lyx_n hy 4 5 rfl) (by omega) (by omega) (fun I7042 fI7042 => ?_)
      have eI7042 := fI7042
      rw [cl (x := ix) (n := 1) (by omega)] at eI7042
      clear fI7042
      have hI7042 : XI g n L I7042 := by rw [eI7042]; exact (xi_f hy hI (c := 4) (0) (0) (1000) (by decide) (Or.inl (by decide)) (by decide) (by omega) (by omega))
      have e7043 : I7042 (ad g 1) 1 = L := by rw [eI7042, pp_ne _ _ (Or.inl (lyx_ne hy (by decide) (by decide) (by decide)))]; exact e7030
      have e7044 : I7042 (ad g 4) 0 = w7032 := by rw [eI7042, pp_ne _ _ (Or.inr (by decide))]; exact ew7032
      have e7045 : I7042 (ad g 27) 1 = w7033 := by rw [eI7042, pp_ne _ _ (Or.inl (lyx_ne hy (by decide) (by decide) (by decide)))]; exact ew7033
      have e7046 : I7042 (ad g 27) 2 = w7034 := by rw [eI7042, pp_ne _ _ (Or.inl (lyx_ne hy (by decide) (by decide) (by decide)))]; exact ew7034
      have e7047 : I7042 (ad g 1) 4 = v7035 := by rw [eI7042, pp_ne _ _ (Or.inl (lyx_ne hy (by decide) (by decide) (by decide)))]; exact ev7035
      have e7048 : I7042 (ad g 4) 1 = v7035 := by rw [eI7042, pp_self]
      have fr7049 : fz 74 g [4] I I7042 := by rw [eI7042]; exact fzx_pp hy fr0 (by decide) (by decide)
      clear eI7042
      refine WP_iload_n dX3_faultOfNumber_37 rfl ?_
      refine WQ_bipush (68) (68) dX3_faultOfNumber_38 rfl rfl (fun v7050 hv7050 => ?_)
      refine WQ_icmp_eq 45 dX3_faultOfNumber_40 rfl (fun c7050 => ?_) (fun c7050 => False.elim (by omega))
      refine WP_aload dX3_faultOfNumber_45 rfl ?_
      refine WP_iload_n dX3_faultOfNumber_47 rfl ?_
      refine WP_iload_n dX3_faultOfNumber_48 rfl ?_
      refine WQ_if_ne 56 dX3_faultOfNumber_49 rfl (fun c7051 => ?_) (fun c7051 => False.elim (by omega))
      refine WP_aload_n dX3_faultOfNumber_56 rfl ?_
      refine WP_getr dX3_faultOfNumber_57 fX3_9 rfl (lyx_is hy 3 3 rfl) (rfx hr 3 3 4 (by decide)) ?_
      refine WQ_iconst (0) (0) dX3_faultOfNumber_60 rfl rfl (fun v7053 hv7053 => ?_)
      refine WQ_ialdm (z := 0) dX3_faultOfNumber_61 (lyx_is hy 4 13 rfl) (lyx_n hy 4 5 rfl) hv7053 (by decide) e7044 ?_
      refine WP_iload dX3_faultOfNumber_62 rfl ?_
      refine WP_callV3 (k := 7) dX3_faultOfNumber_64 ⟨⟨⟨by decide, by decide⟩, zX7_isTold⟩, lX3_114, by decide, rfl, vX7_isTold.1, vX7_isTold.2⟩ (lyx_is hy 27 7 rfl) (sx_isTold_27 hy hr hI7042 cz w7032 v7035 (by omega) (by omega) (by omega) (by omega) ) (Nat.le_of_ble_eq_true rfl) ?_
      intro r Ia Ja Ra hq
      obtain ⟨⟨ea, eb, ec⟩, v7055, rfl, av7055, bv7055⟩ := hq
      show WP _ _ _ _ (.int _ :: _) _ _ _ _
      rw [ea, eb, ec]
      clear ea eb ec Ia Ja Ra
      refine WQ_if_eq 74 dX3_faultOfNumber_67 rfl (fun c7055 => ?_) (fun c7055 => ?_)
      · refine WQ_iconst (0) (0) dX3_faultOfNumber_74 rfl rfl (fun v7057 hv7057 => ?_)
        exact WP_iret dX3_faultOfNumber_75 rfl ⟨⟨hI7042, rfl, fr7049, frj0, ⟨trivial, (by rw [e7044, ew7032] <;> exact (eq32 _ _).mpr (by omega)), (by rw [e7045, ew7033] <;> exact (eq32 _ _).mpr (by omega)), (by rw [e7046, ew7034] <;> exact (eq32 _ _).mpr (by omega))⟩⟩, _, rfl, by omega, by omega, by (try rw [e7048]); omega⟩
      · refine WQ_iconst (3) (3) dX3_faultOfNumber_70 rfl rfl (fun v7058 hv7058 => ?_)
        refine WP_goto 75 dX3_faultOfNumber_71 rfl ?_
        exact WP_iret dX3_faultOfNumber_75 rfl ⟨⟨hI7042, rfl, fr7049, frj0, ⟨trivial, (by rw [e7044, ew7032] <;> exact (eq32 _ _).mpr (by omega)), (by rw [e7045, ew7033] <;> exact (eq32 _ _).mpr (by omega)), (by rw [e7046, ew7034] <;> exact (eq32 _ _).mpr (by omega))⟩⟩, _, rfl, by omega, by omega, by (try rw [e7048]); omega⟩
    · refine WQ_iconst (2) (2) dX3_faultOfNumber_27 rfl rfl (fun v7059 hv7059 => ?_)
      obtain ⟨w7060, ew7060⟩ : ∃ w : Int32, I (ad g 4) 1 = w := ⟨_, rfl⟩
      have bw7060 := BT_get hI.1 4 0 5 (0) (0) (1000) (by decide) 1 (by decide) (by decide)
      rw [ew7060] at bw7060
      exact WP_iret dX3_faultOfNumber_28 rfl ⟨⟨hI, rfl, fr0, frj0, ⟨trivial, rfl, rfl, rfl⟩⟩, _, rfl, by omega, by omega, by (try rw [ew7060]); omega⟩
set_option maxHeartbeats 4000000 in
set_option maxRecDepth 100000 in
theorem sx_part_27_4_2 {g : GG} {n : Int} {L : Int32} (hy : LyX g)  {I : pI} {J : pJ} {R : pR} (hr : RfX g R) (hI : XI g n L I) (pa : Int32) (cz : Int32) (ix : Int32) (pa_lo : 69 ≤ pa.toInt) (pa_hi : pa.toInt ≤ 69) (cz_lo : 4 ≤ cz.toInt) (cz_hi : cz.toInt ≤ 4) (ix_lo : 2 ≤ ix.toInt) (ix_hi : ix.toInt ≤ 2) : SP g mX3_faultOfNumber [.ref (ad g 3), .int pa, .int cz, .int ix, .ref (ad g 27)] I J R (fun r I' J' R' => (XI g n L I' ∧ R' = R ∧ fz 74 g [4] I I' ∧ fz 74 g [] J J' ∧ True ∧ I' (ad g 4) 0 = I (ad g 4) 0 ∧ I' (ad g 4) 1 = I (ad g 4) 1 ∧ I' (ad g 27) 1 = I (ad g 27) 1 ∧ I' (ad g 27) 2 = I (ad g 27) 2) ∧ ∃ v : Int32, r = some (.int v) ∧ 0 ≤ v.toInt ∧ v.toInt ≤ 5 ∧ (v.toInt = 0 → (I' (ad g 4) 2).toInt ≤ 20)) := by
  refine SP_of ⟨by decide, rfl⟩ (Nat.le_of_ble_eq_true rfl) ?_
  have e7061 : I (ad g 1) 1 = L := hI.2
  have b7062 := BT_get hI.1 1 1 2 (0) (0) (900) (by decide) 1 (by decide) (by decide)
  rw [e7061] at b7062
  have fr0 : fz 74 g [4] I I := fz_rf
  have frj0 : fz 74 g [] J J := fz_rf
  obtain ⟨w7063, ew7063⟩ : ∃ w : Int32, I (ad g 4) 0 = w := ⟨_, rfl⟩
  have bw7063 := BT_get hI.1 4 0 5 (0) (0) (1000) (by decide) 0 (by decide) (by decide)
  rw [ew7063] at bw7063
  obtain ⟨w7064, ew7064⟩ : ∃ w : Int32, I (ad g 4) 1 = w := ⟨_, rfl⟩
  have bw7064 := BT_get hI.1 4 0 5 (0) (0) (1000) (by decide) 1 (by decide) (by decide)
  rw [ew7064] at bw7064
  obtain ⟨w7065, ew7065⟩ : ∃ w : Int32, I (ad g 27) 1 = w := ⟨_, rfl⟩
  have bw7065 := BT_get hI.1 27 1 2 (0) (0) (4) (by decide) 1 (by decide) (by decide)
  rw [ew7065] at bw7065
  obtain ⟨w7066, ew7066⟩ : ∃ w : Int32, I (ad g 27) 2 = w := ⟨_, rfl⟩
  have bw7066 := BT_get hI.1 27 2 3 (0) (0) (3) (by decide) 2 (by decide) (by decide)
  rw [ew7066] at bw7066
  refine WP_aload_n dX3_faultOfNumber_0 rfl ?_
  refine WP_getr dX3_faultOfNumber_1 fX3_15 rfl (lyx_is hy 3 3 rfl) (rfx hr 3 2 1 (by decide)) ?_
  refine WQ_getiu dX3_faultOfNumber_4 fX3_118 rfl (lyx_is hy 1 5 rfl) (fun v7067 ev7067 => ?_)
  refine WP_istore (ls' := [(0, _), (1, _), (2, _), (3, _), (4, _), (5, _)]) dX3_faultOfNumber_7 (by decide) rfl ?_
  refine WP_iload dX3_faultOfNumber_9 rfl ?_
  refine WP_iload_n dX3_faultOfNumber_11 rfl ?_
  refine WP_callS1 dX3_faultOfNumber_12 ⟨⟨⟨by decide, by decide⟩, zX3_leastOf⟩, lX3_121, tX3_leastOf⟩ (sx_leastOf hy hr hI pa ) (Nat.le_of_ble_eq_true rfl) ?_
  intro r Ia Ja Ra hq
  obtain ⟨⟨ea, eb, ec⟩, v7068, rfl, av7068, bv7068⟩ := hq
  show WP _ _ _ _ (.int _ :: _) _ _ _ _
  rw [ea, eb, ec]
  clear ea eb ec Ia Ja Ra
  refine WQ_icmp_lt 27 dX3_faultOfNumber_15 rfl (fun c7068 => ?_) (fun c7068 => ?_)
  · refine WQ_iconst (2) (2) dX3_faultOfNumber_27 rfl rfl (fun v7070 hv7070 => ?_)
    obtain ⟨w7071, ew7071⟩ : ∃ w : Int32, I (ad g 4) 2 = w := ⟨_, rfl⟩
    have bw7071 := BT_get hI.1 4 0 5 (0) (0) (1000) (by decide) 2 (by decide) (by decide)
    rw [ew7071] at bw7071
    exact WP_iret dX3_faultOfNumber_28 rfl ⟨⟨hI, rfl, fr0, frj0, ⟨trivial, rfl, rfl, rfl, rfl⟩⟩, _, rfl, by omega, by omega, by (try rw [ew7071]); omega⟩
  · refine WP_iload dX3_faultOfNumber_18 rfl ?_
    refine WP_iload_n dX3_faultOfNumber_20 rfl ?_
    refine WP_callS1 dX3_faultOfNumber_21 ⟨⟨⟨by decide, by decide⟩, zX3_mostOf⟩, lX3_125, tX3_mostOf⟩ (sx_mostOf hy hr hI pa ) (Nat.le_of_ble_eq_true rfl) ?_
    intro r Ia Ja Ra hq
    obtain ⟨⟨ea, eb, ec⟩, v7072, rfl, av7072, bv7072, cv7072⟩ := hq
    show WP _ _ _ _ (.int _ :: _) _ _ _ _
    rw [ea, eb, ec]
    clear ea eb ec Ia Ja Ra
    refine WQ_icmp_le 29 dX3_faultOfNumber_24 rfl (fun c7072 => ?_) (fun c7072 => ?_)
    · refine WP_aload_n dX3_faultOfNumber_29 rfl ?_
      refine WP_getr dX3_faultOfNumber_30 fX3_9 rfl (lyx_is hy 3 3 rfl) (rfx hr 3 3 4 (by decide)) ?_
      refine WP_iload_n dX3_faultOfNumber_33 rfl ?_
      refine WP_iload dX3_faultOfNumber_34 rfl ?_
      refine WQ_iast dX3_faultOfNumber_36 (lyx_is hy 4 13 rfl) (lyx_n hy 4 5 rfl) (by omega) (by omega) (fun I7074 fI7074 => ?_)
      have eI7074 := fI7074
      rw [cl (x := ix) (n := 2) (by omega)] at eI7074
      clear fI7074
      have hI7074 : XI g n L I7074 := by rw [eI7074]; exact (xi_f hy hI (c := 4) (0) (0) (1000) (by decide) (Or.inl (by decide)) (by decide) (by omega) (by omega))
      have e7075 : I7074 (ad g 1) 1 = L := by rw [eI7074, pp_ne _ _ (Or.inl (lyx_ne hy (by decide) (by decide) (by decide)))]; exact e7061
      have e7076 : I7074 (ad g 4) 0 = w7063 := by rw [eI7074, pp_ne _ _ (Or.inr (by decide))]; exact ew7063
      have e7077 : I7074 (ad g 4) 1 = w7064 := by rw [eI7074, pp_ne _ _ (Or.inr (by decide))]; exact ew7064
      have e7078 : I7074 (ad g 27) 1 = w7065 := by rw [eI7074, pp_ne _ _ (Or.inl (lyx_ne hy (by decide) (by decide) (by decide)))]; exact ew7065
      have e7079 : I7074 (ad g 27) 2 = w7066 := by rw [eI7074, pp_ne _ _ (Or.inl (lyx_ne hy (by decide) (by decide) (by decide)))]; exact ew7066
      have e7080 : I7074 (ad g 1) 4 = v7067 := by rw [eI7074, pp_ne _ _ (Or.inl (lyx_ne hy (by decide) (by decide) (by decide)))]; exact ev7067
      have e7081 : I7074 (ad g 4) 2 = v7067 := by rw [eI7074, pp_self]
      have fr7082 : fz 74 g [4] I I7074 := by rw [eI7074]; exact fzx_pp hy fr0 (by decide) (by decide)
      clear eI7074
      refine WP_iload_n dX3_faultOfNumber_37 rfl ?_
      refine WQ_bipush (68) (68) dX3_faultOfNumber_38 rfl rfl (fun v7083 hv7083 => ?_)
      refine WQ_icmp_eq 45 dX3_faultOfNumber_40 rfl (fun c7083 => False.elim (by omega)) (fun c7083 => ?_)
      refine WQ_iconst (0) (0) dX3_faultOfNumber_43 rfl rfl (fun v7085 hv7085 => ?_)
      exact WP_iret dX3_faultOfNumber_44 rfl ⟨⟨hI7074, rfl, fr7082, frj0, ⟨trivial, (by rw [e7076, ew7063] <;> exact (eq32 _ _).mpr (by omega)), (by rw [e7077, ew7064] <;> exact (eq32 _ _).mpr (by omega)), (by rw [e7078, ew7065] <;> exact (eq32 _ _).mpr (by omega)), (by rw [e7079, ew7066] <;> exact (eq32 _ _).mpr (by omega))⟩⟩, _, rfl, by omega, by omega, by (try rw [e7081]); omega⟩
    · refine WQ_iconst (2) (2) dX3_faultOfNumber_27 rfl rfl (fun v7086 hv7086 => ?_)
      obtain ⟨w7087, ew7087⟩ : ∃ w : Int32, I (ad g 4) 2 = w := ⟨_, rfl⟩
      have bw7087 := BT_get hI.1 4 0 5 (0) (0) (1000) (by decide) 2 (by decide) (by decide)
      rw [ew7087] at bw7087
      exact WP_iret dX3_faultOfNumber_28 rfl ⟨⟨hI, rfl, fr0, frj0, ⟨trivial, rfl, rfl, rfl, rfl⟩⟩, _, rfl, by omega, by omega, by (try rw [ew7087]); omega⟩
set_option maxHeartbeats 4000000 in
set_option maxRecDepth 100000 in
theorem sx_part_27_5_0 {g : GG} {n : Int} {L : Int32} (hy : LyX g)  {I : pI} {J : pJ} {R : pR} (hr : RfX g R) (hI : XI g n L I) (pa : Int32) (cz : Int32) (ix : Int32) (pa_lo : 116 ≤ pa.toInt) (pa_hi : pa.toInt ≤ 116) (cz_lo : 5 ≤ cz.toInt) (cz_hi : cz.toInt ≤ 5) (ix_lo : 0 ≤ ix.toInt) (ix_hi : ix.toInt ≤ 0) : SP g mX3_faultOfName [.ref (ad g 3), .int pa, .int cz, .int ix, .ref (ad g 27)] I J R (fun r I' J' R' => (XI g n L I' ∧ R' = R ∧ fz 74 g [4] I I' ∧ fz 74 g [] J J' ∧ True ∧ I' (ad g 27) 1 = I (ad g 27) 1 ∧ I' (ad g 27) 2 = I (ad g 27) 2) ∧ ∃ v : Int32, r = some (.int v) ∧ 0 ≤ v.toInt ∧ v.toInt ≤ 5 ∧ (v.toInt = 0 → (I' (ad g 4) 0).toInt ≤ 2)) := by
  refine SP_of ⟨by decide, rfl⟩ (Nat.le_of_ble_eq_true rfl) ?_
  have e7088 : I (ad g 1) 1 = L := hI.2
  have b7089 := BT_get hI.1 1 1 2 (0) (0) (900) (by decide) 1 (by decide) (by decide)
  rw [e7088] at b7089
  have fr0 : fz 74 g [4] I I := fz_rf
  have frj0 : fz 74 g [] J J := fz_rf
  obtain ⟨w7090, ew7090⟩ : ∃ w : Int32, I (ad g 27) 1 = w := ⟨_, rfl⟩
  have bw7090 := BT_get hI.1 27 1 2 (0) (0) (4) (by decide) 1 (by decide) (by decide)
  rw [ew7090] at bw7090
  obtain ⟨w7091, ew7091⟩ : ∃ w : Int32, I (ad g 27) 2 = w := ⟨_, rfl⟩
  have bw7091 := BT_get hI.1 27 2 3 (0) (0) (3) (by decide) 2 (by decide) (by decide)
  rw [ew7091] at bw7091
  refine WP_iload_n dX3_faultOfName_0 rfl ?_
  refine WQ_bipush (115) (115) dX3_faultOfName_1 rfl rfl (fun v7092 hv7092 => ?_)
  refine WQ_icmp_eq 12 dX3_faultOfName_3 rfl (fun c7092 => False.elim (by omega)) (fun c7092 => ?_)
  refine WP_iload_n dX3_faultOfName_6 rfl ?_
  refine WQ_bipush (110) (110) dX3_faultOfName_7 rfl rfl (fun v7094 hv7094 => ?_)
  refine WQ_icmp_ne 16 dX3_faultOfName_9 rfl (fun c7094 => ?_) (fun c7094 => False.elim (by omega))
  refine WQ_iconst (0) (0) dX3_faultOfName_16 rfl rfl (fun v7096 hv7096 => ?_)
  refine WP_istore (ls' := [(0, _), (1, _), (2, _), (3, _), (4, _), (5, _)]) dX3_faultOfName_17 (by decide) rfl ?_
  refine WP_iload dX3_faultOfName_19 rfl ?_
  refine WQ_if_eq 39 dX3_faultOfName_21 rfl (fun c7096 => ?_) (fun c7096 => False.elim (by omega))
  refine WP_aload dX3_faultOfName_39 rfl ?_
  refine WP_aload_n dX3_faultOfName_41 rfl ?_
  refine WP_getr dX3_faultOfName_42 fX3_15 rfl (lyx_is hy 3 3 rfl) (rfx hr 3 2 1 (by decide)) ?_
  refine WQ_getl dX3_faultOfName_45 fX3_80 rfl (lyx_is hy 1 5 rfl) (fun l7098 el7098 => ?_)
  refine WP_callV1 (k := 7) dX3_faultOfName_48 ⟨⟨⟨by decide, by decide⟩, zX7_thingNamed⟩, lX3_107, by decide, rfl, vX7_thingNamed.1, vX7_thingNamed.2⟩ (lyx_is hy 27 7 rfl) (sx_thingNamed_27 hy hr hI l7098 ) (Nat.le_of_ble_eq_true rfl) ?_
  intro r Ia Ja Ra hq
  obtain ⟨⟨ea, eb, ec⟩, v7099, rfl, av7099, bv7099⟩ := hq
  show WP _ _ _ _ (.int _ :: _) _ _ _ _
  rw [ea, eb, ec]
  clear ea eb ec Ia Ja Ra
  refine WP_istore (ls' := [(0, _), (1, _), (2, _), (3, _), (4, _), (5, _), (6, _)]) dX3_faultOfName_51 (by decide) rfl ?_
  refine WP_iload_n dX3_faultOfName_53 rfl ?_
  refine WQ_bipush (110) (110) dX3_faultOfName_54 rfl rfl (fun v7100 hv7100 => ?_)
  refine WQ_icmp_eq 65 dX3_faultOfName_56 rfl (fun c7100 => False.elim (by omega)) (fun c7100 => ?_)
  refine WP_iload_n dX3_faultOfName_59 rfl ?_
  refine WQ_bipush (109) (109) dX3_faultOfName_60 rfl rfl (fun v7102 hv7102 => ?_)
  refine WQ_icmp_ne 98 dX3_faultOfName_62 rfl (fun c7102 => ?_) (fun c7102 => False.elim (by omega))
  refine WP_iload dX3_faultOfName_98 rfl ?_
  refine WQ_iconst (-1) (-1) dX3_faultOfName_100 rfl rfl (fun v7104 hv7104 => ?_)
  refine WQ_icmp_ne 106 dX3_faultOfName_101 rfl (fun c7104 => ?_) (fun c7104 => ?_)
  · refine WP_aload_n dX3_faultOfName_106 rfl ?_
    refine WP_getr dX3_faultOfName_107 fX3_9 rfl (lyx_is hy 3 3 rfl) (rfx hr 3 3 4 (by decide)) ?_
    refine WP_iload_n dX3_faultOfName_110 rfl ?_
    refine WP_iload dX3_faultOfName_111 rfl ?_
    refine WQ_iast dX3_faultOfName_113 (lyx_is hy 4 13 rfl) (lyx_n hy 4 5 rfl) (by omega) (by omega) (fun I7106 fI7106 => ?_)
    have eI7106 := fI7106
    rw [cl (x := ix) (n := 0) (by omega)] at eI7106
    clear fI7106
    have hI7106 : XI g n L I7106 := by rw [eI7106]; exact (xi_f hy hI (c := 4) (0) (0) (1000) (by decide) (Or.inl (by decide)) (by decide) (by omega) (by omega))
    have e7107 : I7106 (ad g 1) 1 = L := by rw [eI7106, pp_ne _ _ (Or.inl (lyx_ne hy (by decide) (by decide) (by decide)))]; exact e7088
    have e7108 : I7106 (ad g 27) 1 = w7090 := by rw [eI7106, pp_ne _ _ (Or.inl (lyx_ne hy (by decide) (by decide) (by decide)))]; exact ew7090
    have e7109 : I7106 (ad g 27) 2 = w7091 := by rw [eI7106, pp_ne _ _ (Or.inl (lyx_ne hy (by decide) (by decide) (by decide)))]; exact ew7091
    have e7110 : I7106 (ad g 4) 0 = v7099 := by rw [eI7106, pp_self]
    have fr7111 : fz 74 g [4] I I7106 := by rw [eI7106]; exact fzx_pp hy fr0 (by decide) (by decide)
    clear eI7106
    refine WP_iload_n dX3_faultOfName_114 rfl ?_
    refine WQ_bipush (7) (7) dX3_faultOfName_115 rfl rfl (fun v7112 hv7112 => ?_)
    refine WQ_icmp_ne 137 dX3_faultOfName_117 rfl (fun c7112 => ?_) (fun c7112 => False.elim (by omega))
    refine WQ_iconst (0) (0) dX3_faultOfName_137 rfl rfl (fun v7114 hv7114 => ?_)
    exact WP_iret dX3_faultOfName_138 rfl ⟨⟨hI7106, rfl, fr7111, frj0, ⟨trivial, (by rw [e7108, ew7090] <;> exact (eq32 _ _).mpr (by omega)), (by rw [e7109, ew7091] <;> exact (eq32 _ _).mpr (by omega))⟩⟩, _, rfl, by omega, by omega, by (try rw [e7110]); omega⟩
  · refine WQ_iconst (5) (5) dX3_faultOfName_104 rfl rfl (fun v7115 hv7115 => ?_)
    obtain ⟨w7116, ew7116⟩ : ∃ w : Int32, I (ad g 4) 0 = w := ⟨_, rfl⟩
    have bw7116 := BT_get hI.1 4 0 5 (0) (0) (1000) (by decide) 0 (by decide) (by decide)
    rw [ew7116] at bw7116
    exact WP_iret dX3_faultOfName_105 rfl ⟨⟨hI, rfl, fr0, frj0, ⟨trivial, rfl, rfl⟩⟩, _, rfl, by omega, by omega, by (try rw [ew7116]); omega⟩
set_option maxHeartbeats 4000000 in
set_option maxRecDepth 100000 in
theorem sx_part_27_5_1 {g : GG} {n : Int} {L : Int32} (hy : LyX g)  {I : pI} {J : pJ} {R : pR} (hr : RfX g R) (hI : XI g n L I) (pa : Int32) (cz : Int32) (ix : Int32) (pa_lo : 68 ≤ pa.toInt) (pa_hi : pa.toInt ≤ 68) (cz_lo : 5 ≤ cz.toInt) (cz_hi : cz.toInt ≤ 5) (ix_lo : 1 ≤ ix.toInt) (ix_hi : ix.toInt ≤ 1) (hb : (I (ad g 4) 0).toInt ≤ 3) : SP g mX3_faultOfNumber [.ref (ad g 3), .int pa, .int cz, .int ix, .ref (ad g 27)] I J R (fun r I' J' R' => (XI g n L I' ∧ R' = R ∧ fz 74 g [4] I I' ∧ fz 74 g [] J J' ∧ True ∧ I' (ad g 4) 0 = I (ad g 4) 0 ∧ I' (ad g 27) 1 = I (ad g 27) 1 ∧ I' (ad g 27) 2 = I (ad g 27) 2) ∧ ∃ v : Int32, r = some (.int v) ∧ 0 ≤ v.toInt ∧ v.toInt ≤ 5 ∧ (v.toInt = 0 → (I' (ad g 4) 1).toInt ≤ 6)) := by
  refine SP_of ⟨by decide, rfl⟩ (Nat.le_of_ble_eq_true rfl) ?_
  have e7117 : I (ad g 1) 1 = L := hI.2
  have b7118 := BT_get hI.1 1 1 2 (0) (0) (900) (by decide) 1 (by decide) (by decide)
  rw [e7117] at b7118
  have fr0 : fz 74 g [4] I I := fz_rf
  have frj0 : fz 74 g [] J J := fz_rf
  obtain ⟨w7119, ew7119⟩ : ∃ w : Int32, I (ad g 4) 0 = w := ⟨_, rfl⟩
  have bw7119 := BT_get hI.1 4 0 5 (0) (0) (1000) (by decide) 0 (by decide) (by decide)
  rw [ew7119] at bw7119
  obtain ⟨w7120, ew7120⟩ : ∃ w : Int32, I (ad g 27) 1 = w := ⟨_, rfl⟩
  have bw7120 := BT_get hI.1 27 1 2 (0) (0) (4) (by decide) 1 (by decide) (by decide)
  rw [ew7120] at bw7120
  obtain ⟨w7121, ew7121⟩ : ∃ w : Int32, I (ad g 27) 2 = w := ⟨_, rfl⟩
  have bw7121 := BT_get hI.1 27 2 3 (0) (0) (3) (by decide) 2 (by decide) (by decide)
  rw [ew7121] at bw7121
  rw [ew7119] at hb
  refine WP_aload_n dX3_faultOfNumber_0 rfl ?_
  refine WP_getr dX3_faultOfNumber_1 fX3_15 rfl (lyx_is hy 3 3 rfl) (rfx hr 3 2 1 (by decide)) ?_
  refine WQ_getiu dX3_faultOfNumber_4 fX3_118 rfl (lyx_is hy 1 5 rfl) (fun v7122 ev7122 => ?_)
  refine WP_istore (ls' := [(0, _), (1, _), (2, _), (3, _), (4, _), (5, _)]) dX3_faultOfNumber_7 (by decide) rfl ?_
  refine WP_iload dX3_faultOfNumber_9 rfl ?_
  refine WP_iload_n dX3_faultOfNumber_11 rfl ?_
  refine WP_callS1 dX3_faultOfNumber_12 ⟨⟨⟨by decide, by decide⟩, zX3_leastOf⟩, lX3_121, tX3_leastOf⟩ (sx_leastOf hy hr hI pa ) (Nat.le_of_ble_eq_true rfl) ?_
  intro r Ia Ja Ra hq
  obtain ⟨⟨ea, eb, ec⟩, v7123, rfl, av7123, bv7123⟩ := hq
  show WP _ _ _ _ (.int _ :: _) _ _ _ _
  rw [ea, eb, ec]
  clear ea eb ec Ia Ja Ra
  refine WQ_icmp_lt 27 dX3_faultOfNumber_15 rfl (fun c7123 => ?_) (fun c7123 => ?_)
  · refine WQ_iconst (2) (2) dX3_faultOfNumber_27 rfl rfl (fun v7125 hv7125 => ?_)
    obtain ⟨w7126, ew7126⟩ : ∃ w : Int32, I (ad g 4) 1 = w := ⟨_, rfl⟩
    have bw7126 := BT_get hI.1 4 0 5 (0) (0) (1000) (by decide) 1 (by decide) (by decide)
    rw [ew7126] at bw7126
    exact WP_iret dX3_faultOfNumber_28 rfl ⟨⟨hI, rfl, fr0, frj0, ⟨trivial, rfl, rfl, rfl⟩⟩, _, rfl, by omega, by omega, by (try rw [ew7126]); omega⟩
  · refine WP_iload dX3_faultOfNumber_18 rfl ?_
    refine WP_iload_n dX3_faultOfNumber_20 rfl ?_
    refine WP_callS1 dX3_faultOfNumber_21 ⟨⟨⟨by decide, by decide⟩, zX3_mostOf⟩, lX3_125, tX3_mostOf⟩ (sx_mostOf hy hr hI pa ) (Nat.le_of_ble_eq_true rfl) ?_
    intro r Ia Ja Ra hq
    obtain ⟨⟨ea, eb, ec⟩, v7127, rfl, av7127, bv7127, cv7127⟩ := hq
    show WP _ _ _ _ (.int _ :: _) _ _ _ _
    rw [ea, eb, ec]
    clear ea eb ec Ia Ja Ra
    refine WQ_icmp_le 29 dX3_faultOfNumber_24 rfl (fun c7127 => ?_) (fun c7127 => ?_)
    · refine WP_aload_n dX3_faultOfNumber_29 rfl ?_
      refine WP_getr dX3_faultOfNumber_30 fX3_9 rfl (lyx_is hy 3 3 rfl) (rfx hr 3 3 4 (by decide)) ?_
      refine WP_iload_n dX3_faultOfNumber_33 rfl ?_
      refine WP_iload dX3_faultOfNumber_34 rfl ?_
      refine WQ_iast dX3_faultOfNumber_36 (lyx_is hy 4 13 rfl) (lyx_n hy 4 5 rfl) (by omega) (by omega) (fun I7129 fI7129 => ?_)
      have eI7129 := fI7129
      rw [cl (x := ix) (n := 1) (by omega)] at eI7129
      clear fI7129
      have hI7129 : XI g n L I7129 := by rw [eI7129]; exact (xi_f hy hI (c := 4) (0) (0) (1000) (by decide) (Or.inl (by decide)) (by decide) (by omega) (by omega))
      have e7130 : I7129 (ad g 1) 1 = L := by rw [eI7129, pp_ne _ _ (Or.inl (lyx_ne hy (by decide) (by decide) (by decide)))]; exact e7117
      have e7131 : I7129 (ad g 4) 0 = w7119 := by rw [eI7129, pp_ne _ _ (Or.inr (by decide))]; exact ew7119
      have e7132 : I7129 (ad g 27) 1 = w7120 := by rw [eI7129, pp_ne _ _ (Or.inl (lyx_ne hy (by decide) (by decide) (by decide)))]; exact ew7120
      have e7133 : I7129 (ad g 27) 2 = w7121 := by rw [eI7129, pp_ne _ _ (Or.inl (lyx_ne hy (by decide) (by decide) (by decide)))]; exact ew7121
      have e7134 : I7129 (ad g 1) 4 = v7122 := by rw [eI7129, pp_ne _ _ (Or.inl (lyx_ne hy (by decide) (by decide) (by decide)))]; exact ev7122
      have e7135 : I7129 (ad g 4) 1 = v7122 := by rw [eI7129, pp_self]
      have fr7136 : fz 74 g [4] I I7129 := by rw [eI7129]; exact fzx_pp hy fr0 (by decide) (by decide)
      clear eI7129
      refine WP_iload_n dX3_faultOfNumber_37 rfl ?_
      refine WQ_bipush (68) (68) dX3_faultOfNumber_38 rfl rfl (fun v7137 hv7137 => ?_)
      refine WQ_icmp_eq 45 dX3_faultOfNumber_40 rfl (fun c7137 => ?_) (fun c7137 => False.elim (by omega))
      refine WP_aload dX3_faultOfNumber_45 rfl ?_
      refine WP_iload_n dX3_faultOfNumber_47 rfl ?_
      refine WP_iload_n dX3_faultOfNumber_48 rfl ?_
      refine WQ_if_ne 56 dX3_faultOfNumber_49 rfl (fun c7138 => ?_) (fun c7138 => False.elim (by omega))
      refine WP_aload_n dX3_faultOfNumber_56 rfl ?_
      refine WP_getr dX3_faultOfNumber_57 fX3_9 rfl (lyx_is hy 3 3 rfl) (rfx hr 3 3 4 (by decide)) ?_
      refine WQ_iconst (0) (0) dX3_faultOfNumber_60 rfl rfl (fun v7140 hv7140 => ?_)
      refine WQ_ialdm (z := 0) dX3_faultOfNumber_61 (lyx_is hy 4 13 rfl) (lyx_n hy 4 5 rfl) hv7140 (by decide) e7131 ?_
      refine WP_iload dX3_faultOfNumber_62 rfl ?_
      refine WP_callV3 (k := 7) dX3_faultOfNumber_64 ⟨⟨⟨by decide, by decide⟩, zX7_isTold⟩, lX3_114, by decide, rfl, vX7_isTold.1, vX7_isTold.2⟩ (lyx_is hy 27 7 rfl) (sx_isTold_27 hy hr hI7129 cz w7119 v7122 (by omega) (by omega) (by omega) (by omega) ) (Nat.le_of_ble_eq_true rfl) ?_
      intro r Ia Ja Ra hq
      obtain ⟨⟨ea, eb, ec⟩, v7142, rfl, av7142, bv7142⟩ := hq
      show WP _ _ _ _ (.int _ :: _) _ _ _ _
      rw [ea, eb, ec]
      clear ea eb ec Ia Ja Ra
      refine WQ_if_eq 74 dX3_faultOfNumber_67 rfl (fun c7142 => ?_) (fun c7142 => ?_)
      · refine WQ_iconst (0) (0) dX3_faultOfNumber_74 rfl rfl (fun v7144 hv7144 => ?_)
        exact WP_iret dX3_faultOfNumber_75 rfl ⟨⟨hI7129, rfl, fr7136, frj0, ⟨trivial, (by rw [e7131, ew7119] <;> exact (eq32 _ _).mpr (by omega)), (by rw [e7132, ew7120] <;> exact (eq32 _ _).mpr (by omega)), (by rw [e7133, ew7121] <;> exact (eq32 _ _).mpr (by omega))⟩⟩, _, rfl, by omega, by omega, by (try rw [e7135]); omega⟩
      · refine WQ_iconst (3) (3) dX3_faultOfNumber_70 rfl rfl (fun v7145 hv7145 => ?_)
        refine WP_goto 75 dX3_faultOfNumber_71 rfl ?_
        exact WP_iret dX3_faultOfNumber_75 rfl ⟨⟨hI7129, rfl, fr7136, frj0, ⟨trivial, (by rw [e7131, ew7119] <;> exact (eq32 _ _).mpr (by omega)), (by rw [e7132, ew7120] <;> exact (eq32 _ _).mpr (by omega)), (by rw [e7133, ew7121] <;> exact (eq32 _ _).mpr (by omega))⟩⟩, _, rfl, by omega, by omega, by (try rw [e7135]); omega⟩
    · refine WQ_iconst (2) (2) dX3_faultOfNumber_27 rfl rfl (fun v7146 hv7146 => ?_)
      obtain ⟨w7147, ew7147⟩ : ∃ w : Int32, I (ad g 4) 1 = w := ⟨_, rfl⟩
      have bw7147 := BT_get hI.1 4 0 5 (0) (0) (1000) (by decide) 1 (by decide) (by decide)
      rw [ew7147] at bw7147
      exact WP_iret dX3_faultOfNumber_28 rfl ⟨⟨hI, rfl, fr0, frj0, ⟨trivial, rfl, rfl, rfl⟩⟩, _, rfl, by omega, by omega, by (try rw [ew7147]); omega⟩
set_option maxHeartbeats 4000000 in
set_option maxRecDepth 100000 in
theorem sx_part_27_5_2 {g : GG} {n : Int} {L : Int32} (hy : LyX g)  {I : pI} {J : pJ} {R : pR} (hr : RfX g R) (hI : XI g n L I) (pa : Int32) (cz : Int32) (ix : Int32) (pa_lo : 77 ≤ pa.toInt) (pa_hi : pa.toInt ≤ 77) (cz_lo : 5 ≤ cz.toInt) (cz_hi : cz.toInt ≤ 5) (ix_lo : 2 ≤ ix.toInt) (ix_hi : ix.toInt ≤ 2) : SP g mX3_faultOfNumber [.ref (ad g 3), .int pa, .int cz, .int ix, .ref (ad g 27)] I J R (fun r I' J' R' => (XI g n L I' ∧ R' = R ∧ fz 74 g [4] I I' ∧ fz 74 g [] J J' ∧ True ∧ I' (ad g 4) 0 = I (ad g 4) 0 ∧ I' (ad g 4) 1 = I (ad g 4) 1 ∧ I' (ad g 27) 1 = I (ad g 27) 1 ∧ I' (ad g 27) 2 = I (ad g 27) 2) ∧ ∃ v : Int32, r = some (.int v) ∧ 0 ≤ v.toInt ∧ v.toInt ≤ 5 ∧ (v.toInt = 0 → (I' (ad g 4) 2).toInt ≤ 999)) := by
  refine SP_of ⟨by decide, rfl⟩ (Nat.le_of_ble_eq_true rfl) ?_
  have e7148 : I (ad g 1) 1 = L := hI.2
  have b7149 := BT_get hI.1 1 1 2 (0) (0) (900) (by decide) 1 (by decide) (by decide)
  rw [e7148] at b7149
  have fr0 : fz 74 g [4] I I := fz_rf
  have frj0 : fz 74 g [] J J := fz_rf
  obtain ⟨w7150, ew7150⟩ : ∃ w : Int32, I (ad g 4) 0 = w := ⟨_, rfl⟩
  have bw7150 := BT_get hI.1 4 0 5 (0) (0) (1000) (by decide) 0 (by decide) (by decide)
  rw [ew7150] at bw7150
  obtain ⟨w7151, ew7151⟩ : ∃ w : Int32, I (ad g 4) 1 = w := ⟨_, rfl⟩
  have bw7151 := BT_get hI.1 4 0 5 (0) (0) (1000) (by decide) 1 (by decide) (by decide)
  rw [ew7151] at bw7151
  obtain ⟨w7152, ew7152⟩ : ∃ w : Int32, I (ad g 27) 1 = w := ⟨_, rfl⟩
  have bw7152 := BT_get hI.1 27 1 2 (0) (0) (4) (by decide) 1 (by decide) (by decide)
  rw [ew7152] at bw7152
  obtain ⟨w7153, ew7153⟩ : ∃ w : Int32, I (ad g 27) 2 = w := ⟨_, rfl⟩
  have bw7153 := BT_get hI.1 27 2 3 (0) (0) (3) (by decide) 2 (by decide) (by decide)
  rw [ew7153] at bw7153
  refine WP_aload_n dX3_faultOfNumber_0 rfl ?_
  refine WP_getr dX3_faultOfNumber_1 fX3_15 rfl (lyx_is hy 3 3 rfl) (rfx hr 3 2 1 (by decide)) ?_
  refine WQ_getiu dX3_faultOfNumber_4 fX3_118 rfl (lyx_is hy 1 5 rfl) (fun v7154 ev7154 => ?_)
  refine WP_istore (ls' := [(0, _), (1, _), (2, _), (3, _), (4, _), (5, _)]) dX3_faultOfNumber_7 (by decide) rfl ?_
  refine WP_iload dX3_faultOfNumber_9 rfl ?_
  refine WP_iload_n dX3_faultOfNumber_11 rfl ?_
  refine WP_callS1 dX3_faultOfNumber_12 ⟨⟨⟨by decide, by decide⟩, zX3_leastOf⟩, lX3_121, tX3_leastOf⟩ (sx_leastOf hy hr hI pa ) (Nat.le_of_ble_eq_true rfl) ?_
  intro r Ia Ja Ra hq
  obtain ⟨⟨ea, eb, ec⟩, v7155, rfl, av7155, bv7155⟩ := hq
  show WP _ _ _ _ (.int _ :: _) _ _ _ _
  rw [ea, eb, ec]
  clear ea eb ec Ia Ja Ra
  refine WQ_icmp_lt 27 dX3_faultOfNumber_15 rfl (fun c7155 => ?_) (fun c7155 => ?_)
  · refine WQ_iconst (2) (2) dX3_faultOfNumber_27 rfl rfl (fun v7157 hv7157 => ?_)
    obtain ⟨w7158, ew7158⟩ : ∃ w : Int32, I (ad g 4) 2 = w := ⟨_, rfl⟩
    have bw7158 := BT_get hI.1 4 0 5 (0) (0) (1000) (by decide) 2 (by decide) (by decide)
    rw [ew7158] at bw7158
    exact WP_iret dX3_faultOfNumber_28 rfl ⟨⟨hI, rfl, fr0, frj0, ⟨trivial, rfl, rfl, rfl, rfl⟩⟩, _, rfl, by omega, by omega, by (try rw [ew7158]); omega⟩
  · refine WP_iload dX3_faultOfNumber_18 rfl ?_
    refine WP_iload_n dX3_faultOfNumber_20 rfl ?_
    refine WP_callS1 dX3_faultOfNumber_21 ⟨⟨⟨by decide, by decide⟩, zX3_mostOf⟩, lX3_125, tX3_mostOf⟩ (sx_mostOf hy hr hI pa ) (Nat.le_of_ble_eq_true rfl) ?_
    intro r Ia Ja Ra hq
    obtain ⟨⟨ea, eb, ec⟩, v7159, rfl, av7159, bv7159, cv7159⟩ := hq
    show WP _ _ _ _ (.int _ :: _) _ _ _ _
    rw [ea, eb, ec]
    clear ea eb ec Ia Ja Ra
    refine WQ_icmp_le 29 dX3_faultOfNumber_24 rfl (fun c7159 => ?_) (fun c7159 => ?_)
    · refine WP_aload_n dX3_faultOfNumber_29 rfl ?_
      refine WP_getr dX3_faultOfNumber_30 fX3_9 rfl (lyx_is hy 3 3 rfl) (rfx hr 3 3 4 (by decide)) ?_
      refine WP_iload_n dX3_faultOfNumber_33 rfl ?_
      refine WP_iload dX3_faultOfNumber_34 rfl ?_
      refine WQ_iast dX3_faultOfNumber_36 (lyx_is hy 4 13 rfl) (lyx_n hy 4 5 rfl) (by omega) (by omega) (fun I7161 fI7161 => ?_)
      have eI7161 := fI7161
      rw [cl (x := ix) (n := 2) (by omega)] at eI7161
      clear fI7161
      have hI7161 : XI g n L I7161 := by rw [eI7161]; exact (xi_f hy hI (c := 4) (0) (0) (1000) (by decide) (Or.inl (by decide)) (by decide) (by omega) (by omega))
      have e7162 : I7161 (ad g 1) 1 = L := by rw [eI7161, pp_ne _ _ (Or.inl (lyx_ne hy (by decide) (by decide) (by decide)))]; exact e7148
      have e7163 : I7161 (ad g 4) 0 = w7150 := by rw [eI7161, pp_ne _ _ (Or.inr (by decide))]; exact ew7150
      have e7164 : I7161 (ad g 4) 1 = w7151 := by rw [eI7161, pp_ne _ _ (Or.inr (by decide))]; exact ew7151
      have e7165 : I7161 (ad g 27) 1 = w7152 := by rw [eI7161, pp_ne _ _ (Or.inl (lyx_ne hy (by decide) (by decide) (by decide)))]; exact ew7152
      have e7166 : I7161 (ad g 27) 2 = w7153 := by rw [eI7161, pp_ne _ _ (Or.inl (lyx_ne hy (by decide) (by decide) (by decide)))]; exact ew7153
      have e7167 : I7161 (ad g 1) 4 = v7154 := by rw [eI7161, pp_ne _ _ (Or.inl (lyx_ne hy (by decide) (by decide) (by decide)))]; exact ev7154
      have e7168 : I7161 (ad g 4) 2 = v7154 := by rw [eI7161, pp_self]
      have fr7169 : fz 74 g [4] I I7161 := by rw [eI7161]; exact fzx_pp hy fr0 (by decide) (by decide)
      clear eI7161
      refine WP_iload_n dX3_faultOfNumber_37 rfl ?_
      refine WQ_bipush (68) (68) dX3_faultOfNumber_38 rfl rfl (fun v7170 hv7170 => ?_)
      refine WQ_icmp_eq 45 dX3_faultOfNumber_40 rfl (fun c7170 => False.elim (by omega)) (fun c7170 => ?_)
      refine WQ_iconst (0) (0) dX3_faultOfNumber_43 rfl rfl (fun v7172 hv7172 => ?_)
      exact WP_iret dX3_faultOfNumber_44 rfl ⟨⟨hI7161, rfl, fr7169, frj0, ⟨trivial, (by rw [e7163, ew7150] <;> exact (eq32 _ _).mpr (by omega)), (by rw [e7164, ew7151] <;> exact (eq32 _ _).mpr (by omega)), (by rw [e7165, ew7152] <;> exact (eq32 _ _).mpr (by omega)), (by rw [e7166, ew7153] <;> exact (eq32 _ _).mpr (by omega))⟩⟩, _, rfl, by omega, by omega, by (try rw [e7168]); omega⟩
    · refine WQ_iconst (2) (2) dX3_faultOfNumber_27 rfl rfl (fun v7173 hv7173 => ?_)
      obtain ⟨w7174, ew7174⟩ : ∃ w : Int32, I (ad g 4) 2 = w := ⟨_, rfl⟩
      have bw7174 := BT_get hI.1 4 0 5 (0) (0) (1000) (by decide) 2 (by decide) (by decide)
      rw [ew7174] at bw7174
      exact WP_iret dX3_faultOfNumber_28 rfl ⟨⟨hI, rfl, fr0, frj0, ⟨trivial, rfl, rfl, rfl, rfl⟩⟩, _, rfl, by omega, by omega, by (try rw [ew7174]); omega⟩
set_option maxHeartbeats 4000000 in
set_option maxRecDepth 100000 in
theorem sx_part_27_6_0 {g : GG} {n : Int} {L : Int32} (hy : LyX g)  {I : pI} {J : pJ} {R : pR} (hr : RfX g R) (hI : XI g n L I) (pa : Int32) (cz : Int32) (ix : Int32) (pa_lo : 115 ≤ pa.toInt) (pa_hi : pa.toInt ≤ 115) (cz_lo : 6 ≤ cz.toInt) (cz_hi : cz.toInt ≤ 6) (ix_lo : 0 ≤ ix.toInt) (ix_hi : ix.toInt ≤ 0) : SP g mX3_faultOfName [.ref (ad g 3), .int pa, .int cz, .int ix, .ref (ad g 27)] I J R (fun r I' J' R' => (XI g n L I' ∧ R' = R ∧ fz 74 g [4] I I' ∧ fz 74 g [] J J' ∧ True ∧ I' (ad g 27) 1 = I (ad g 27) 1 ∧ I' (ad g 27) 2 = I (ad g 27) 2) ∧ ∃ v : Int32, r = some (.int v) ∧ 0 ≤ v.toInt ∧ v.toInt ≤ 5 ∧ (v.toInt = 0 → (I' (ad g 4) 0).toInt ≤ 3)) := by
  refine SP_of ⟨by decide, rfl⟩ (Nat.le_of_ble_eq_true rfl) ?_
  have e7175 : I (ad g 1) 1 = L := hI.2
  have b7176 := BT_get hI.1 1 1 2 (0) (0) (900) (by decide) 1 (by decide) (by decide)
  rw [e7175] at b7176
  have fr0 : fz 74 g [4] I I := fz_rf
  have frj0 : fz 74 g [] J J := fz_rf
  obtain ⟨w7177, ew7177⟩ : ∃ w : Int32, I (ad g 27) 1 = w := ⟨_, rfl⟩
  have bw7177 := BT_get hI.1 27 1 2 (0) (0) (4) (by decide) 1 (by decide) (by decide)
  rw [ew7177] at bw7177
  obtain ⟨w7178, ew7178⟩ : ∃ w : Int32, I (ad g 27) 2 = w := ⟨_, rfl⟩
  have bw7178 := BT_get hI.1 27 2 3 (0) (0) (3) (by decide) 2 (by decide) (by decide)
  rw [ew7178] at bw7178
  refine WP_iload_n dX3_faultOfName_0 rfl ?_
  refine WQ_bipush (115) (115) dX3_faultOfName_1 rfl rfl (fun v7179 hv7179 => ?_)
  refine WQ_icmp_eq 12 dX3_faultOfName_3 rfl (fun c7179 => ?_) (fun c7179 => False.elim (by omega))
  refine WQ_iconst (1) (1) dX3_faultOfName_12 rfl rfl (fun v7181 hv7181 => ?_)
  refine WP_goto 17 dX3_faultOfName_13 rfl ?_
  refine WP_istore (ls' := [(0, _), (1, _), (2, _), (3, _), (4, _), (5, _)]) dX3_faultOfName_17 (by decide) rfl ?_
  refine WP_iload dX3_faultOfName_19 rfl ?_
  refine WQ_if_eq 39 dX3_faultOfName_21 rfl (fun c7181 => False.elim (by omega)) (fun c7181 => ?_)
  refine WP_aload dX3_faultOfName_24 rfl ?_
  refine WP_aload_n dX3_faultOfName_26 rfl ?_
  refine WP_getr dX3_faultOfName_27 fX3_15 rfl (lyx_is hy 3 3 rfl) (rfx hr 3 2 1 (by decide)) ?_
  refine WQ_getl dX3_faultOfName_30 fX3_80 rfl (lyx_is hy 1 5 rfl) (fun l7183 el7183 => ?_)
  refine WP_callV1 (k := 7) dX3_faultOfName_33 ⟨⟨⟨by decide, by decide⟩, zX7_sortNamed⟩, lX3_103, by decide, rfl, vX7_sortNamed.1, vX7_sortNamed.2⟩ (lyx_is hy 27 7 rfl) (sx_sortNamed_27 hy hr hI l7183 ) (Nat.le_of_ble_eq_true rfl) ?_
  intro r Ia Ja Ra hq
  obtain ⟨⟨ea, eb, ec⟩, v7184, rfl, av7184, bv7184⟩ := hq
  show WP _ _ _ _ (.int _ :: _) _ _ _ _
  rw [ea, eb, ec]
  clear ea eb ec Ia Ja Ra
  refine WP_goto 51 dX3_faultOfName_36 rfl ?_
  refine WP_istore (ls' := [(0, _), (1, _), (2, _), (3, _), (4, _), (5, _), (6, _)]) dX3_faultOfName_51 (by decide) rfl ?_
  refine WP_iload_n dX3_faultOfName_53 rfl ?_
  refine WQ_bipush (110) (110) dX3_faultOfName_54 rfl rfl (fun v7185 hv7185 => ?_)
  refine WQ_icmp_eq 65 dX3_faultOfName_56 rfl (fun c7185 => False.elim (by omega)) (fun c7185 => ?_)
  refine WP_iload_n dX3_faultOfName_59 rfl ?_
  refine WQ_bipush (109) (109) dX3_faultOfName_60 rfl rfl (fun v7187 hv7187 => ?_)
  refine WQ_icmp_ne 98 dX3_faultOfName_62 rfl (fun c7187 => ?_) (fun c7187 => False.elim (by omega))
  refine WP_iload dX3_faultOfName_98 rfl ?_
  refine WQ_iconst (-1) (-1) dX3_faultOfName_100 rfl rfl (fun v7189 hv7189 => ?_)
  refine WQ_icmp_ne 106 dX3_faultOfName_101 rfl (fun c7189 => ?_) (fun c7189 => ?_)
  · refine WP_aload_n dX3_faultOfName_106 rfl ?_
    refine WP_getr dX3_faultOfName_107 fX3_9 rfl (lyx_is hy 3 3 rfl) (rfx hr 3 3 4 (by decide)) ?_
    refine WP_iload_n dX3_faultOfName_110 rfl ?_
    refine WP_iload dX3_faultOfName_111 rfl ?_
    refine WQ_iast dX3_faultOfName_113 (lyx_is hy 4 13 rfl) (lyx_n hy 4 5 rfl) (by omega) (by omega) (fun I7191 fI7191 => ?_)
    have eI7191 := fI7191
    rw [cl (x := ix) (n := 0) (by omega)] at eI7191
    clear fI7191
    have hI7191 : XI g n L I7191 := by rw [eI7191]; exact (xi_f hy hI (c := 4) (0) (0) (1000) (by decide) (Or.inl (by decide)) (by decide) (by omega) (by omega))
    have e7192 : I7191 (ad g 1) 1 = L := by rw [eI7191, pp_ne _ _ (Or.inl (lyx_ne hy (by decide) (by decide) (by decide)))]; exact e7175
    have e7193 : I7191 (ad g 27) 1 = w7177 := by rw [eI7191, pp_ne _ _ (Or.inl (lyx_ne hy (by decide) (by decide) (by decide)))]; exact ew7177
    have e7194 : I7191 (ad g 27) 2 = w7178 := by rw [eI7191, pp_ne _ _ (Or.inl (lyx_ne hy (by decide) (by decide) (by decide)))]; exact ew7178
    have e7195 : I7191 (ad g 4) 0 = v7184 := by rw [eI7191, pp_self]
    have fr7196 : fz 74 g [4] I I7191 := by rw [eI7191]; exact fzx_pp hy fr0 (by decide) (by decide)
    clear eI7191
    refine WP_iload_n dX3_faultOfName_114 rfl ?_
    refine WQ_bipush (7) (7) dX3_faultOfName_115 rfl rfl (fun v7197 hv7197 => ?_)
    refine WQ_icmp_ne 137 dX3_faultOfName_117 rfl (fun c7197 => ?_) (fun c7197 => False.elim (by omega))
    refine WQ_iconst (0) (0) dX3_faultOfName_137 rfl rfl (fun v7199 hv7199 => ?_)
    exact WP_iret dX3_faultOfName_138 rfl ⟨⟨hI7191, rfl, fr7196, frj0, ⟨trivial, (by rw [e7193, ew7177] <;> exact (eq32 _ _).mpr (by omega)), (by rw [e7194, ew7178] <;> exact (eq32 _ _).mpr (by omega))⟩⟩, _, rfl, by omega, by omega, by (try rw [e7195]); omega⟩
  · refine WQ_iconst (5) (5) dX3_faultOfName_104 rfl rfl (fun v7200 hv7200 => ?_)
    obtain ⟨w7201, ew7201⟩ : ∃ w : Int32, I (ad g 4) 0 = w := ⟨_, rfl⟩
    have bw7201 := BT_get hI.1 4 0 5 (0) (0) (1000) (by decide) 0 (by decide) (by decide)
    rw [ew7201] at bw7201
    exact WP_iret dX3_faultOfName_105 rfl ⟨⟨hI, rfl, fr0, frj0, ⟨trivial, rfl, rfl⟩⟩, _, rfl, by omega, by omega, by (try rw [ew7201]); omega⟩
set_option maxHeartbeats 4000000 in
set_option maxRecDepth 100000 in
theorem sx_part_27_6_1 {g : GG} {n : Int} {L : Int32} (hy : LyX g)  {I : pI} {J : pJ} {R : pR} (hr : RfX g R) (hI : XI g n L I) (pa : Int32) (cz : Int32) (ix : Int32) (pa_lo : 116 ≤ pa.toInt) (pa_hi : pa.toInt ≤ 116) (cz_lo : 6 ≤ cz.toInt) (cz_hi : cz.toInt ≤ 6) (ix_lo : 1 ≤ ix.toInt) (ix_hi : ix.toInt ≤ 1) : SP g mX3_faultOfName [.ref (ad g 3), .int pa, .int cz, .int ix, .ref (ad g 27)] I J R (fun r I' J' R' => (XI g n L I' ∧ R' = R ∧ fz 74 g [4] I I' ∧ fz 74 g [] J J' ∧ True ∧ I' (ad g 4) 0 = I (ad g 4) 0 ∧ I' (ad g 27) 1 = I (ad g 27) 1 ∧ I' (ad g 27) 2 = I (ad g 27) 2) ∧ ∃ v : Int32, r = some (.int v) ∧ 0 ≤ v.toInt ∧ v.toInt ≤ 5 ∧ (v.toInt = 0 → (I' (ad g 4) 1).toInt ≤ 2)) := by
  refine SP_of ⟨by decide, rfl⟩ (Nat.le_of_ble_eq_true rfl) ?_
  have e7202 : I (ad g 1) 1 = L := hI.2
  have b7203 := BT_get hI.1 1 1 2 (0) (0) (900) (by decide) 1 (by decide) (by decide)
  rw [e7202] at b7203
  have fr0 : fz 74 g [4] I I := fz_rf
  have frj0 : fz 74 g [] J J := fz_rf
  obtain ⟨w7204, ew7204⟩ : ∃ w : Int32, I (ad g 4) 0 = w := ⟨_, rfl⟩
  have bw7204 := BT_get hI.1 4 0 5 (0) (0) (1000) (by decide) 0 (by decide) (by decide)
  rw [ew7204] at bw7204
  obtain ⟨w7205, ew7205⟩ : ∃ w : Int32, I (ad g 27) 1 = w := ⟨_, rfl⟩
  have bw7205 := BT_get hI.1 27 1 2 (0) (0) (4) (by decide) 1 (by decide) (by decide)
  rw [ew7205] at bw7205
  obtain ⟨w7206, ew7206⟩ : ∃ w : Int32, I (ad g 27) 2 = w := ⟨_, rfl⟩
  have bw7206 := BT_get hI.1 27 2 3 (0) (0) (3) (by decide) 2 (by decide) (by decide)
  rw [ew7206] at bw7206
  refine WP_iload_n dX3_faultOfName_0 rfl ?_
  refine WQ_bipush (115) (115) dX3_faultOfName_1 rfl rfl (fun v7207 hv7207 => ?_)
  refine WQ_icmp_eq 12 dX3_faultOfName_3 rfl (fun c7207 => False.elim (by omega)) (fun c7207 => ?_)
  refine WP_iload_n dX3_faultOfName_6 rfl ?_
  refine WQ_bipush (110) (110) dX3_faultOfName_7 rfl rfl (fun v7209 hv7209 => ?_)
  refine WQ_icmp_ne 16 dX3_faultOfName_9 rfl (fun c7209 => ?_) (fun c7209 => False.elim (by omega))
  refine WQ_iconst (0) (0) dX3_faultOfName_16 rfl rfl (fun v7211 hv7211 => ?_)
  refine WP_istore (ls' := [(0, _), (1, _), (2, _), (3, _), (4, _), (5, _)]) dX3_faultOfName_17 (by decide) rfl ?_
  refine WP_iload dX3_faultOfName_19 rfl ?_
  refine WQ_if_eq 39 dX3_faultOfName_21 rfl (fun c7211 => ?_) (fun c7211 => False.elim (by omega))
  refine WP_aload dX3_faultOfName_39 rfl ?_
  refine WP_aload_n dX3_faultOfName_41 rfl ?_
  refine WP_getr dX3_faultOfName_42 fX3_15 rfl (lyx_is hy 3 3 rfl) (rfx hr 3 2 1 (by decide)) ?_
  refine WQ_getl dX3_faultOfName_45 fX3_80 rfl (lyx_is hy 1 5 rfl) (fun l7213 el7213 => ?_)
  refine WP_callV1 (k := 7) dX3_faultOfName_48 ⟨⟨⟨by decide, by decide⟩, zX7_thingNamed⟩, lX3_107, by decide, rfl, vX7_thingNamed.1, vX7_thingNamed.2⟩ (lyx_is hy 27 7 rfl) (sx_thingNamed_27 hy hr hI l7213 ) (Nat.le_of_ble_eq_true rfl) ?_
  intro r Ia Ja Ra hq
  obtain ⟨⟨ea, eb, ec⟩, v7214, rfl, av7214, bv7214⟩ := hq
  show WP _ _ _ _ (.int _ :: _) _ _ _ _
  rw [ea, eb, ec]
  clear ea eb ec Ia Ja Ra
  refine WP_istore (ls' := [(0, _), (1, _), (2, _), (3, _), (4, _), (5, _), (6, _)]) dX3_faultOfName_51 (by decide) rfl ?_
  refine WP_iload_n dX3_faultOfName_53 rfl ?_
  refine WQ_bipush (110) (110) dX3_faultOfName_54 rfl rfl (fun v7215 hv7215 => ?_)
  refine WQ_icmp_eq 65 dX3_faultOfName_56 rfl (fun c7215 => False.elim (by omega)) (fun c7215 => ?_)
  refine WP_iload_n dX3_faultOfName_59 rfl ?_
  refine WQ_bipush (109) (109) dX3_faultOfName_60 rfl rfl (fun v7217 hv7217 => ?_)
  refine WQ_icmp_ne 98 dX3_faultOfName_62 rfl (fun c7217 => ?_) (fun c7217 => False.elim (by omega))
  refine WP_iload dX3_faultOfName_98 rfl ?_
  refine WQ_iconst (-1) (-1) dX3_faultOfName_100 rfl rfl (fun v7219 hv7219 => ?_)
  refine WQ_icmp_ne 106 dX3_faultOfName_101 rfl (fun c7219 => ?_) (fun c7219 => ?_)
  · refine WP_aload_n dX3_faultOfName_106 rfl ?_
    refine WP_getr dX3_faultOfName_107 fX3_9 rfl (lyx_is hy 3 3 rfl) (rfx hr 3 3 4 (by decide)) ?_
    refine WP_iload_n dX3_faultOfName_110 rfl ?_
    refine WP_iload dX3_faultOfName_111 rfl ?_
    refine WQ_iast dX3_faultOfName_113 (lyx_is hy 4 13 rfl) (lyx_n hy 4 5 rfl) (by omega) (by omega) (fun I7221 fI7221 => ?_)
    have eI7221 := fI7221
    rw [cl (x := ix) (n := 1) (by omega)] at eI7221
    clear fI7221
    have hI7221 : XI g n L I7221 := by rw [eI7221]; exact (xi_f hy hI (c := 4) (0) (0) (1000) (by decide) (Or.inl (by decide)) (by decide) (by omega) (by omega))
    have e7222 : I7221 (ad g 1) 1 = L := by rw [eI7221, pp_ne _ _ (Or.inl (lyx_ne hy (by decide) (by decide) (by decide)))]; exact e7202
    have e7223 : I7221 (ad g 4) 0 = w7204 := by rw [eI7221, pp_ne _ _ (Or.inr (by decide))]; exact ew7204
    have e7224 : I7221 (ad g 27) 1 = w7205 := by rw [eI7221, pp_ne _ _ (Or.inl (lyx_ne hy (by decide) (by decide) (by decide)))]; exact ew7205
    have e7225 : I7221 (ad g 27) 2 = w7206 := by rw [eI7221, pp_ne _ _ (Or.inl (lyx_ne hy (by decide) (by decide) (by decide)))]; exact ew7206
    have e7226 : I7221 (ad g 4) 1 = v7214 := by rw [eI7221, pp_self]
    have fr7227 : fz 74 g [4] I I7221 := by rw [eI7221]; exact fzx_pp hy fr0 (by decide) (by decide)
    clear eI7221
    refine WP_iload_n dX3_faultOfName_114 rfl ?_
    refine WQ_bipush (7) (7) dX3_faultOfName_115 rfl rfl (fun v7228 hv7228 => ?_)
    refine WQ_icmp_ne 137 dX3_faultOfName_117 rfl (fun c7228 => ?_) (fun c7228 => False.elim (by omega))
    refine WQ_iconst (0) (0) dX3_faultOfName_137 rfl rfl (fun v7230 hv7230 => ?_)
    exact WP_iret dX3_faultOfName_138 rfl ⟨⟨hI7221, rfl, fr7227, frj0, ⟨trivial, (by rw [e7223, ew7204] <;> exact (eq32 _ _).mpr (by omega)), (by rw [e7224, ew7205] <;> exact (eq32 _ _).mpr (by omega)), (by rw [e7225, ew7206] <;> exact (eq32 _ _).mpr (by omega))⟩⟩, _, rfl, by omega, by omega, by (try rw [e7226]); omega⟩
  · refine WQ_iconst (5) (5) dX3_faultOfName_104 rfl rfl (fun v7231 hv7231 => ?_)
    obtain ⟨w7232, ew7232⟩ : ∃ w : Int32, I (ad g 4) 1 = w := ⟨_, rfl⟩
    have bw7232 := BT_get hI.1 4 0 5 (0) (0) (1000) (by decide) 1 (by decide) (by decide)
    rw [ew7232] at bw7232
    exact WP_iret dX3_faultOfName_105 rfl ⟨⟨hI, rfl, fr0, frj0, ⟨trivial, rfl, rfl, rfl⟩⟩, _, rfl, by omega, by omega, by (try rw [ew7232]); omega⟩
set_option maxHeartbeats 4000000 in
set_option maxRecDepth 100000 in
theorem sx_part_27_6_2 {g : GG} {n : Int} {L : Int32} (hy : LyX g)  {I : pI} {J : pJ} {R : pR} (hr : RfX g R) (hI : XI g n L I) (pa : Int32) (cz : Int32) (ix : Int32) (pa_lo : 68 ≤ pa.toInt) (pa_hi : pa.toInt ≤ 68) (cz_lo : 6 ≤ cz.toInt) (cz_hi : cz.toInt ≤ 6) (ix_lo : 2 ≤ ix.toInt) (ix_hi : ix.toInt ≤ 2) (hb : (I (ad g 4) 0).toInt ≤ 3) : SP g mX3_faultOfNumber [.ref (ad g 3), .int pa, .int cz, .int ix, .ref (ad g 27)] I J R (fun r I' J' R' => (XI g n L I' ∧ R' = R ∧ fz 74 g [4] I I' ∧ fz 74 g [] J J' ∧ True ∧ I' (ad g 4) 0 = I (ad g 4) 0 ∧ I' (ad g 4) 1 = I (ad g 4) 1 ∧ I' (ad g 27) 1 = I (ad g 27) 1 ∧ I' (ad g 27) 2 = I (ad g 27) 2) ∧ ∃ v : Int32, r = some (.int v) ∧ 0 ≤ v.toInt ∧ v.toInt ≤ 5 ∧ (v.toInt = 0 → (I' (ad g 4) 2).toInt ≤ 6)) := by
  refine SP_of ⟨by decide, rfl⟩ (Nat.le_of_ble_eq_true rfl) ?_
  have e7233 : I (ad g 1) 1 = L := hI.2
  have b7234 := BT_get hI.1 1 1 2 (0) (0) (900) (by decide) 1 (by decide) (by decide)
  rw [e7233] at b7234
  have fr0 : fz 74 g [4] I I := fz_rf
  have frj0 : fz 74 g [] J J := fz_rf
  obtain ⟨w7235, ew7235⟩ : ∃ w : Int32, I (ad g 4) 0 = w := ⟨_, rfl⟩
  have bw7235 := BT_get hI.1 4 0 5 (0) (0) (1000) (by decide) 0 (by decide) (by decide)
  rw [ew7235] at bw7235
  obtain ⟨w7236, ew7236⟩ : ∃ w : Int32, I (ad g 4) 1 = w := ⟨_, rfl⟩
  have bw7236 := BT_get hI.1 4 0 5 (0) (0) (1000) (by decide) 1 (by decide) (by decide)
  rw [ew7236] at bw7236
  obtain ⟨w7237, ew7237⟩ : ∃ w : Int32, I (ad g 27) 1 = w := ⟨_, rfl⟩
  have bw7237 := BT_get hI.1 27 1 2 (0) (0) (4) (by decide) 1 (by decide) (by decide)
  rw [ew7237] at bw7237
  obtain ⟨w7238, ew7238⟩ : ∃ w : Int32, I (ad g 27) 2 = w := ⟨_, rfl⟩
  have bw7238 := BT_get hI.1 27 2 3 (0) (0) (3) (by decide) 2 (by decide) (by decide)
  rw [ew7238] at bw7238
  rw [ew7235] at hb
  refine WP_aload_n dX3_faultOfNumber_0 rfl ?_
  refine WP_getr dX3_faultOfNumber_1 fX3_15 rfl (lyx_is hy 3 3 rfl) (rfx hr 3 2 1 (by decide)) ?_
  refine WQ_getiu dX3_faultOfNumber_4 fX3_118 rfl (lyx_is hy 1 5 rfl) (fun v7239 ev7239 => ?_)
  refine WP_istore (ls' := [(0, _), (1, _), (2, _), (3, _), (4, _), (5, _)]) dX3_faultOfNumber_7 (by decide) rfl ?_
  refine WP_iload dX3_faultOfNumber_9 rfl ?_
  refine WP_iload_n dX3_faultOfNumber_11 rfl ?_
  refine WP_callS1 dX3_faultOfNumber_12 ⟨⟨⟨by decide, by decide⟩, zX3_leastOf⟩, lX3_121, tX3_leastOf⟩ (sx_leastOf hy hr hI pa ) (Nat.le_of_ble_eq_true rfl) ?_
  intro r Ia Ja Ra hq
  obtain ⟨⟨ea, eb, ec⟩, v7240, rfl, av7240, bv7240⟩ := hq
  show WP _ _ _ _ (.int _ :: _) _ _ _ _
  rw [ea, eb, ec]
  clear ea eb ec Ia Ja Ra
  refine WQ_icmp_lt 27 dX3_faultOfNumber_15 rfl (fun c7240 => ?_) (fun c7240 => ?_)
  · refine WQ_iconst (2) (2) dX3_faultOfNumber_27 rfl rfl (fun v7242 hv7242 => ?_)
    obtain ⟨w7243, ew7243⟩ : ∃ w : Int32, I (ad g 4) 2 = w := ⟨_, rfl⟩
    have bw7243 := BT_get hI.1 4 0 5 (0) (0) (1000) (by decide) 2 (by decide) (by decide)
    rw [ew7243] at bw7243
    exact WP_iret dX3_faultOfNumber_28 rfl ⟨⟨hI, rfl, fr0, frj0, ⟨trivial, rfl, rfl, rfl, rfl⟩⟩, _, rfl, by omega, by omega, by (try rw [ew7243]); omega⟩
  · refine WP_iload dX3_faultOfNumber_18 rfl ?_
    refine WP_iload_n dX3_faultOfNumber_20 rfl ?_
    refine WP_callS1 dX3_faultOfNumber_21 ⟨⟨⟨by decide, by decide⟩, zX3_mostOf⟩, lX3_125, tX3_mostOf⟩ (sx_mostOf hy hr hI pa ) (Nat.le_of_ble_eq_true rfl) ?_
    intro r Ia Ja Ra hq
    obtain ⟨⟨ea, eb, ec⟩, v7244, rfl, av7244, bv7244, cv7244⟩ := hq
    show WP _ _ _ _ (.int _ :: _) _ _ _ _
    rw [ea, eb, ec]
    clear ea eb ec Ia Ja Ra
    refine WQ_icmp_le 29 dX3_faultOfNumber_24 rfl (fun c7244 => ?_) (fun c7244 => ?_)
    · refine WP_aload_n dX3_faultOfNumber_29 rfl ?_
      refine WP_getr dX3_faultOfNumber_30 fX3_9 rfl (lyx_is hy 3 3 rfl) (rfx hr 3 3 4 (by decide)) ?_
      refine WP_iload_n dX3_faultOfNumber_33 rfl ?_
      refine WP_iload dX3_faultOfNumber_34 rfl ?_
      refine WQ_iast dX3_faultOfNumber_36 (lyx_is hy 4 13 rfl) (lyx_n hy 4 5 rfl) (by omega) (by omega) (fun I7246 fI7246 => ?_)
      have eI7246 := fI7246
      rw [cl (x := ix) (n := 2) (by omega)] at eI7246
      clear fI7246
      have hI7246 : XI g n L I7246 := by rw [eI7246]; exact (xi_f hy hI (c := 4) (0) (0) (1000) (by decide) (Or.inl (by decide)) (by decide) (by omega) (by omega))
      have e7247 : I7246 (ad g 1) 1 = L := by rw [eI7246, pp_ne _ _ (Or.inl (lyx_ne hy (by decide) (by decide) (by decide)))]; exact e7233
      have e7248 : I7246 (ad g 4) 0 = w7235 := by rw [eI7246, pp_ne _ _ (Or.inr (by decide))]; exact ew7235
      have e7249 : I7246 (ad g 4) 1 = w7236 := by rw [eI7246, pp_ne _ _ (Or.inr (by decide))]; exact ew7236
      have e7250 : I7246 (ad g 27) 1 = w7237 := by rw [eI7246, pp_ne _ _ (Or.inl (lyx_ne hy (by decide) (by decide) (by decide)))]; exact ew7237
      have e7251 : I7246 (ad g 27) 2 = w7238 := by rw [eI7246, pp_ne _ _ (Or.inl (lyx_ne hy (by decide) (by decide) (by decide)))]; exact ew7238
      have e7252 : I7246 (ad g 1) 4 = v7239 := by rw [eI7246, pp_ne _ _ (Or.inl (lyx_ne hy (by decide) (by decide) (by decide)))]; exact ev7239
      have e7253 : I7246 (ad g 4) 2 = v7239 := by rw [eI7246, pp_self]
      have fr7254 : fz 74 g [4] I I7246 := by rw [eI7246]; exact fzx_pp hy fr0 (by decide) (by decide)
      clear eI7246
      refine WP_iload_n dX3_faultOfNumber_37 rfl ?_
      refine WQ_bipush (68) (68) dX3_faultOfNumber_38 rfl rfl (fun v7255 hv7255 => ?_)
      refine WQ_icmp_eq 45 dX3_faultOfNumber_40 rfl (fun c7255 => ?_) (fun c7255 => False.elim (by omega))
      refine WP_aload dX3_faultOfNumber_45 rfl ?_
      refine WP_iload_n dX3_faultOfNumber_47 rfl ?_
      refine WP_iload_n dX3_faultOfNumber_48 rfl ?_
      refine WQ_if_ne 56 dX3_faultOfNumber_49 rfl (fun c7256 => ?_) (fun c7256 => False.elim (by omega))
      refine WP_aload_n dX3_faultOfNumber_56 rfl ?_
      refine WP_getr dX3_faultOfNumber_57 fX3_9 rfl (lyx_is hy 3 3 rfl) (rfx hr 3 3 4 (by decide)) ?_
      refine WQ_iconst (0) (0) dX3_faultOfNumber_60 rfl rfl (fun v7258 hv7258 => ?_)
      refine WQ_ialdm (z := 0) dX3_faultOfNumber_61 (lyx_is hy 4 13 rfl) (lyx_n hy 4 5 rfl) hv7258 (by decide) e7248 ?_
      refine WP_iload dX3_faultOfNumber_62 rfl ?_
      refine WP_callV3 (k := 7) dX3_faultOfNumber_64 ⟨⟨⟨by decide, by decide⟩, zX7_isTold⟩, lX3_114, by decide, rfl, vX7_isTold.1, vX7_isTold.2⟩ (lyx_is hy 27 7 rfl) (sx_isTold_27 hy hr hI7246 cz w7235 v7239 (by omega) (by omega) (by omega) (by omega) ) (Nat.le_of_ble_eq_true rfl) ?_
      intro r Ia Ja Ra hq
      obtain ⟨⟨ea, eb, ec⟩, v7260, rfl, av7260, bv7260⟩ := hq
      show WP _ _ _ _ (.int _ :: _) _ _ _ _
      rw [ea, eb, ec]
      clear ea eb ec Ia Ja Ra
      refine WQ_if_eq 74 dX3_faultOfNumber_67 rfl (fun c7260 => ?_) (fun c7260 => ?_)
      · refine WQ_iconst (0) (0) dX3_faultOfNumber_74 rfl rfl (fun v7262 hv7262 => ?_)
        exact WP_iret dX3_faultOfNumber_75 rfl ⟨⟨hI7246, rfl, fr7254, frj0, ⟨trivial, (by rw [e7248, ew7235] <;> exact (eq32 _ _).mpr (by omega)), (by rw [e7249, ew7236] <;> exact (eq32 _ _).mpr (by omega)), (by rw [e7250, ew7237] <;> exact (eq32 _ _).mpr (by omega)), (by rw [e7251, ew7238] <;> exact (eq32 _ _).mpr (by omega))⟩⟩, _, rfl, by omega, by omega, by (try rw [e7253]); omega⟩
      · refine WQ_iconst (3) (3) dX3_faultOfNumber_70 rfl rfl (fun v7263 hv7263 => ?_)
        refine WP_goto 75 dX3_faultOfNumber_71 rfl ?_
        exact WP_iret dX3_faultOfNumber_75 rfl ⟨⟨hI7246, rfl, fr7254, frj0, ⟨trivial, (by rw [e7248, ew7235] <;> exact (eq32 _ _).mpr (by omega)), (by rw [e7249, ew7236] <;> exact (eq32 _ _).mpr (by omega)), (by rw [e7250, ew7237] <;> exact (eq32 _ _).mpr (by omega)), (by rw [e7251, ew7238] <;> exact (eq32 _ _).mpr (by omega))⟩⟩, _, rfl, by omega, by omega, by (try rw [e7253]); omega⟩
    · refine WQ_iconst (2) (2) dX3_faultOfNumber_27 rfl rfl (fun v7264 hv7264 => ?_)
      obtain ⟨w7265, ew7265⟩ : ∃ w : Int32, I (ad g 4) 2 = w := ⟨_, rfl⟩
      have bw7265 := BT_get hI.1 4 0 5 (0) (0) (1000) (by decide) 2 (by decide) (by decide)
      rw [ew7265] at bw7265
      exact WP_iret dX3_faultOfNumber_28 rfl ⟨⟨hI, rfl, fr0, frj0, ⟨trivial, rfl, rfl, rfl, rfl⟩⟩, _, rfl, by omega, by omega, by (try rw [ew7265]); omega⟩
set_option maxHeartbeats 4000000 in
set_option maxRecDepth 100000 in
theorem sx_part_27_6_3 {g : GG} {n : Int} {L : Int32} (hy : LyX g)  {I : pI} {J : pJ} {R : pR} (hr : RfX g R) (hI : XI g n L I) (pa : Int32) (cz : Int32) (ix : Int32) (pa_lo : 85 ≤ pa.toInt) (pa_hi : pa.toInt ≤ 85) (cz_lo : 6 ≤ cz.toInt) (cz_hi : cz.toInt ≤ 6) (ix_lo : 3 ≤ ix.toInt) (ix_hi : ix.toInt ≤ 3) : SP g mX3_faultOfNumber [.ref (ad g 3), .int pa, .int cz, .int ix, .ref (ad g 27)] I J R (fun r I' J' R' => (XI g n L I' ∧ R' = R ∧ fz 74 g [4] I I' ∧ fz 74 g [] J J' ∧ True ∧ I' (ad g 4) 0 = I (ad g 4) 0 ∧ I' (ad g 4) 1 = I (ad g 4) 1 ∧ I' (ad g 4) 2 = I (ad g 4) 2 ∧ I' (ad g 27) 1 = I (ad g 27) 1 ∧ I' (ad g 27) 2 = I (ad g 27) 2) ∧ ∃ v : Int32, r = some (.int v) ∧ 0 ≤ v.toInt ∧ v.toInt ≤ 5 ∧ (v.toInt = 0 → (I' (ad g 4) 3).toInt ≤ 3)) := by
  refine SP_of ⟨by decide, rfl⟩ (Nat.le_of_ble_eq_true rfl) ?_
  have e7266 : I (ad g 1) 1 = L := hI.2
  have b7267 := BT_get hI.1 1 1 2 (0) (0) (900) (by decide) 1 (by decide) (by decide)
  rw [e7266] at b7267
  have fr0 : fz 74 g [4] I I := fz_rf
  have frj0 : fz 74 g [] J J := fz_rf
  obtain ⟨w7268, ew7268⟩ : ∃ w : Int32, I (ad g 4) 0 = w := ⟨_, rfl⟩
  have bw7268 := BT_get hI.1 4 0 5 (0) (0) (1000) (by decide) 0 (by decide) (by decide)
  rw [ew7268] at bw7268
  obtain ⟨w7269, ew7269⟩ : ∃ w : Int32, I (ad g 4) 1 = w := ⟨_, rfl⟩
  have bw7269 := BT_get hI.1 4 0 5 (0) (0) (1000) (by decide) 1 (by decide) (by decide)
  rw [ew7269] at bw7269
  obtain ⟨w7270, ew7270⟩ : ∃ w : Int32, I (ad g 4) 2 = w := ⟨_, rfl⟩
  have bw7270 := BT_get hI.1 4 0 5 (0) (0) (1000) (by decide) 2 (by decide) (by decide)
  rw [ew7270] at bw7270
  obtain ⟨w7271, ew7271⟩ : ∃ w : Int32, I (ad g 27) 1 = w := ⟨_, rfl⟩
  have bw7271 := BT_get hI.1 27 1 2 (0) (0) (4) (by decide) 1 (by decide) (by decide)
  rw [ew7271] at bw7271
  obtain ⟨w7272, ew7272⟩ : ∃ w : Int32, I (ad g 27) 2 = w := ⟨_, rfl⟩
  have bw7272 := BT_get hI.1 27 2 3 (0) (0) (3) (by decide) 2 (by decide) (by decide)
  rw [ew7272] at bw7272
  refine WP_aload_n dX3_faultOfNumber_0 rfl ?_
  refine WP_getr dX3_faultOfNumber_1 fX3_15 rfl (lyx_is hy 3 3 rfl) (rfx hr 3 2 1 (by decide)) ?_
  refine WQ_getiu dX3_faultOfNumber_4 fX3_118 rfl (lyx_is hy 1 5 rfl) (fun v7273 ev7273 => ?_)
  refine WP_istore (ls' := [(0, _), (1, _), (2, _), (3, _), (4, _), (5, _)]) dX3_faultOfNumber_7 (by decide) rfl ?_
  refine WP_iload dX3_faultOfNumber_9 rfl ?_
  refine WP_iload_n dX3_faultOfNumber_11 rfl ?_
  refine WP_callS1 dX3_faultOfNumber_12 ⟨⟨⟨by decide, by decide⟩, zX3_leastOf⟩, lX3_121, tX3_leastOf⟩ (sx_leastOf hy hr hI pa ) (Nat.le_of_ble_eq_true rfl) ?_
  intro r Ia Ja Ra hq
  obtain ⟨⟨ea, eb, ec⟩, v7274, rfl, av7274, bv7274⟩ := hq
  show WP _ _ _ _ (.int _ :: _) _ _ _ _
  rw [ea, eb, ec]
  clear ea eb ec Ia Ja Ra
  refine WQ_icmp_lt 27 dX3_faultOfNumber_15 rfl (fun c7274 => ?_) (fun c7274 => ?_)
  · refine WQ_iconst (2) (2) dX3_faultOfNumber_27 rfl rfl (fun v7276 hv7276 => ?_)
    obtain ⟨w7277, ew7277⟩ : ∃ w : Int32, I (ad g 4) 3 = w := ⟨_, rfl⟩
    have bw7277 := BT_get hI.1 4 0 5 (0) (0) (1000) (by decide) 3 (by decide) (by decide)
    rw [ew7277] at bw7277
    exact WP_iret dX3_faultOfNumber_28 rfl ⟨⟨hI, rfl, fr0, frj0, ⟨trivial, rfl, rfl, rfl, rfl, rfl⟩⟩, _, rfl, by omega, by omega, by (try rw [ew7277]); omega⟩
  · refine WP_iload dX3_faultOfNumber_18 rfl ?_
    refine WP_iload_n dX3_faultOfNumber_20 rfl ?_
    refine WP_callS1 dX3_faultOfNumber_21 ⟨⟨⟨by decide, by decide⟩, zX3_mostOf⟩, lX3_125, tX3_mostOf⟩ (sx_mostOf hy hr hI pa ) (Nat.le_of_ble_eq_true rfl) ?_
    intro r Ia Ja Ra hq
    obtain ⟨⟨ea, eb, ec⟩, v7278, rfl, av7278, bv7278, cv7278⟩ := hq
    show WP _ _ _ _ (.int _ :: _) _ _ _ _
    rw [ea, eb, ec]
    clear ea eb ec Ia Ja Ra
    refine WQ_icmp_le 29 dX3_faultOfNumber_24 rfl (fun c7278 => ?_) (fun c7278 => ?_)
    · refine WP_aload_n dX3_faultOfNumber_29 rfl ?_
      refine WP_getr dX3_faultOfNumber_30 fX3_9 rfl (lyx_is hy 3 3 rfl) (rfx hr 3 3 4 (by decide)) ?_
      refine WP_iload_n dX3_faultOfNumber_33 rfl ?_
      refine WP_iload dX3_faultOfNumber_34 rfl ?_
      refine WQ_iast dX3_faultOfNumber_36 (lyx_is hy 4 13 rfl) (lyx_n hy 4 5 rfl) (by omega) (by omega) (fun I7280 fI7280 => ?_)
      have eI7280 := fI7280
      rw [cl (x := ix) (n := 3) (by omega)] at eI7280
      clear fI7280
      have hI7280 : XI g n L I7280 := by rw [eI7280]; exact (xi_f hy hI (c := 4) (0) (0) (1000) (by decide) (Or.inl (by decide)) (by decide) (by omega) (by omega))
      have e7281 : I7280 (ad g 1) 1 = L := by rw [eI7280, pp_ne _ _ (Or.inl (lyx_ne hy (by decide) (by decide) (by decide)))]; exact e7266
      have e7282 : I7280 (ad g 4) 0 = w7268 := by rw [eI7280, pp_ne _ _ (Or.inr (by decide))]; exact ew7268
      have e7283 : I7280 (ad g 4) 1 = w7269 := by rw [eI7280, pp_ne _ _ (Or.inr (by decide))]; exact ew7269
      have e7284 : I7280 (ad g 4) 2 = w7270 := by rw [eI7280, pp_ne _ _ (Or.inr (by decide))]; exact ew7270
      have e7285 : I7280 (ad g 27) 1 = w7271 := by rw [eI7280, pp_ne _ _ (Or.inl (lyx_ne hy (by decide) (by decide) (by decide)))]; exact ew7271
      have e7286 : I7280 (ad g 27) 2 = w7272 := by rw [eI7280, pp_ne _ _ (Or.inl (lyx_ne hy (by decide) (by decide) (by decide)))]; exact ew7272
      have e7287 : I7280 (ad g 1) 4 = v7273 := by rw [eI7280, pp_ne _ _ (Or.inl (lyx_ne hy (by decide) (by decide) (by decide)))]; exact ev7273
      have e7288 : I7280 (ad g 4) 3 = v7273 := by rw [eI7280, pp_self]
      have fr7289 : fz 74 g [4] I I7280 := by rw [eI7280]; exact fzx_pp hy fr0 (by decide) (by decide)
      clear eI7280
      refine WP_iload_n dX3_faultOfNumber_37 rfl ?_
      refine WQ_bipush (68) (68) dX3_faultOfNumber_38 rfl rfl (fun v7290 hv7290 => ?_)
      refine WQ_icmp_eq 45 dX3_faultOfNumber_40 rfl (fun c7290 => False.elim (by omega)) (fun c7290 => ?_)
      refine WQ_iconst (0) (0) dX3_faultOfNumber_43 rfl rfl (fun v7292 hv7292 => ?_)
      exact WP_iret dX3_faultOfNumber_44 rfl ⟨⟨hI7280, rfl, fr7289, frj0, ⟨trivial, (by rw [e7282, ew7268] <;> exact (eq32 _ _).mpr (by omega)), (by rw [e7283, ew7269] <;> exact (eq32 _ _).mpr (by omega)), (by rw [e7284, ew7270] <;> exact (eq32 _ _).mpr (by omega)), (by rw [e7285, ew7271] <;> exact (eq32 _ _).mpr (by omega)), (by rw [e7286, ew7272] <;> exact (eq32 _ _).mpr (by omega))⟩⟩, _, rfl, by omega, by omega, by (try rw [e7288]); omega⟩
    · refine WQ_iconst (2) (2) dX3_faultOfNumber_27 rfl rfl (fun v7293 hv7293 => ?_)
      obtain ⟨w7294, ew7294⟩ : ∃ w : Int32, I (ad g 4) 3 = w := ⟨_, rfl⟩
      have bw7294 := BT_get hI.1 4 0 5 (0) (0) (1000) (by decide) 3 (by decide) (by decide)
      rw [ew7294] at bw7294
      exact WP_iret dX3_faultOfNumber_28 rfl ⟨⟨hI, rfl, fr0, frj0, ⟨trivial, rfl, rfl, rfl, rfl, rfl⟩⟩, _, rfl, by omega, by omega, by (try rw [ew7294]); omega⟩
set_option maxHeartbeats 4000000 in
set_option maxRecDepth 100000 in
theorem sx_part_27_6_4 {g : GG} {n : Int} {L : Int32} (hy : LyX g)  {I : pI} {J : pJ} {R : pR} (hr : RfX g R) (hI : XI g n L I) (pa : Int32) (cz : Int32) (ix : Int32) (pa_lo : 86 ≤ pa.toInt) (pa_hi : pa.toInt ≤ 86) (cz_lo : 6 ≤ cz.toInt) (cz_hi : cz.toInt ≤ 6) (ix_lo : 4 ≤ ix.toInt) (ix_hi : ix.toInt ≤ 4) : SP g mX3_faultOfNumber [.ref (ad g 3), .int pa, .int cz, .int ix, .ref (ad g 27)] I J R (fun r I' J' R' => (XI g n L I' ∧ R' = R ∧ fz 74 g [4] I I' ∧ fz 74 g [] J J' ∧ True ∧ I' (ad g 4) 0 = I (ad g 4) 0 ∧ I' (ad g 4) 1 = I (ad g 4) 1 ∧ I' (ad g 4) 2 = I (ad g 4) 2 ∧ I' (ad g 4) 3 = I (ad g 4) 3 ∧ I' (ad g 27) 1 = I (ad g 27) 1 ∧ I' (ad g 27) 2 = I (ad g 27) 2) ∧ ∃ v : Int32, r = some (.int v) ∧ 0 ≤ v.toInt ∧ v.toInt ≤ 5 ∧ (v.toInt = 0 → (I' (ad g 4) 4).toInt ≤ 99)) := by
  refine SP_of ⟨by decide, rfl⟩ (Nat.le_of_ble_eq_true rfl) ?_
  have e7295 : I (ad g 1) 1 = L := hI.2
  have b7296 := BT_get hI.1 1 1 2 (0) (0) (900) (by decide) 1 (by decide) (by decide)
  rw [e7295] at b7296
  have fr0 : fz 74 g [4] I I := fz_rf
  have frj0 : fz 74 g [] J J := fz_rf
  obtain ⟨w7297, ew7297⟩ : ∃ w : Int32, I (ad g 4) 0 = w := ⟨_, rfl⟩
  have bw7297 := BT_get hI.1 4 0 5 (0) (0) (1000) (by decide) 0 (by decide) (by decide)
  rw [ew7297] at bw7297
  obtain ⟨w7298, ew7298⟩ : ∃ w : Int32, I (ad g 4) 1 = w := ⟨_, rfl⟩
  have bw7298 := BT_get hI.1 4 0 5 (0) (0) (1000) (by decide) 1 (by decide) (by decide)
  rw [ew7298] at bw7298
  obtain ⟨w7299, ew7299⟩ : ∃ w : Int32, I (ad g 4) 2 = w := ⟨_, rfl⟩
  have bw7299 := BT_get hI.1 4 0 5 (0) (0) (1000) (by decide) 2 (by decide) (by decide)
  rw [ew7299] at bw7299
  obtain ⟨w7300, ew7300⟩ : ∃ w : Int32, I (ad g 4) 3 = w := ⟨_, rfl⟩
  have bw7300 := BT_get hI.1 4 0 5 (0) (0) (1000) (by decide) 3 (by decide) (by decide)
  rw [ew7300] at bw7300
  obtain ⟨w7301, ew7301⟩ : ∃ w : Int32, I (ad g 27) 1 = w := ⟨_, rfl⟩
  have bw7301 := BT_get hI.1 27 1 2 (0) (0) (4) (by decide) 1 (by decide) (by decide)
  rw [ew7301] at bw7301
  obtain ⟨w7302, ew7302⟩ : ∃ w : Int32, I (ad g 27) 2 = w := ⟨_, rfl⟩
  have bw7302 := BT_get hI.1 27 2 3 (0) (0) (3) (by decide) 2 (by decide) (by decide)
  rw [ew7302] at bw7302
  refine WP_aload_n dX3_faultOfNumber_0 rfl ?_
  refine WP_getr dX3_faultOfNumber_1 fX3_15 rfl (lyx_is hy 3 3 rfl) (rfx hr 3 2 1 (by decide)) ?_
  refine WQ_getiu dX3_faultOfNumber_4 fX3_118 rfl (lyx_is hy 1 5 rfl) (fun v7303 ev7303 => ?_)
  refine WP_istore (ls' := [(0, _), (1, _), (2, _), (3, _), (4, _), (5, _)]) dX3_faultOfNumber_7 (by decide) rfl ?_
  refine WP_iload dX3_faultOfNumber_9 rfl ?_
  refine WP_iload_n dX3_faultOfNumber_11 rfl ?_
  refine WP_callS1 dX3_faultOfNumber_12 ⟨⟨⟨by decide, by decide⟩, zX3_leastOf⟩, lX3_121, tX3_leastOf⟩ (sx_leastOf hy hr hI pa ) (Nat.le_of_ble_eq_true rfl) ?_
  intro r Ia Ja Ra hq
  obtain ⟨⟨ea, eb, ec⟩, v7304, rfl, av7304, bv7304⟩ := hq
  show WP _ _ _ _ (.int _ :: _) _ _ _ _
  rw [ea, eb, ec]
  clear ea eb ec Ia Ja Ra
  refine WQ_icmp_lt 27 dX3_faultOfNumber_15 rfl (fun c7304 => ?_) (fun c7304 => ?_)
  · refine WQ_iconst (2) (2) dX3_faultOfNumber_27 rfl rfl (fun v7306 hv7306 => ?_)
    obtain ⟨w7307, ew7307⟩ : ∃ w : Int32, I (ad g 4) 4 = w := ⟨_, rfl⟩
    have bw7307 := BT_get hI.1 4 0 5 (0) (0) (1000) (by decide) 4 (by decide) (by decide)
    rw [ew7307] at bw7307
    exact WP_iret dX3_faultOfNumber_28 rfl ⟨⟨hI, rfl, fr0, frj0, ⟨trivial, rfl, rfl, rfl, rfl, rfl, rfl⟩⟩, _, rfl, by omega, by omega, by (try rw [ew7307]); omega⟩
  · refine WP_iload dX3_faultOfNumber_18 rfl ?_
    refine WP_iload_n dX3_faultOfNumber_20 rfl ?_
    refine WP_callS1 dX3_faultOfNumber_21 ⟨⟨⟨by decide, by decide⟩, zX3_mostOf⟩, lX3_125, tX3_mostOf⟩ (sx_mostOf hy hr hI pa ) (Nat.le_of_ble_eq_true rfl) ?_
    intro r Ia Ja Ra hq
    obtain ⟨⟨ea, eb, ec⟩, v7308, rfl, av7308, bv7308, cv7308⟩ := hq
    show WP _ _ _ _ (.int _ :: _) _ _ _ _
    rw [ea, eb, ec]
    clear ea eb ec Ia Ja Ra
    refine WQ_icmp_le 29 dX3_faultOfNumber_24 rfl (fun c7308 => ?_) (fun c7308 => ?_)
    · refine WP_aload_n dX3_faultOfNumber_29 rfl ?_
      refine WP_getr dX3_faultOfNumber_30 fX3_9 rfl (lyx_is hy 3 3 rfl) (rfx hr 3 3 4 (by decide)) ?_
      refine WP_iload_n dX3_faultOfNumber_33 rfl ?_
      refine WP_iload dX3_faultOfNumber_34 rfl ?_
      refine WQ_iast dX3_faultOfNumber_36 (lyx_is hy 4 13 rfl) (lyx_n hy 4 5 rfl) (by omega) (by omega) (fun I7310 fI7310 => ?_)
      have eI7310 := fI7310
      rw [cl (x := ix) (n := 4) (by omega)] at eI7310
      clear fI7310
      have hI7310 : XI g n L I7310 := by rw [eI7310]; exact (xi_f hy hI (c := 4) (0) (0) (1000) (by decide) (Or.inl (by decide)) (by decide) (by omega) (by omega))
      have e7311 : I7310 (ad g 1) 1 = L := by rw [eI7310, pp_ne _ _ (Or.inl (lyx_ne hy (by decide) (by decide) (by decide)))]; exact e7295
      have e7312 : I7310 (ad g 4) 0 = w7297 := by rw [eI7310, pp_ne _ _ (Or.inr (by decide))]; exact ew7297
      have e7313 : I7310 (ad g 4) 1 = w7298 := by rw [eI7310, pp_ne _ _ (Or.inr (by decide))]; exact ew7298
      have e7314 : I7310 (ad g 4) 2 = w7299 := by rw [eI7310, pp_ne _ _ (Or.inr (by decide))]; exact ew7299
      have e7315 : I7310 (ad g 4) 3 = w7300 := by rw [eI7310, pp_ne _ _ (Or.inr (by decide))]; exact ew7300
      have e7316 : I7310 (ad g 27) 1 = w7301 := by rw [eI7310, pp_ne _ _ (Or.inl (lyx_ne hy (by decide) (by decide) (by decide)))]; exact ew7301
      have e7317 : I7310 (ad g 27) 2 = w7302 := by rw [eI7310, pp_ne _ _ (Or.inl (lyx_ne hy (by decide) (by decide) (by decide)))]; exact ew7302
      have e7318 : I7310 (ad g 1) 4 = v7303 := by rw [eI7310, pp_ne _ _ (Or.inl (lyx_ne hy (by decide) (by decide) (by decide)))]; exact ev7303
      have e7319 : I7310 (ad g 4) 4 = v7303 := by rw [eI7310, pp_self]
      have fr7320 : fz 74 g [4] I I7310 := by rw [eI7310]; exact fzx_pp hy fr0 (by decide) (by decide)
      clear eI7310
      refine WP_iload_n dX3_faultOfNumber_37 rfl ?_
      refine WQ_bipush (68) (68) dX3_faultOfNumber_38 rfl rfl (fun v7321 hv7321 => ?_)
      refine WQ_icmp_eq 45 dX3_faultOfNumber_40 rfl (fun c7321 => False.elim (by omega)) (fun c7321 => ?_)
      refine WQ_iconst (0) (0) dX3_faultOfNumber_43 rfl rfl (fun v7323 hv7323 => ?_)
      exact WP_iret dX3_faultOfNumber_44 rfl ⟨⟨hI7310, rfl, fr7320, frj0, ⟨trivial, (by rw [e7312, ew7297] <;> exact (eq32 _ _).mpr (by omega)), (by rw [e7313, ew7298] <;> exact (eq32 _ _).mpr (by omega)), (by rw [e7314, ew7299] <;> exact (eq32 _ _).mpr (by omega)), (by rw [e7315, ew7300] <;> exact (eq32 _ _).mpr (by omega)), (by rw [e7316, ew7301] <;> exact (eq32 _ _).mpr (by omega)), (by rw [e7317, ew7302] <;> exact (eq32 _ _).mpr (by omega))⟩⟩, _, rfl, by omega, by omega, by (try rw [e7319]); omega⟩
    · refine WQ_iconst (2) (2) dX3_faultOfNumber_27 rfl rfl (fun v7324 hv7324 => ?_)
      obtain ⟨w7325, ew7325⟩ : ∃ w : Int32, I (ad g 4) 4 = w := ⟨_, rfl⟩
      have bw7325 := BT_get hI.1 4 0 5 (0) (0) (1000) (by decide) 4 (by decide) (by decide)
      rw [ew7325] at bw7325
      exact WP_iret dX3_faultOfNumber_28 rfl ⟨⟨hI, rfl, fr0, frj0, ⟨trivial, rfl, rfl, rfl, rfl, rfl, rfl⟩⟩, _, rfl, by omega, by omega, by (try rw [ew7325]); omega⟩
set_option maxHeartbeats 4000000 in
set_option maxRecDepth 100000 in
theorem sx_part_27_7_0 {g : GG} {n : Int} {L : Int32} (hy : LyX g)  {I : pI} {J : pJ} {R : pR} (hr : RfX g R) (hI : XI g n L I) (pa : Int32) (cz : Int32) (ix : Int32) (pa_lo : 115 ≤ pa.toInt) (pa_hi : pa.toInt ≤ 115) (cz_lo : 7 ≤ cz.toInt) (cz_hi : cz.toInt ≤ 7) (ix_lo : 0 ≤ ix.toInt) (ix_hi : ix.toInt ≤ 0) : SP g mX3_faultOfName [.ref (ad g 3), .int pa, .int cz, .int ix, .ref (ad g 27)] I J R (fun r I' J' R' => (XI g n L I' ∧ R' = R ∧ fz 74 g [4] I I' ∧ fz 74 g [] J J' ∧ True ∧ I' (ad g 27) 1 = I (ad g 27) 1 ∧ I' (ad g 27) 2 = I (ad g 27) 2) ∧ ∃ v : Int32, r = some (.int v) ∧ 0 ≤ v.toInt ∧ v.toInt ≤ 5 ∧ (v.toInt = 0 → (I' (ad g 4) 0).toInt ≤ 3)) := by
  refine SP_of ⟨by decide, rfl⟩ (Nat.le_of_ble_eq_true rfl) ?_
  have e7326 : I (ad g 1) 1 = L := hI.2
  have b7327 := BT_get hI.1 1 1 2 (0) (0) (900) (by decide) 1 (by decide) (by decide)
  rw [e7326] at b7327
  have fr0 : fz 74 g [4] I I := fz_rf
  have frj0 : fz 74 g [] J J := fz_rf
  obtain ⟨w7328, ew7328⟩ : ∃ w : Int32, I (ad g 27) 1 = w := ⟨_, rfl⟩
  have bw7328 := BT_get hI.1 27 1 2 (0) (0) (4) (by decide) 1 (by decide) (by decide)
  rw [ew7328] at bw7328
  obtain ⟨w7329, ew7329⟩ : ∃ w : Int32, I (ad g 27) 2 = w := ⟨_, rfl⟩
  have bw7329 := BT_get hI.1 27 2 3 (0) (0) (3) (by decide) 2 (by decide) (by decide)
  rw [ew7329] at bw7329
  refine WP_iload_n dX3_faultOfName_0 rfl ?_
  refine WQ_bipush (115) (115) dX3_faultOfName_1 rfl rfl (fun v7330 hv7330 => ?_)
  refine WQ_icmp_eq 12 dX3_faultOfName_3 rfl (fun c7330 => ?_) (fun c7330 => False.elim (by omega))
  refine WQ_iconst (1) (1) dX3_faultOfName_12 rfl rfl (fun v7332 hv7332 => ?_)
  refine WP_goto 17 dX3_faultOfName_13 rfl ?_
  refine WP_istore (ls' := [(0, _), (1, _), (2, _), (3, _), (4, _), (5, _)]) dX3_faultOfName_17 (by decide) rfl ?_
  refine WP_iload dX3_faultOfName_19 rfl ?_
  refine WQ_if_eq 39 dX3_faultOfName_21 rfl (fun c7332 => False.elim (by omega)) (fun c7332 => ?_)
  refine WP_aload dX3_faultOfName_24 rfl ?_
  refine WP_aload_n dX3_faultOfName_26 rfl ?_
  refine WP_getr dX3_faultOfName_27 fX3_15 rfl (lyx_is hy 3 3 rfl) (rfx hr 3 2 1 (by decide)) ?_
  refine WQ_getl dX3_faultOfName_30 fX3_80 rfl (lyx_is hy 1 5 rfl) (fun l7334 el7334 => ?_)
  refine WP_callV1 (k := 7) dX3_faultOfName_33 ⟨⟨⟨by decide, by decide⟩, zX7_sortNamed⟩, lX3_103, by decide, rfl, vX7_sortNamed.1, vX7_sortNamed.2⟩ (lyx_is hy 27 7 rfl) (sx_sortNamed_27 hy hr hI l7334 ) (Nat.le_of_ble_eq_true rfl) ?_
  intro r Ia Ja Ra hq
  obtain ⟨⟨ea, eb, ec⟩, v7335, rfl, av7335, bv7335⟩ := hq
  show WP _ _ _ _ (.int _ :: _) _ _ _ _
  rw [ea, eb, ec]
  clear ea eb ec Ia Ja Ra
  refine WP_goto 51 dX3_faultOfName_36 rfl ?_
  refine WP_istore (ls' := [(0, _), (1, _), (2, _), (3, _), (4, _), (5, _), (6, _)]) dX3_faultOfName_51 (by decide) rfl ?_
  refine WP_iload_n dX3_faultOfName_53 rfl ?_
  refine WQ_bipush (110) (110) dX3_faultOfName_54 rfl rfl (fun v7336 hv7336 => ?_)
  refine WQ_icmp_eq 65 dX3_faultOfName_56 rfl (fun c7336 => False.elim (by omega)) (fun c7336 => ?_)
  refine WP_iload_n dX3_faultOfName_59 rfl ?_
  refine WQ_bipush (109) (109) dX3_faultOfName_60 rfl rfl (fun v7338 hv7338 => ?_)
  refine WQ_icmp_ne 98 dX3_faultOfName_62 rfl (fun c7338 => ?_) (fun c7338 => False.elim (by omega))
  refine WP_iload dX3_faultOfName_98 rfl ?_
  refine WQ_iconst (-1) (-1) dX3_faultOfName_100 rfl rfl (fun v7340 hv7340 => ?_)
  refine WQ_icmp_ne 106 dX3_faultOfName_101 rfl (fun c7340 => ?_) (fun c7340 => ?_)
  · refine WP_aload_n dX3_faultOfName_106 rfl ?_
    refine WP_getr dX3_faultOfName_107 fX3_9 rfl (lyx_is hy 3 3 rfl) (rfx hr 3 3 4 (by decide)) ?_
    refine WP_iload_n dX3_faultOfName_110 rfl ?_
    refine WP_iload dX3_faultOfName_111 rfl ?_
    refine WQ_iast dX3_faultOfName_113 (lyx_is hy 4 13 rfl) (lyx_n hy 4 5 rfl) (by omega) (by omega) (fun I7342 fI7342 => ?_)
    have eI7342 := fI7342
    rw [cl (x := ix) (n := 0) (by omega)] at eI7342
    clear fI7342
    have hI7342 : XI g n L I7342 := by rw [eI7342]; exact (xi_f hy hI (c := 4) (0) (0) (1000) (by decide) (Or.inl (by decide)) (by decide) (by omega) (by omega))
    have e7343 : I7342 (ad g 1) 1 = L := by rw [eI7342, pp_ne _ _ (Or.inl (lyx_ne hy (by decide) (by decide) (by decide)))]; exact e7326
    have e7344 : I7342 (ad g 27) 1 = w7328 := by rw [eI7342, pp_ne _ _ (Or.inl (lyx_ne hy (by decide) (by decide) (by decide)))]; exact ew7328
    have e7345 : I7342 (ad g 27) 2 = w7329 := by rw [eI7342, pp_ne _ _ (Or.inl (lyx_ne hy (by decide) (by decide) (by decide)))]; exact ew7329
    have e7346 : I7342 (ad g 4) 0 = v7335 := by rw [eI7342, pp_self]
    have fr7347 : fz 74 g [4] I I7342 := by rw [eI7342]; exact fzx_pp hy fr0 (by decide) (by decide)
    clear eI7342
    refine WP_iload_n dX3_faultOfName_114 rfl ?_
    refine WQ_bipush (7) (7) dX3_faultOfName_115 rfl rfl (fun v7348 hv7348 => ?_)
    refine WQ_icmp_ne 137 dX3_faultOfName_117 rfl (fun c7348 => False.elim (by omega)) (fun c7348 => ?_)
    refine WP_aload dX3_faultOfName_120 rfl ?_
    refine WQ_bipush (7) (7) dX3_faultOfName_122 rfl rfl (fun v7350 hv7350 => ?_)
    refine WP_iload dX3_faultOfName_124 rfl ?_
    refine WQ_iconst (0) (0) dX3_faultOfName_126 rfl rfl (fun v7351 hv7351 => ?_)
    refine WP_callV3 (k := 7) dX3_faultOfName_127 ⟨⟨⟨by decide, by decide⟩, zX7_isTold⟩, lX3_114, by decide, rfl, vX7_isTold.1, vX7_isTold.2⟩ (lyx_is hy 27 7 rfl) (sx_isTold_27 hy hr hI7342 v7350 v7335 v7351 (by omega) (by omega) (by omega) (by omega) ) (Nat.le_of_ble_eq_true rfl) ?_
    intro r Ia Ja Ra hq
    obtain ⟨⟨ea, eb, ec⟩, v7352, rfl, av7352, bv7352⟩ := hq
    show WP _ _ _ _ (.int _ :: _) _ _ _ _
    rw [ea, eb, ec]
    clear ea eb ec Ia Ja Ra
    refine WQ_if_eq 137 dX3_faultOfName_130 rfl (fun c7352 => ?_) (fun c7352 => ?_)
    · refine WQ_iconst (0) (0) dX3_faultOfName_137 rfl rfl (fun v7354 hv7354 => ?_)
      exact WP_iret dX3_faultOfName_138 rfl ⟨⟨hI7342, rfl, fr7347, frj0, ⟨trivial, (by rw [e7344, ew7328] <;> exact (eq32 _ _).mpr (by omega)), (by rw [e7345, ew7329] <;> exact (eq32 _ _).mpr (by omega))⟩⟩, _, rfl, by omega, by omega, by (try rw [e7346]); omega⟩
    · refine WQ_iconst (3) (3) dX3_faultOfName_133 rfl rfl (fun v7355 hv7355 => ?_)
      refine WP_goto 138 dX3_faultOfName_134 rfl ?_
      exact WP_iret dX3_faultOfName_138 rfl ⟨⟨hI7342, rfl, fr7347, frj0, ⟨trivial, (by rw [e7344, ew7328] <;> exact (eq32 _ _).mpr (by omega)), (by rw [e7345, ew7329] <;> exact (eq32 _ _).mpr (by omega))⟩⟩, _, rfl, by omega, by omega, by (try rw [e7346]); omega⟩
  · refine WQ_iconst (5) (5) dX3_faultOfName_104 rfl rfl (fun v7356 hv7356 => ?_)
    obtain ⟨w7357, ew7357⟩ : ∃ w : Int32, I (ad g 4) 0 = w := ⟨_, rfl⟩
    have bw7357 := BT_get hI.1 4 0 5 (0) (0) (1000) (by decide) 0 (by decide) (by decide)
    rw [ew7357] at bw7357
    exact WP_iret dX3_faultOfName_105 rfl ⟨⟨hI, rfl, fr0, frj0, ⟨trivial, rfl, rfl⟩⟩, _, rfl, by omega, by omega, by (try rw [ew7357]); omega⟩
set_option maxHeartbeats 4000000 in
set_option maxRecDepth 100000 in
theorem sx_part_27_7_1 {g : GG} {n : Int} {L : Int32} (hy : LyX g)  {I : pI} {J : pJ} {R : pR} (hr : RfX g R) (hI : XI g n L I) (pa : Int32) (cz : Int32) (ix : Int32) (pa_lo : 73 ≤ pa.toInt) (pa_hi : pa.toInt ≤ 73) (cz_lo : 7 ≤ cz.toInt) (cz_hi : cz.toInt ≤ 7) (ix_lo : 1 ≤ ix.toInt) (ix_hi : ix.toInt ≤ 1) : SP g mX3_faultOfNumber [.ref (ad g 3), .int pa, .int cz, .int ix, .ref (ad g 27)] I J R (fun r I' J' R' => (XI g n L I' ∧ R' = R ∧ fz 74 g [4] I I' ∧ fz 74 g [] J J' ∧ True ∧ I' (ad g 4) 0 = I (ad g 4) 0 ∧ I' (ad g 27) 1 = I (ad g 27) 1 ∧ I' (ad g 27) 2 = I (ad g 27) 2) ∧ ∃ v : Int32, r = some (.int v) ∧ 0 ≤ v.toInt ∧ v.toInt ≤ 5 ∧ (v.toInt = 0 → (I' (ad g 4) 1).toInt ≤ 127)) := by
  refine SP_of ⟨by decide, rfl⟩ (Nat.le_of_ble_eq_true rfl) ?_
  have e7358 : I (ad g 1) 1 = L := hI.2
  have b7359 := BT_get hI.1 1 1 2 (0) (0) (900) (by decide) 1 (by decide) (by decide)
  rw [e7358] at b7359
  have fr0 : fz 74 g [4] I I := fz_rf
  have frj0 : fz 74 g [] J J := fz_rf
  obtain ⟨w7360, ew7360⟩ : ∃ w : Int32, I (ad g 4) 0 = w := ⟨_, rfl⟩
  have bw7360 := BT_get hI.1 4 0 5 (0) (0) (1000) (by decide) 0 (by decide) (by decide)
  rw [ew7360] at bw7360
  obtain ⟨w7361, ew7361⟩ : ∃ w : Int32, I (ad g 27) 1 = w := ⟨_, rfl⟩
  have bw7361 := BT_get hI.1 27 1 2 (0) (0) (4) (by decide) 1 (by decide) (by decide)
  rw [ew7361] at bw7361
  obtain ⟨w7362, ew7362⟩ : ∃ w : Int32, I (ad g 27) 2 = w := ⟨_, rfl⟩
  have bw7362 := BT_get hI.1 27 2 3 (0) (0) (3) (by decide) 2 (by decide) (by decide)
  rw [ew7362] at bw7362
  refine WP_aload_n dX3_faultOfNumber_0 rfl ?_
  refine WP_getr dX3_faultOfNumber_1 fX3_15 rfl (lyx_is hy 3 3 rfl) (rfx hr 3 2 1 (by decide)) ?_
  refine WQ_getiu dX3_faultOfNumber_4 fX3_118 rfl (lyx_is hy 1 5 rfl) (fun v7363 ev7363 => ?_)
  refine WP_istore (ls' := [(0, _), (1, _), (2, _), (3, _), (4, _), (5, _)]) dX3_faultOfNumber_7 (by decide) rfl ?_
  refine WP_iload dX3_faultOfNumber_9 rfl ?_
  refine WP_iload_n dX3_faultOfNumber_11 rfl ?_
  refine WP_callS1 dX3_faultOfNumber_12 ⟨⟨⟨by decide, by decide⟩, zX3_leastOf⟩, lX3_121, tX3_leastOf⟩ (sx_leastOf hy hr hI pa ) (Nat.le_of_ble_eq_true rfl) ?_
  intro r Ia Ja Ra hq
  obtain ⟨⟨ea, eb, ec⟩, v7364, rfl, av7364, bv7364⟩ := hq
  show WP _ _ _ _ (.int _ :: _) _ _ _ _
  rw [ea, eb, ec]
  clear ea eb ec Ia Ja Ra
  refine WQ_icmp_lt 27 dX3_faultOfNumber_15 rfl (fun c7364 => ?_) (fun c7364 => ?_)
  · refine WQ_iconst (2) (2) dX3_faultOfNumber_27 rfl rfl (fun v7366 hv7366 => ?_)
    obtain ⟨w7367, ew7367⟩ : ∃ w : Int32, I (ad g 4) 1 = w := ⟨_, rfl⟩
    have bw7367 := BT_get hI.1 4 0 5 (0) (0) (1000) (by decide) 1 (by decide) (by decide)
    rw [ew7367] at bw7367
    exact WP_iret dX3_faultOfNumber_28 rfl ⟨⟨hI, rfl, fr0, frj0, ⟨trivial, rfl, rfl, rfl⟩⟩, _, rfl, by omega, by omega, by (try rw [ew7367]); omega⟩
  · refine WP_iload dX3_faultOfNumber_18 rfl ?_
    refine WP_iload_n dX3_faultOfNumber_20 rfl ?_
    refine WP_callS1 dX3_faultOfNumber_21 ⟨⟨⟨by decide, by decide⟩, zX3_mostOf⟩, lX3_125, tX3_mostOf⟩ (sx_mostOf hy hr hI pa ) (Nat.le_of_ble_eq_true rfl) ?_
    intro r Ia Ja Ra hq
    obtain ⟨⟨ea, eb, ec⟩, v7368, rfl, av7368, bv7368, cv7368⟩ := hq
    show WP _ _ _ _ (.int _ :: _) _ _ _ _
    rw [ea, eb, ec]
    clear ea eb ec Ia Ja Ra
    refine WQ_icmp_le 29 dX3_faultOfNumber_24 rfl (fun c7368 => ?_) (fun c7368 => ?_)
    · refine WP_aload_n dX3_faultOfNumber_29 rfl ?_
      refine WP_getr dX3_faultOfNumber_30 fX3_9 rfl (lyx_is hy 3 3 rfl) (rfx hr 3 3 4 (by decide)) ?_
      refine WP_iload_n dX3_faultOfNumber_33 rfl ?_
      refine WP_iload dX3_faultOfNumber_34 rfl ?_
      refine WQ_iast dX3_faultOfNumber_36 (lyx_is hy 4 13 rfl) (lyx_n hy 4 5 rfl) (by omega) (by omega) (fun I7370 fI7370 => ?_)
      have eI7370 := fI7370
      rw [cl (x := ix) (n := 1) (by omega)] at eI7370
      clear fI7370
      have hI7370 : XI g n L I7370 := by rw [eI7370]; exact (xi_f hy hI (c := 4) (0) (0) (1000) (by decide) (Or.inl (by decide)) (by decide) (by omega) (by omega))
      have e7371 : I7370 (ad g 1) 1 = L := by rw [eI7370, pp_ne _ _ (Or.inl (lyx_ne hy (by decide) (by decide) (by decide)))]; exact e7358
      have e7372 : I7370 (ad g 4) 0 = w7360 := by rw [eI7370, pp_ne _ _ (Or.inr (by decide))]; exact ew7360
      have e7373 : I7370 (ad g 27) 1 = w7361 := by rw [eI7370, pp_ne _ _ (Or.inl (lyx_ne hy (by decide) (by decide) (by decide)))]; exact ew7361
      have e7374 : I7370 (ad g 27) 2 = w7362 := by rw [eI7370, pp_ne _ _ (Or.inl (lyx_ne hy (by decide) (by decide) (by decide)))]; exact ew7362
      have e7375 : I7370 (ad g 1) 4 = v7363 := by rw [eI7370, pp_ne _ _ (Or.inl (lyx_ne hy (by decide) (by decide) (by decide)))]; exact ev7363
      have e7376 : I7370 (ad g 4) 1 = v7363 := by rw [eI7370, pp_self]
      have fr7377 : fz 74 g [4] I I7370 := by rw [eI7370]; exact fzx_pp hy fr0 (by decide) (by decide)
      clear eI7370
      refine WP_iload_n dX3_faultOfNumber_37 rfl ?_
      refine WQ_bipush (68) (68) dX3_faultOfNumber_38 rfl rfl (fun v7378 hv7378 => ?_)
      refine WQ_icmp_eq 45 dX3_faultOfNumber_40 rfl (fun c7378 => False.elim (by omega)) (fun c7378 => ?_)
      refine WQ_iconst (0) (0) dX3_faultOfNumber_43 rfl rfl (fun v7380 hv7380 => ?_)
      exact WP_iret dX3_faultOfNumber_44 rfl ⟨⟨hI7370, rfl, fr7377, frj0, ⟨trivial, (by rw [e7372, ew7360] <;> exact (eq32 _ _).mpr (by omega)), (by rw [e7373, ew7361] <;> exact (eq32 _ _).mpr (by omega)), (by rw [e7374, ew7362] <;> exact (eq32 _ _).mpr (by omega))⟩⟩, _, rfl, by omega, by omega, by (try rw [e7376]); omega⟩
    · refine WQ_iconst (2) (2) dX3_faultOfNumber_27 rfl rfl (fun v7381 hv7381 => ?_)
      obtain ⟨w7382, ew7382⟩ : ∃ w : Int32, I (ad g 4) 1 = w := ⟨_, rfl⟩
      have bw7382 := BT_get hI.1 4 0 5 (0) (0) (1000) (by decide) 1 (by decide) (by decide)
      rw [ew7382] at bw7382
      exact WP_iret dX3_faultOfNumber_28 rfl ⟨⟨hI, rfl, fr0, frj0, ⟨trivial, rfl, rfl, rfl⟩⟩, _, rfl, by omega, by omega, by (try rw [ew7382]); omega⟩
set_option maxHeartbeats 4000000 in
set_option maxRecDepth 100000 in
theorem sx_part_27_8_0 {g : GG} {n : Int} {L : Int32} (hy : LyX g)  {I : pI} {J : pJ} {R : pR} (hr : RfX g R) (hI : XI g n L I) (pa : Int32) (cz : Int32) (ix : Int32) (pa_lo : 115 ≤ pa.toInt) (pa_hi : pa.toInt ≤ 115) (cz_lo : 8 ≤ cz.toInt) (cz_hi : cz.toInt ≤ 8) (ix_lo : 0 ≤ ix.toInt) (ix_hi : ix.toInt ≤ 0) : SP g mX3_faultOfName [.ref (ad g 3), .int pa, .int cz, .int ix, .ref (ad g 27)] I J R (fun r I' J' R' => (XI g n L I' ∧ R' = R ∧ fz 74 g [4] I I' ∧ fz 74 g [] J J' ∧ True ∧ I' (ad g 27) 1 = I (ad g 27) 1 ∧ I' (ad g 27) 2 = I (ad g 27) 2) ∧ ∃ v : Int32, r = some (.int v) ∧ 0 ≤ v.toInt ∧ v.toInt ≤ 5 ∧ (v.toInt = 0 → (I' (ad g 4) 0).toInt ≤ 3)) := by
  refine SP_of ⟨by decide, rfl⟩ (Nat.le_of_ble_eq_true rfl) ?_
  have e7383 : I (ad g 1) 1 = L := hI.2
  have b7384 := BT_get hI.1 1 1 2 (0) (0) (900) (by decide) 1 (by decide) (by decide)
  rw [e7383] at b7384
  have fr0 : fz 74 g [4] I I := fz_rf
  have frj0 : fz 74 g [] J J := fz_rf
  obtain ⟨w7385, ew7385⟩ : ∃ w : Int32, I (ad g 27) 1 = w := ⟨_, rfl⟩
  have bw7385 := BT_get hI.1 27 1 2 (0) (0) (4) (by decide) 1 (by decide) (by decide)
  rw [ew7385] at bw7385
  obtain ⟨w7386, ew7386⟩ : ∃ w : Int32, I (ad g 27) 2 = w := ⟨_, rfl⟩
  have bw7386 := BT_get hI.1 27 2 3 (0) (0) (3) (by decide) 2 (by decide) (by decide)
  rw [ew7386] at bw7386
  refine WP_iload_n dX3_faultOfName_0 rfl ?_
  refine WQ_bipush (115) (115) dX3_faultOfName_1 rfl rfl (fun v7387 hv7387 => ?_)
  refine WQ_icmp_eq 12 dX3_faultOfName_3 rfl (fun c7387 => ?_) (fun c7387 => False.elim (by omega))
  refine WQ_iconst (1) (1) dX3_faultOfName_12 rfl rfl (fun v7389 hv7389 => ?_)
  refine WP_goto 17 dX3_faultOfName_13 rfl ?_
  refine WP_istore (ls' := [(0, _), (1, _), (2, _), (3, _), (4, _), (5, _)]) dX3_faultOfName_17 (by decide) rfl ?_
  refine WP_iload dX3_faultOfName_19 rfl ?_
  refine WQ_if_eq 39 dX3_faultOfName_21 rfl (fun c7389 => False.elim (by omega)) (fun c7389 => ?_)
  refine WP_aload dX3_faultOfName_24 rfl ?_
  refine WP_aload_n dX3_faultOfName_26 rfl ?_
  refine WP_getr dX3_faultOfName_27 fX3_15 rfl (lyx_is hy 3 3 rfl) (rfx hr 3 2 1 (by decide)) ?_
  refine WQ_getl dX3_faultOfName_30 fX3_80 rfl (lyx_is hy 1 5 rfl) (fun l7391 el7391 => ?_)
  refine WP_callV1 (k := 7) dX3_faultOfName_33 ⟨⟨⟨by decide, by decide⟩, zX7_sortNamed⟩, lX3_103, by decide, rfl, vX7_sortNamed.1, vX7_sortNamed.2⟩ (lyx_is hy 27 7 rfl) (sx_sortNamed_27 hy hr hI l7391 ) (Nat.le_of_ble_eq_true rfl) ?_
  intro r Ia Ja Ra hq
  obtain ⟨⟨ea, eb, ec⟩, v7392, rfl, av7392, bv7392⟩ := hq
  show WP _ _ _ _ (.int _ :: _) _ _ _ _
  rw [ea, eb, ec]
  clear ea eb ec Ia Ja Ra
  refine WP_goto 51 dX3_faultOfName_36 rfl ?_
  refine WP_istore (ls' := [(0, _), (1, _), (2, _), (3, _), (4, _), (5, _), (6, _)]) dX3_faultOfName_51 (by decide) rfl ?_
  refine WP_iload_n dX3_faultOfName_53 rfl ?_
  refine WQ_bipush (110) (110) dX3_faultOfName_54 rfl rfl (fun v7393 hv7393 => ?_)
  refine WQ_icmp_eq 65 dX3_faultOfName_56 rfl (fun c7393 => False.elim (by omega)) (fun c7393 => ?_)
  refine WP_iload_n dX3_faultOfName_59 rfl ?_
  refine WQ_bipush (109) (109) dX3_faultOfName_60 rfl rfl (fun v7395 hv7395 => ?_)
  refine WQ_icmp_ne 98 dX3_faultOfName_62 rfl (fun c7395 => ?_) (fun c7395 => False.elim (by omega))
  refine WP_iload dX3_faultOfName_98 rfl ?_
  refine WQ_iconst (-1) (-1) dX3_faultOfName_100 rfl rfl (fun v7397 hv7397 => ?_)
  refine WQ_icmp_ne 106 dX3_faultOfName_101 rfl (fun c7397 => ?_) (fun c7397 => ?_)
  · refine WP_aload_n dX3_faultOfName_106 rfl ?_
    refine WP_getr dX3_faultOfName_107 fX3_9 rfl (lyx_is hy 3 3 rfl) (rfx hr 3 3 4 (by decide)) ?_
    refine WP_iload_n dX3_faultOfName_110 rfl ?_
    refine WP_iload dX3_faultOfName_111 rfl ?_
    refine WQ_iast dX3_faultOfName_113 (lyx_is hy 4 13 rfl) (lyx_n hy 4 5 rfl) (by omega) (by omega) (fun I7399 fI7399 => ?_)
    have eI7399 := fI7399
    rw [cl (x := ix) (n := 0) (by omega)] at eI7399
    clear fI7399
    have hI7399 : XI g n L I7399 := by rw [eI7399]; exact (xi_f hy hI (c := 4) (0) (0) (1000) (by decide) (Or.inl (by decide)) (by decide) (by omega) (by omega))
    have e7400 : I7399 (ad g 1) 1 = L := by rw [eI7399, pp_ne _ _ (Or.inl (lyx_ne hy (by decide) (by decide) (by decide)))]; exact e7383
    have e7401 : I7399 (ad g 27) 1 = w7385 := by rw [eI7399, pp_ne _ _ (Or.inl (lyx_ne hy (by decide) (by decide) (by decide)))]; exact ew7385
    have e7402 : I7399 (ad g 27) 2 = w7386 := by rw [eI7399, pp_ne _ _ (Or.inl (lyx_ne hy (by decide) (by decide) (by decide)))]; exact ew7386
    have e7403 : I7399 (ad g 4) 0 = v7392 := by rw [eI7399, pp_self]
    have fr7404 : fz 74 g [4] I I7399 := by rw [eI7399]; exact fzx_pp hy fr0 (by decide) (by decide)
    clear eI7399
    refine WP_iload_n dX3_faultOfName_114 rfl ?_
    refine WQ_bipush (7) (7) dX3_faultOfName_115 rfl rfl (fun v7405 hv7405 => ?_)
    refine WQ_icmp_ne 137 dX3_faultOfName_117 rfl (fun c7405 => ?_) (fun c7405 => False.elim (by omega))
    refine WQ_iconst (0) (0) dX3_faultOfName_137 rfl rfl (fun v7407 hv7407 => ?_)
    exact WP_iret dX3_faultOfName_138 rfl ⟨⟨hI7399, rfl, fr7404, frj0, ⟨trivial, (by rw [e7401, ew7385] <;> exact (eq32 _ _).mpr (by omega)), (by rw [e7402, ew7386] <;> exact (eq32 _ _).mpr (by omega))⟩⟩, _, rfl, by omega, by omega, by (try rw [e7403]); omega⟩
  · refine WQ_iconst (5) (5) dX3_faultOfName_104 rfl rfl (fun v7408 hv7408 => ?_)
    obtain ⟨w7409, ew7409⟩ : ∃ w : Int32, I (ad g 4) 0 = w := ⟨_, rfl⟩
    have bw7409 := BT_get hI.1 4 0 5 (0) (0) (1000) (by decide) 0 (by decide) (by decide)
    rw [ew7409] at bw7409
    exact WP_iret dX3_faultOfName_105 rfl ⟨⟨hI, rfl, fr0, frj0, ⟨trivial, rfl, rfl⟩⟩, _, rfl, by omega, by omega, by (try rw [ew7409]); omega⟩
set_option maxHeartbeats 4000000 in
set_option maxRecDepth 100000 in
theorem sx_part_27_9_0 {g : GG} {n : Int} {L : Int32} (hy : LyX g)  {I : pI} {J : pJ} {R : pR} (hr : RfX g R) (hI : XI g n L I) (pa : Int32) (cz : Int32) (ix : Int32) (pa_lo : 116 ≤ pa.toInt) (pa_hi : pa.toInt ≤ 116) (cz_lo : 9 ≤ cz.toInt) (cz_hi : cz.toInt ≤ 9) (ix_lo : 0 ≤ ix.toInt) (ix_hi : ix.toInt ≤ 0) : SP g mX3_faultOfName [.ref (ad g 3), .int pa, .int cz, .int ix, .ref (ad g 27)] I J R (fun r I' J' R' => (XI g n L I' ∧ R' = R ∧ fz 74 g [4] I I' ∧ fz 74 g [] J J' ∧ True ∧ I' (ad g 27) 1 = I (ad g 27) 1 ∧ I' (ad g 27) 2 = I (ad g 27) 2) ∧ ∃ v : Int32, r = some (.int v) ∧ 0 ≤ v.toInt ∧ v.toInt ≤ 5 ∧ (v.toInt = 0 → (I' (ad g 4) 0).toInt ≤ 2)) := by
  refine SP_of ⟨by decide, rfl⟩ (Nat.le_of_ble_eq_true rfl) ?_
  have e7410 : I (ad g 1) 1 = L := hI.2
  have b7411 := BT_get hI.1 1 1 2 (0) (0) (900) (by decide) 1 (by decide) (by decide)
  rw [e7410] at b7411
  have fr0 : fz 74 g [4] I I := fz_rf
  have frj0 : fz 74 g [] J J := fz_rf
  obtain ⟨w7412, ew7412⟩ : ∃ w : Int32, I (ad g 27) 1 = w := ⟨_, rfl⟩
  have bw7412 := BT_get hI.1 27 1 2 (0) (0) (4) (by decide) 1 (by decide) (by decide)
  rw [ew7412] at bw7412
  obtain ⟨w7413, ew7413⟩ : ∃ w : Int32, I (ad g 27) 2 = w := ⟨_, rfl⟩
  have bw7413 := BT_get hI.1 27 2 3 (0) (0) (3) (by decide) 2 (by decide) (by decide)
  rw [ew7413] at bw7413
  refine WP_iload_n dX3_faultOfName_0 rfl ?_
  refine WQ_bipush (115) (115) dX3_faultOfName_1 rfl rfl (fun v7414 hv7414 => ?_)
  refine WQ_icmp_eq 12 dX3_faultOfName_3 rfl (fun c7414 => False.elim (by omega)) (fun c7414 => ?_)
  refine WP_iload_n dX3_faultOfName_6 rfl ?_
  refine WQ_bipush (110) (110) dX3_faultOfName_7 rfl rfl (fun v7416 hv7416 => ?_)
  refine WQ_icmp_ne 16 dX3_faultOfName_9 rfl (fun c7416 => ?_) (fun c7416 => False.elim (by omega))
  refine WQ_iconst (0) (0) dX3_faultOfName_16 rfl rfl (fun v7418 hv7418 => ?_)
  refine WP_istore (ls' := [(0, _), (1, _), (2, _), (3, _), (4, _), (5, _)]) dX3_faultOfName_17 (by decide) rfl ?_
  refine WP_iload dX3_faultOfName_19 rfl ?_
  refine WQ_if_eq 39 dX3_faultOfName_21 rfl (fun c7418 => ?_) (fun c7418 => False.elim (by omega))
  refine WP_aload dX3_faultOfName_39 rfl ?_
  refine WP_aload_n dX3_faultOfName_41 rfl ?_
  refine WP_getr dX3_faultOfName_42 fX3_15 rfl (lyx_is hy 3 3 rfl) (rfx hr 3 2 1 (by decide)) ?_
  refine WQ_getl dX3_faultOfName_45 fX3_80 rfl (lyx_is hy 1 5 rfl) (fun l7420 el7420 => ?_)
  refine WP_callV1 (k := 7) dX3_faultOfName_48 ⟨⟨⟨by decide, by decide⟩, zX7_thingNamed⟩, lX3_107, by decide, rfl, vX7_thingNamed.1, vX7_thingNamed.2⟩ (lyx_is hy 27 7 rfl) (sx_thingNamed_27 hy hr hI l7420 ) (Nat.le_of_ble_eq_true rfl) ?_
  intro r Ia Ja Ra hq
  obtain ⟨⟨ea, eb, ec⟩, v7421, rfl, av7421, bv7421⟩ := hq
  show WP _ _ _ _ (.int _ :: _) _ _ _ _
  rw [ea, eb, ec]
  clear ea eb ec Ia Ja Ra
  refine WP_istore (ls' := [(0, _), (1, _), (2, _), (3, _), (4, _), (5, _), (6, _)]) dX3_faultOfName_51 (by decide) rfl ?_
  refine WP_iload_n dX3_faultOfName_53 rfl ?_
  refine WQ_bipush (110) (110) dX3_faultOfName_54 rfl rfl (fun v7422 hv7422 => ?_)
  refine WQ_icmp_eq 65 dX3_faultOfName_56 rfl (fun c7422 => False.elim (by omega)) (fun c7422 => ?_)
  refine WP_iload_n dX3_faultOfName_59 rfl ?_
  refine WQ_bipush (109) (109) dX3_faultOfName_60 rfl rfl (fun v7424 hv7424 => ?_)
  refine WQ_icmp_ne 98 dX3_faultOfName_62 rfl (fun c7424 => ?_) (fun c7424 => False.elim (by omega))
  refine WP_iload dX3_faultOfName_98 rfl ?_
  refine WQ_iconst (-1) (-1) dX3_faultOfName_100 rfl rfl (fun v7426 hv7426 => ?_)
  refine WQ_icmp_ne 106 dX3_faultOfName_101 rfl (fun c7426 => ?_) (fun c7426 => ?_)
  · refine WP_aload_n dX3_faultOfName_106 rfl ?_
    refine WP_getr dX3_faultOfName_107 fX3_9 rfl (lyx_is hy 3 3 rfl) (rfx hr 3 3 4 (by decide)) ?_
    refine WP_iload_n dX3_faultOfName_110 rfl ?_
    refine WP_iload dX3_faultOfName_111 rfl ?_
    refine WQ_iast dX3_faultOfName_113 (lyx_is hy 4 13 rfl) (lyx_n hy 4 5 rfl) (by omega) (by omega) (fun I7428 fI7428 => ?_)
    have eI7428 := fI7428
    rw [cl (x := ix) (n := 0) (by omega)] at eI7428
    clear fI7428
    have hI7428 : XI g n L I7428 := by rw [eI7428]; exact (xi_f hy hI (c := 4) (0) (0) (1000) (by decide) (Or.inl (by decide)) (by decide) (by omega) (by omega))
    have e7429 : I7428 (ad g 1) 1 = L := by rw [eI7428, pp_ne _ _ (Or.inl (lyx_ne hy (by decide) (by decide) (by decide)))]; exact e7410
    have e7430 : I7428 (ad g 27) 1 = w7412 := by rw [eI7428, pp_ne _ _ (Or.inl (lyx_ne hy (by decide) (by decide) (by decide)))]; exact ew7412
    have e7431 : I7428 (ad g 27) 2 = w7413 := by rw [eI7428, pp_ne _ _ (Or.inl (lyx_ne hy (by decide) (by decide) (by decide)))]; exact ew7413
    have e7432 : I7428 (ad g 4) 0 = v7421 := by rw [eI7428, pp_self]
    have fr7433 : fz 74 g [4] I I7428 := by rw [eI7428]; exact fzx_pp hy fr0 (by decide) (by decide)
    clear eI7428
    refine WP_iload_n dX3_faultOfName_114 rfl ?_
    refine WQ_bipush (7) (7) dX3_faultOfName_115 rfl rfl (fun v7434 hv7434 => ?_)
    refine WQ_icmp_ne 137 dX3_faultOfName_117 rfl (fun c7434 => ?_) (fun c7434 => False.elim (by omega))
    refine WQ_iconst (0) (0) dX3_faultOfName_137 rfl rfl (fun v7436 hv7436 => ?_)
    exact WP_iret dX3_faultOfName_138 rfl ⟨⟨hI7428, rfl, fr7433, frj0, ⟨trivial, (by rw [e7430, ew7412] <;> exact (eq32 _ _).mpr (by omega)), (by rw [e7431, ew7413] <;> exact (eq32 _ _).mpr (by omega))⟩⟩, _, rfl, by omega, by omega, by (try rw [e7432]); omega⟩
  · refine WQ_iconst (5) (5) dX3_faultOfName_104 rfl rfl (fun v7437 hv7437 => ?_)
    obtain ⟨w7438, ew7438⟩ : ∃ w : Int32, I (ad g 4) 0 = w := ⟨_, rfl⟩
    have bw7438 := BT_get hI.1 4 0 5 (0) (0) (1000) (by decide) 0 (by decide) (by decide)
    rw [ew7438] at bw7438
    exact WP_iret dX3_faultOfName_105 rfl ⟨⟨hI, rfl, fr0, frj0, ⟨trivial, rfl, rfl⟩⟩, _, rfl, by omega, by omega, by (try rw [ew7438]); omega⟩
set_option maxHeartbeats 4000000 in
set_option maxRecDepth 100000 in
theorem sx_part_27_10_0 {g : GG} {n : Int} {L : Int32} (hy : LyX g)  {I : pI} {J : pJ} {R : pR} (hr : RfX g R) (hI : XI g n L I) (pa : Int32) (cz : Int32) (ix : Int32) (pa_lo : 115 ≤ pa.toInt) (pa_hi : pa.toInt ≤ 115) (cz_lo : 10 ≤ cz.toInt) (cz_hi : cz.toInt ≤ 10) (ix_lo : 0 ≤ ix.toInt) (ix_hi : ix.toInt ≤ 0) : SP g mX3_faultOfName [.ref (ad g 3), .int pa, .int cz, .int ix, .ref (ad g 27)] I J R (fun r I' J' R' => (XI g n L I' ∧ R' = R ∧ fz 74 g [4] I I' ∧ fz 74 g [] J J' ∧ True ∧ I' (ad g 27) 1 = I (ad g 27) 1 ∧ I' (ad g 27) 2 = I (ad g 27) 2) ∧ ∃ v : Int32, r = some (.int v) ∧ 0 ≤ v.toInt ∧ v.toInt ≤ 5 ∧ (v.toInt = 0 → (I' (ad g 4) 0).toInt ≤ 3)) := by
  refine SP_of ⟨by decide, rfl⟩ (Nat.le_of_ble_eq_true rfl) ?_
  have e7439 : I (ad g 1) 1 = L := hI.2
  have b7440 := BT_get hI.1 1 1 2 (0) (0) (900) (by decide) 1 (by decide) (by decide)
  rw [e7439] at b7440
  have fr0 : fz 74 g [4] I I := fz_rf
  have frj0 : fz 74 g [] J J := fz_rf
  obtain ⟨w7441, ew7441⟩ : ∃ w : Int32, I (ad g 27) 1 = w := ⟨_, rfl⟩
  have bw7441 := BT_get hI.1 27 1 2 (0) (0) (4) (by decide) 1 (by decide) (by decide)
  rw [ew7441] at bw7441
  obtain ⟨w7442, ew7442⟩ : ∃ w : Int32, I (ad g 27) 2 = w := ⟨_, rfl⟩
  have bw7442 := BT_get hI.1 27 2 3 (0) (0) (3) (by decide) 2 (by decide) (by decide)
  rw [ew7442] at bw7442
  refine WP_iload_n dX3_faultOfName_0 rfl ?_
  refine WQ_bipush (115) (115) dX3_faultOfName_1 rfl rfl (fun v7443 hv7443 => ?_)
  refine WQ_icmp_eq 12 dX3_faultOfName_3 rfl (fun c7443 => ?_) (fun c7443 => False.elim (by omega))
  refine WQ_iconst (1) (1) dX3_faultOfName_12 rfl rfl (fun v7445 hv7445 => ?_)
  refine WP_goto 17 dX3_faultOfName_13 rfl ?_
  refine WP_istore (ls' := [(0, _), (1, _), (2, _), (3, _), (4, _), (5, _)]) dX3_faultOfName_17 (by decide) rfl ?_
  refine WP_iload dX3_faultOfName_19 rfl ?_
  refine WQ_if_eq 39 dX3_faultOfName_21 rfl (fun c7445 => False.elim (by omega)) (fun c7445 => ?_)
  refine WP_aload dX3_faultOfName_24 rfl ?_
  refine WP_aload_n dX3_faultOfName_26 rfl ?_
  refine WP_getr dX3_faultOfName_27 fX3_15 rfl (lyx_is hy 3 3 rfl) (rfx hr 3 2 1 (by decide)) ?_
  refine WQ_getl dX3_faultOfName_30 fX3_80 rfl (lyx_is hy 1 5 rfl) (fun l7447 el7447 => ?_)
  refine WP_callV1 (k := 7) dX3_faultOfName_33 ⟨⟨⟨by decide, by decide⟩, zX7_sortNamed⟩, lX3_103, by decide, rfl, vX7_sortNamed.1, vX7_sortNamed.2⟩ (lyx_is hy 27 7 rfl) (sx_sortNamed_27 hy hr hI l7447 ) (Nat.le_of_ble_eq_true rfl) ?_
  intro r Ia Ja Ra hq
  obtain ⟨⟨ea, eb, ec⟩, v7448, rfl, av7448, bv7448⟩ := hq
  show WP _ _ _ _ (.int _ :: _) _ _ _ _
  rw [ea, eb, ec]
  clear ea eb ec Ia Ja Ra
  refine WP_goto 51 dX3_faultOfName_36 rfl ?_
  refine WP_istore (ls' := [(0, _), (1, _), (2, _), (3, _), (4, _), (5, _), (6, _)]) dX3_faultOfName_51 (by decide) rfl ?_
  refine WP_iload_n dX3_faultOfName_53 rfl ?_
  refine WQ_bipush (110) (110) dX3_faultOfName_54 rfl rfl (fun v7449 hv7449 => ?_)
  refine WQ_icmp_eq 65 dX3_faultOfName_56 rfl (fun c7449 => False.elim (by omega)) (fun c7449 => ?_)
  refine WP_iload_n dX3_faultOfName_59 rfl ?_
  refine WQ_bipush (109) (109) dX3_faultOfName_60 rfl rfl (fun v7451 hv7451 => ?_)
  refine WQ_icmp_ne 98 dX3_faultOfName_62 rfl (fun c7451 => ?_) (fun c7451 => False.elim (by omega))
  refine WP_iload dX3_faultOfName_98 rfl ?_
  refine WQ_iconst (-1) (-1) dX3_faultOfName_100 rfl rfl (fun v7453 hv7453 => ?_)
  refine WQ_icmp_ne 106 dX3_faultOfName_101 rfl (fun c7453 => ?_) (fun c7453 => ?_)
  · refine WP_aload_n dX3_faultOfName_106 rfl ?_
    refine WP_getr dX3_faultOfName_107 fX3_9 rfl (lyx_is hy 3 3 rfl) (rfx hr 3 3 4 (by decide)) ?_
    refine WP_iload_n dX3_faultOfName_110 rfl ?_
    refine WP_iload dX3_faultOfName_111 rfl ?_
    refine WQ_iast dX3_faultOfName_113 (lyx_is hy 4 13 rfl) (lyx_n hy 4 5 rfl) (by omega) (by omega) (fun I7455 fI7455 => ?_)
    have eI7455 := fI7455
    rw [cl (x := ix) (n := 0) (by omega)] at eI7455
    clear fI7455
    have hI7455 : XI g n L I7455 := by rw [eI7455]; exact (xi_f hy hI (c := 4) (0) (0) (1000) (by decide) (Or.inl (by decide)) (by decide) (by omega) (by omega))
    have e7456 : I7455 (ad g 1) 1 = L := by rw [eI7455, pp_ne _ _ (Or.inl (lyx_ne hy (by decide) (by decide) (by decide)))]; exact e7439
    have e7457 : I7455 (ad g 27) 1 = w7441 := by rw [eI7455, pp_ne _ _ (Or.inl (lyx_ne hy (by decide) (by decide) (by decide)))]; exact ew7441
    have e7458 : I7455 (ad g 27) 2 = w7442 := by rw [eI7455, pp_ne _ _ (Or.inl (lyx_ne hy (by decide) (by decide) (by decide)))]; exact ew7442
    have e7459 : I7455 (ad g 4) 0 = v7448 := by rw [eI7455, pp_self]
    have fr7460 : fz 74 g [4] I I7455 := by rw [eI7455]; exact fzx_pp hy fr0 (by decide) (by decide)
    clear eI7455
    refine WP_iload_n dX3_faultOfName_114 rfl ?_
    refine WQ_bipush (7) (7) dX3_faultOfName_115 rfl rfl (fun v7461 hv7461 => ?_)
    refine WQ_icmp_ne 137 dX3_faultOfName_117 rfl (fun c7461 => ?_) (fun c7461 => False.elim (by omega))
    refine WQ_iconst (0) (0) dX3_faultOfName_137 rfl rfl (fun v7463 hv7463 => ?_)
    exact WP_iret dX3_faultOfName_138 rfl ⟨⟨hI7455, rfl, fr7460, frj0, ⟨trivial, (by rw [e7457, ew7441] <;> exact (eq32 _ _).mpr (by omega)), (by rw [e7458, ew7442] <;> exact (eq32 _ _).mpr (by omega))⟩⟩, _, rfl, by omega, by omega, by (try rw [e7459]); omega⟩
  · refine WQ_iconst (5) (5) dX3_faultOfName_104 rfl rfl (fun v7464 hv7464 => ?_)
    obtain ⟨w7465, ew7465⟩ : ∃ w : Int32, I (ad g 4) 0 = w := ⟨_, rfl⟩
    have bw7465 := BT_get hI.1 4 0 5 (0) (0) (1000) (by decide) 0 (by decide) (by decide)
    rw [ew7465] at bw7465
    exact WP_iret dX3_faultOfName_105 rfl ⟨⟨hI, rfl, fr0, frj0, ⟨trivial, rfl, rfl⟩⟩, _, rfl, by omega, by omega, by (try rw [ew7465]); omega⟩
set_option maxHeartbeats 4000000 in
set_option maxRecDepth 100000 in
theorem sx_part_27_10_1 {g : GG} {n : Int} {L : Int32} (hy : LyX g)  {I : pI} {J : pJ} {R : pR} (hr : RfX g R) (hI : XI g n L I) (pa : Int32) (cz : Int32) (ix : Int32) (pa_lo : 116 ≤ pa.toInt) (pa_hi : pa.toInt ≤ 116) (cz_lo : 10 ≤ cz.toInt) (cz_hi : cz.toInt ≤ 10) (ix_lo : 1 ≤ ix.toInt) (ix_hi : ix.toInt ≤ 1) : SP g mX3_faultOfName [.ref (ad g 3), .int pa, .int cz, .int ix, .ref (ad g 27)] I J R (fun r I' J' R' => (XI g n L I' ∧ R' = R ∧ fz 74 g [4] I I' ∧ fz 74 g [] J J' ∧ True ∧ I' (ad g 4) 0 = I (ad g 4) 0 ∧ I' (ad g 27) 1 = I (ad g 27) 1 ∧ I' (ad g 27) 2 = I (ad g 27) 2) ∧ ∃ v : Int32, r = some (.int v) ∧ 0 ≤ v.toInt ∧ v.toInt ≤ 5 ∧ (v.toInt = 0 → (I' (ad g 4) 1).toInt ≤ 2)) := by
  refine SP_of ⟨by decide, rfl⟩ (Nat.le_of_ble_eq_true rfl) ?_
  have e7466 : I (ad g 1) 1 = L := hI.2
  have b7467 := BT_get hI.1 1 1 2 (0) (0) (900) (by decide) 1 (by decide) (by decide)
  rw [e7466] at b7467
  have fr0 : fz 74 g [4] I I := fz_rf
  have frj0 : fz 74 g [] J J := fz_rf
  obtain ⟨w7468, ew7468⟩ : ∃ w : Int32, I (ad g 4) 0 = w := ⟨_, rfl⟩
  have bw7468 := BT_get hI.1 4 0 5 (0) (0) (1000) (by decide) 0 (by decide) (by decide)
  rw [ew7468] at bw7468
  obtain ⟨w7469, ew7469⟩ : ∃ w : Int32, I (ad g 27) 1 = w := ⟨_, rfl⟩
  have bw7469 := BT_get hI.1 27 1 2 (0) (0) (4) (by decide) 1 (by decide) (by decide)
  rw [ew7469] at bw7469
  obtain ⟨w7470, ew7470⟩ : ∃ w : Int32, I (ad g 27) 2 = w := ⟨_, rfl⟩
  have bw7470 := BT_get hI.1 27 2 3 (0) (0) (3) (by decide) 2 (by decide) (by decide)
  rw [ew7470] at bw7470
  refine WP_iload_n dX3_faultOfName_0 rfl ?_
  refine WQ_bipush (115) (115) dX3_faultOfName_1 rfl rfl (fun v7471 hv7471 => ?_)
  refine WQ_icmp_eq 12 dX3_faultOfName_3 rfl (fun c7471 => False.elim (by omega)) (fun c7471 => ?_)
  refine WP_iload_n dX3_faultOfName_6 rfl ?_
  refine WQ_bipush (110) (110) dX3_faultOfName_7 rfl rfl (fun v7473 hv7473 => ?_)
  refine WQ_icmp_ne 16 dX3_faultOfName_9 rfl (fun c7473 => ?_) (fun c7473 => False.elim (by omega))
  refine WQ_iconst (0) (0) dX3_faultOfName_16 rfl rfl (fun v7475 hv7475 => ?_)
  refine WP_istore (ls' := [(0, _), (1, _), (2, _), (3, _), (4, _), (5, _)]) dX3_faultOfName_17 (by decide) rfl ?_
  refine WP_iload dX3_faultOfName_19 rfl ?_
  refine WQ_if_eq 39 dX3_faultOfName_21 rfl (fun c7475 => ?_) (fun c7475 => False.elim (by omega))
  refine WP_aload dX3_faultOfName_39 rfl ?_
  refine WP_aload_n dX3_faultOfName_41 rfl ?_
  refine WP_getr dX3_faultOfName_42 fX3_15 rfl (lyx_is hy 3 3 rfl) (rfx hr 3 2 1 (by decide)) ?_
  refine WQ_getl dX3_faultOfName_45 fX3_80 rfl (lyx_is hy 1 5 rfl) (fun l7477 el7477 => ?_)
  refine WP_callV1 (k := 7) dX3_faultOfName_48 ⟨⟨⟨by decide, by decide⟩, zX7_thingNamed⟩, lX3_107, by decide, rfl, vX7_thingNamed.1, vX7_thingNamed.2⟩ (lyx_is hy 27 7 rfl) (sx_thingNamed_27 hy hr hI l7477 ) (Nat.le_of_ble_eq_true rfl) ?_
  intro r Ia Ja Ra hq
  obtain ⟨⟨ea, eb, ec⟩, v7478, rfl, av7478, bv7478⟩ := hq
  show WP _ _ _ _ (.int _ :: _) _ _ _ _
  rw [ea, eb, ec]
  clear ea eb ec Ia Ja Ra
  refine WP_istore (ls' := [(0, _), (1, _), (2, _), (3, _), (4, _), (5, _), (6, _)]) dX3_faultOfName_51 (by decide) rfl ?_
  refine WP_iload_n dX3_faultOfName_53 rfl ?_
  refine WQ_bipush (110) (110) dX3_faultOfName_54 rfl rfl (fun v7479 hv7479 => ?_)
  refine WQ_icmp_eq 65 dX3_faultOfName_56 rfl (fun c7479 => False.elim (by omega)) (fun c7479 => ?_)
  refine WP_iload_n dX3_faultOfName_59 rfl ?_
  refine WQ_bipush (109) (109) dX3_faultOfName_60 rfl rfl (fun v7481 hv7481 => ?_)
  refine WQ_icmp_ne 98 dX3_faultOfName_62 rfl (fun c7481 => ?_) (fun c7481 => False.elim (by omega))
  refine WP_iload dX3_faultOfName_98 rfl ?_
  refine WQ_iconst (-1) (-1) dX3_faultOfName_100 rfl rfl (fun v7483 hv7483 => ?_)
  refine WQ_icmp_ne 106 dX3_faultOfName_101 rfl (fun c7483 => ?_) (fun c7483 => ?_)
  · refine WP_aload_n dX3_faultOfName_106 rfl ?_
    refine WP_getr dX3_faultOfName_107 fX3_9 rfl (lyx_is hy 3 3 rfl) (rfx hr 3 3 4 (by decide)) ?_
    refine WP_iload_n dX3_faultOfName_110 rfl ?_
    refine WP_iload dX3_faultOfName_111 rfl ?_
    refine WQ_iast dX3_faultOfName_113 (lyx_is hy 4 13 rfl) (lyx_n hy 4 5 rfl) (by omega) (by omega) (fun I7485 fI7485 => ?_)
    have eI7485 := fI7485
    rw [cl (x := ix) (n := 1) (by omega)] at eI7485
    clear fI7485
    have hI7485 : XI g n L I7485 := by rw [eI7485]; exact (xi_f hy hI (c := 4) (0) (0) (1000) (by decide) (Or.inl (by decide)) (by decide) (by omega) (by omega))
    have e7486 : I7485 (ad g 1) 1 = L := by rw [eI7485, pp_ne _ _ (Or.inl (lyx_ne hy (by decide) (by decide) (by decide)))]; exact e7466
    have e7487 : I7485 (ad g 4) 0 = w7468 := by rw [eI7485, pp_ne _ _ (Or.inr (by decide))]; exact ew7468
    have e7488 : I7485 (ad g 27) 1 = w7469 := by rw [eI7485, pp_ne _ _ (Or.inl (lyx_ne hy (by decide) (by decide) (by decide)))]; exact ew7469
    have e7489 : I7485 (ad g 27) 2 = w7470 := by rw [eI7485, pp_ne _ _ (Or.inl (lyx_ne hy (by decide) (by decide) (by decide)))]; exact ew7470
    have e7490 : I7485 (ad g 4) 1 = v7478 := by rw [eI7485, pp_self]
    have fr7491 : fz 74 g [4] I I7485 := by rw [eI7485]; exact fzx_pp hy fr0 (by decide) (by decide)
    clear eI7485
    refine WP_iload_n dX3_faultOfName_114 rfl ?_
    refine WQ_bipush (7) (7) dX3_faultOfName_115 rfl rfl (fun v7492 hv7492 => ?_)
    refine WQ_icmp_ne 137 dX3_faultOfName_117 rfl (fun c7492 => ?_) (fun c7492 => False.elim (by omega))
    refine WQ_iconst (0) (0) dX3_faultOfName_137 rfl rfl (fun v7494 hv7494 => ?_)
    exact WP_iret dX3_faultOfName_138 rfl ⟨⟨hI7485, rfl, fr7491, frj0, ⟨trivial, (by rw [e7487, ew7468] <;> exact (eq32 _ _).mpr (by omega)), (by rw [e7488, ew7469] <;> exact (eq32 _ _).mpr (by omega)), (by rw [e7489, ew7470] <;> exact (eq32 _ _).mpr (by omega))⟩⟩, _, rfl, by omega, by omega, by (try rw [e7490]); omega⟩
  · refine WQ_iconst (5) (5) dX3_faultOfName_104 rfl rfl (fun v7495 hv7495 => ?_)
    obtain ⟨w7496, ew7496⟩ : ∃ w : Int32, I (ad g 4) 1 = w := ⟨_, rfl⟩
    have bw7496 := BT_get hI.1 4 0 5 (0) (0) (1000) (by decide) 1 (by decide) (by decide)
    rw [ew7496] at bw7496
    exact WP_iret dX3_faultOfName_105 rfl ⟨⟨hI, rfl, fr0, frj0, ⟨trivial, rfl, rfl, rfl⟩⟩, _, rfl, by omega, by omega, by (try rw [ew7496]); omega⟩
set_option maxHeartbeats 4000000 in
set_option maxRecDepth 100000 in
theorem sx_part_27_10_2 {g : GG} {n : Int} {L : Int32} (hy : LyX g)  {I : pI} {J : pJ} {R : pR} (hr : RfX g R) (hI : XI g n L I) (pa : Int32) (cz : Int32) (ix : Int32) (pa_lo : 68 ≤ pa.toInt) (pa_hi : pa.toInt ≤ 68) (cz_lo : 10 ≤ cz.toInt) (cz_hi : cz.toInt ≤ 10) (ix_lo : 2 ≤ ix.toInt) (ix_hi : ix.toInt ≤ 2) (hb : (I (ad g 4) 0).toInt ≤ 3) : SP g mX3_faultOfNumber [.ref (ad g 3), .int pa, .int cz, .int ix, .ref (ad g 27)] I J R (fun r I' J' R' => (XI g n L I' ∧ R' = R ∧ fz 74 g [4] I I' ∧ fz 74 g [] J J' ∧ True ∧ I' (ad g 4) 0 = I (ad g 4) 0 ∧ I' (ad g 4) 1 = I (ad g 4) 1 ∧ I' (ad g 27) 1 = I (ad g 27) 1 ∧ I' (ad g 27) 2 = I (ad g 27) 2) ∧ ∃ v : Int32, r = some (.int v) ∧ 0 ≤ v.toInt ∧ v.toInt ≤ 5 ∧ (v.toInt = 0 → (I' (ad g 4) 2).toInt ≤ 6)) := by
  refine SP_of ⟨by decide, rfl⟩ (Nat.le_of_ble_eq_true rfl) ?_
  have e7497 : I (ad g 1) 1 = L := hI.2
  have b7498 := BT_get hI.1 1 1 2 (0) (0) (900) (by decide) 1 (by decide) (by decide)
  rw [e7497] at b7498
  have fr0 : fz 74 g [4] I I := fz_rf
  have frj0 : fz 74 g [] J J := fz_rf
  obtain ⟨w7499, ew7499⟩ : ∃ w : Int32, I (ad g 4) 0 = w := ⟨_, rfl⟩
  have bw7499 := BT_get hI.1 4 0 5 (0) (0) (1000) (by decide) 0 (by decide) (by decide)
  rw [ew7499] at bw7499
  obtain ⟨w7500, ew7500⟩ : ∃ w : Int32, I (ad g 4) 1 = w := ⟨_, rfl⟩
  have bw7500 := BT_get hI.1 4 0 5 (0) (0) (1000) (by decide) 1 (by decide) (by decide)
  rw [ew7500] at bw7500
  obtain ⟨w7501, ew7501⟩ : ∃ w : Int32, I (ad g 27) 1 = w := ⟨_, rfl⟩
  have bw7501 := BT_get hI.1 27 1 2 (0) (0) (4) (by decide) 1 (by decide) (by decide)
  rw [ew7501] at bw7501
  obtain ⟨w7502, ew7502⟩ : ∃ w : Int32, I (ad g 27) 2 = w := ⟨_, rfl⟩
  have bw7502 := BT_get hI.1 27 2 3 (0) (0) (3) (by decide) 2 (by decide) (by decide)
  rw [ew7502] at bw7502
  rw [ew7499] at hb
  refine WP_aload_n dX3_faultOfNumber_0 rfl ?_
  refine WP_getr dX3_faultOfNumber_1 fX3_15 rfl (lyx_is hy 3 3 rfl) (rfx hr 3 2 1 (by decide)) ?_
  refine WQ_getiu dX3_faultOfNumber_4 fX3_118 rfl (lyx_is hy 1 5 rfl) (fun v7503 ev7503 => ?_)
  refine WP_istore (ls' := [(0, _), (1, _), (2, _), (3, _), (4, _), (5, _)]) dX3_faultOfNumber_7 (by decide) rfl ?_
  refine WP_iload dX3_faultOfNumber_9 rfl ?_
  refine WP_iload_n dX3_faultOfNumber_11 rfl ?_
  refine WP_callS1 dX3_faultOfNumber_12 ⟨⟨⟨by decide, by decide⟩, zX3_leastOf⟩, lX3_121, tX3_leastOf⟩ (sx_leastOf hy hr hI pa ) (Nat.le_of_ble_eq_true rfl) ?_
  intro r Ia Ja Ra hq
  obtain ⟨⟨ea, eb, ec⟩, v7504, rfl, av7504, bv7504⟩ := hq
  show WP _ _ _ _ (.int _ :: _) _ _ _ _
  rw [ea, eb, ec]
  clear ea eb ec Ia Ja Ra
  refine WQ_icmp_lt 27 dX3_faultOfNumber_15 rfl (fun c7504 => ?_) (fun c7504 => ?_)
  · refine WQ_iconst (2) (2) dX3_faultOfNumber_27 rfl rfl (fun v7506 hv7506 => ?_)
    obtain ⟨w7507, ew7507⟩ : ∃ w : Int32, I (ad g 4) 2 = w := ⟨_, rfl⟩
    have bw7507 := BT_get hI.1 4 0 5 (0) (0) (1000) (by decide) 2 (by decide) (by decide)
    rw [ew7507] at bw7507
    exact WP_iret dX3_faultOfNumber_28 rfl ⟨⟨hI, rfl, fr0, frj0, ⟨trivial, rfl, rfl, rfl, rfl⟩⟩, _, rfl, by omega, by omega, by (try rw [ew7507]); omega⟩
  · refine WP_iload dX3_faultOfNumber_18 rfl ?_
    refine WP_iload_n dX3_faultOfNumber_20 rfl ?_
    refine WP_callS1 dX3_faultOfNumber_21 ⟨⟨⟨by decide, by decide⟩, zX3_mostOf⟩, lX3_125, tX3_mostOf⟩ (sx_mostOf hy hr hI pa ) (Nat.le_of_ble_eq_true rfl) ?_
    intro r Ia Ja Ra hq
    obtain ⟨⟨ea, eb, ec⟩, v7508, rfl, av7508, bv7508, cv7508⟩ := hq
    show WP _ _ _ _ (.int _ :: _) _ _ _ _
    rw [ea, eb, ec]
    clear ea eb ec Ia Ja Ra
    refine WQ_icmp_le 29 dX3_faultOfNumber_24 rfl (fun c7508 => ?_) (fun c7508 => ?_)
    · refine WP_aload_n dX3_faultOfNumber_29 rfl ?_
      refine WP_getr dX3_faultOfNumber_30 fX3_9 rfl (lyx_is hy 3 3 rfl) (rfx hr 3 3 4 (by decide)) ?_
      refine WP_iload_n dX3_faultOfNumber_33 rfl ?_
      refine WP_iload dX3_faultOfNumber_34 rfl ?_
      refine WQ_iast dX3_faultOfNumber_36 (lyx_is hy 4 13 rfl) (lyx_n hy 4 5 rfl) (by omega) (by omega) (fun I7510 fI7510 => ?_)
      have eI7510 := fI7510
      rw [cl (x := ix) (n := 2) (by omega)] at eI7510
      clear fI7510
      have hI7510 : XI g n L I7510 := by rw [eI7510]; exact (xi_f hy hI (c := 4) (0) (0) (1000) (by decide) (Or.inl (by decide)) (by decide) (by omega) (by omega))
      have e7511 : I7510 (ad g 1) 1 = L := by rw [eI7510, pp_ne _ _ (Or.inl (lyx_ne hy (by decide) (by decide) (by decide)))]; exact e7497
      have e7512 : I7510 (ad g 4) 0 = w7499 := by rw [eI7510, pp_ne _ _ (Or.inr (by decide))]; exact ew7499
      have e7513 : I7510 (ad g 4) 1 = w7500 := by rw [eI7510, pp_ne _ _ (Or.inr (by decide))]; exact ew7500
      have e7514 : I7510 (ad g 27) 1 = w7501 := by rw [eI7510, pp_ne _ _ (Or.inl (lyx_ne hy (by decide) (by decide) (by decide)))]; exact ew7501
      have e7515 : I7510 (ad g 27) 2 = w7502 := by rw [eI7510, pp_ne _ _ (Or.inl (lyx_ne hy (by decide) (by decide) (by decide)))]; exact ew7502
      have e7516 : I7510 (ad g 1) 4 = v7503 := by rw [eI7510, pp_ne _ _ (Or.inl (lyx_ne hy (by decide) (by decide) (by decide)))]; exact ev7503
      have e7517 : I7510 (ad g 4) 2 = v7503 := by rw [eI7510, pp_self]
      have fr7518 : fz 74 g [4] I I7510 := by rw [eI7510]; exact fzx_pp hy fr0 (by decide) (by decide)
      clear eI7510
      refine WP_iload_n dX3_faultOfNumber_37 rfl ?_
      refine WQ_bipush (68) (68) dX3_faultOfNumber_38 rfl rfl (fun v7519 hv7519 => ?_)
      refine WQ_icmp_eq 45 dX3_faultOfNumber_40 rfl (fun c7519 => ?_) (fun c7519 => False.elim (by omega))
      refine WP_aload dX3_faultOfNumber_45 rfl ?_
      refine WP_iload_n dX3_faultOfNumber_47 rfl ?_
      refine WP_iload_n dX3_faultOfNumber_48 rfl ?_
      refine WQ_if_ne 56 dX3_faultOfNumber_49 rfl (fun c7520 => ?_) (fun c7520 => False.elim (by omega))
      refine WP_aload_n dX3_faultOfNumber_56 rfl ?_
      refine WP_getr dX3_faultOfNumber_57 fX3_9 rfl (lyx_is hy 3 3 rfl) (rfx hr 3 3 4 (by decide)) ?_
      refine WQ_iconst (0) (0) dX3_faultOfNumber_60 rfl rfl (fun v7522 hv7522 => ?_)
      refine WQ_ialdm (z := 0) dX3_faultOfNumber_61 (lyx_is hy 4 13 rfl) (lyx_n hy 4 5 rfl) hv7522 (by decide) e7512 ?_
      refine WP_iload dX3_faultOfNumber_62 rfl ?_
      refine WP_callV3 (k := 7) dX3_faultOfNumber_64 ⟨⟨⟨by decide, by decide⟩, zX7_isTold⟩, lX3_114, by decide, rfl, vX7_isTold.1, vX7_isTold.2⟩ (lyx_is hy 27 7 rfl) (sx_isTold_27 hy hr hI7510 cz w7499 v7503 (by omega) (by omega) (by omega) (by omega) ) (Nat.le_of_ble_eq_true rfl) ?_
      intro r Ia Ja Ra hq
      obtain ⟨⟨ea, eb, ec⟩, v7524, rfl, av7524, bv7524⟩ := hq
      show WP _ _ _ _ (.int _ :: _) _ _ _ _
      rw [ea, eb, ec]
      clear ea eb ec Ia Ja Ra
      refine WQ_if_eq 74 dX3_faultOfNumber_67 rfl (fun c7524 => ?_) (fun c7524 => ?_)
      · refine WQ_iconst (0) (0) dX3_faultOfNumber_74 rfl rfl (fun v7526 hv7526 => ?_)
        exact WP_iret dX3_faultOfNumber_75 rfl ⟨⟨hI7510, rfl, fr7518, frj0, ⟨trivial, (by rw [e7512, ew7499] <;> exact (eq32 _ _).mpr (by omega)), (by rw [e7513, ew7500] <;> exact (eq32 _ _).mpr (by omega)), (by rw [e7514, ew7501] <;> exact (eq32 _ _).mpr (by omega)), (by rw [e7515, ew7502] <;> exact (eq32 _ _).mpr (by omega))⟩⟩, _, rfl, by omega, by omega, by (try rw [e7517]); omega⟩
      · refine WQ_iconst (3) (3) dX3_faultOfNumber_70 rfl rfl (fun v7527 hv7527 => ?_)
        refine WP_goto 75 dX3_faultOfNumber_71 rfl ?_
        exact WP_iret dX3_faultOfNumber_75 rfl ⟨⟨hI7510, rfl, fr7518, frj0, ⟨trivial, (by rw [e7512, ew7499] <;> exact (eq32 _ _).mpr (by omega)), (by rw [e7513, ew7500] <;> exact (eq32 _ _).mpr (by omega)), (by rw [e7514, ew7501] <;> exact (eq32 _ _).mpr (by omega)), (by rw [e7515, ew7502] <;> exact (eq32 _ _).mpr (by omega))⟩⟩, _, rfl, by omega, by omega, by (try rw [e7517]); omega⟩
    · refine WQ_iconst (2) (2) dX3_faultOfNumber_27 rfl rfl (fun v7528 hv7528 => ?_)
      obtain ⟨w7529, ew7529⟩ : ∃ w : Int32, I (ad g 4) 2 = w := ⟨_, rfl⟩
      have bw7529 := BT_get hI.1 4 0 5 (0) (0) (1000) (by decide) 2 (by decide) (by decide)
      rw [ew7529] at bw7529
      exact WP_iret dX3_faultOfNumber_28 rfl ⟨⟨hI, rfl, fr0, frj0, ⟨trivial, rfl, rfl, rfl, rfl⟩⟩, _, rfl, by omega, by omega, by (try rw [ew7529]); omega⟩
set_option maxHeartbeats 4000000 in
set_option maxRecDepth 100000 in
theorem sx_part_27_10_3 {g : GG} {n : Int} {L : Int32} (hy : LyX g)  {I : pI} {J : pJ} {R : pR} (hr : RfX g R) (hI : XI g n L I) (pa : Int32) (cz : Int32) (ix : Int32) (pa_lo : 85 ≤ pa.toInt) (pa_hi : pa.toInt ≤ 85) (cz_lo : 10 ≤ cz.toInt) (cz_hi : cz.toInt ≤ 10) (ix_lo : 3 ≤ ix.toInt) (ix_hi : ix.toInt ≤ 3) : SP g mX3_faultOfNumber [.ref (ad g 3), .int pa, .int cz, .int ix, .ref (ad g 27)] I J R (fun r I' J' R' => (XI g n L I' ∧ R' = R ∧ fz 74 g [4] I I' ∧ fz 74 g [] J J' ∧ True ∧ I' (ad g 4) 0 = I (ad g 4) 0 ∧ I' (ad g 4) 1 = I (ad g 4) 1 ∧ I' (ad g 4) 2 = I (ad g 4) 2 ∧ I' (ad g 27) 1 = I (ad g 27) 1 ∧ I' (ad g 27) 2 = I (ad g 27) 2) ∧ ∃ v : Int32, r = some (.int v) ∧ 0 ≤ v.toInt ∧ v.toInt ≤ 5 ∧ (v.toInt = 0 → (I' (ad g 4) 3).toInt ≤ 3)) := by
  refine SP_of ⟨by decide, rfl⟩ (Nat.le_of_ble_eq_true rfl) ?_
  have e7530 : I (ad g 1) 1 = L := hI.2
  have b7531 := BT_get hI.1 1 1 2 (0) (0) (900) (by decide) 1 (by decide) (by decide)
  rw [e7530] at b7531
  have fr0 : fz 74 g [4] I I := fz_rf
  have frj0 : fz 74 g [] J J := fz_rf
  obtain ⟨w7532, ew7532⟩ : ∃ w : Int32, I (ad g 4) 0 = w := ⟨_, rfl⟩
  have bw7532 := BT_get hI.1 4 0 5 (0) (0) (1000) (by decide) 0 (by decide) (by decide)
  rw [ew7532] at bw7532
  obtain ⟨w7533, ew7533⟩ : ∃ w : Int32, I (ad g 4) 1 = w := ⟨_, rfl⟩
  have bw7533 := BT_get hI.1 4 0 5 (0) (0) (1000) (by decide) 1 (by decide) (by decide)
  rw [ew7533] at bw7533
  obtain ⟨w7534, ew7534⟩ : ∃ w : Int32, I (ad g 4) 2 = w := ⟨_, rfl⟩
  have bw7534 := BT_get hI.1 4 0 5 (0) (0) (1000) (by decide) 2 (by decide) (by decide)
  rw [ew7534] at bw7534
  obtain ⟨w7535, ew7535⟩ : ∃ w : Int32, I (ad g 27) 1 = w := ⟨_, rfl⟩
  have bw7535 := BT_get hI.1 27 1 2 (0) (0) (4) (by decide) 1 (by decide) (by decide)
  rw [ew7535] at bw7535
  obtain ⟨w7536, ew7536⟩ : ∃ w : Int32, I (ad g 27) 2 = w := ⟨_, rfl⟩
  have bw7536 := BT_get hI.1 27 2 3 (0) (0) (3) (by decide) 2 (by decide) (by decide)
  rw [ew7536] at bw7536
  refine WP_aload_n dX3_faultOfNumber_0 rfl ?_
  refine WP_getr dX3_faultOfNumber_1 fX3_15 rfl (lyx_is hy 3 3 rfl) (rfx hr 3 2 1 (by decide)) ?_
  refine WQ_getiu dX3_faultOfNumber_4 fX3_118 rfl (lyx_is hy 1 5 rfl) (fun v7537 ev7537 => ?_)
  refine WP_istore (ls' := [(0, _), (1, _), (2, _), (3, _), (4, _), (5, _)]) dX3_faultOfNumber_7 (by decide) rfl ?_
  refine WP_iload dX3_faultOfNumber_9 rfl ?_
  refine WP_iload_n dX3_faultOfNumber_11 rfl ?_
  refine WP_callS1 dX3_faultOfNumber_12 ⟨⟨⟨by decide, by decide⟩, zX3_leastOf⟩, lX3_121, tX3_leastOf⟩ (sx_leastOf hy hr hI pa ) (Nat.le_of_ble_eq_true rfl) ?_
  intro r Ia Ja Ra hq
  obtain ⟨⟨ea, eb, ec⟩, v7538, rfl, av7538, bv7538⟩ := hq
  show WP _ _ _ _ (.int _ :: _) _ _ _ _
  rw [ea, eb, ec]
  clear ea eb ec Ia Ja Ra
  refine WQ_icmp_lt 27 dX3_faultOfNumber_15 rfl (fun c7538 => ?_) (fun c7538 => ?_)
  · refine WQ_iconst (2) (2) dX3_faultOfNumber_27 rfl rfl (fun v7540 hv7540 => ?_)
    obtain ⟨w7541, ew7541⟩ : ∃ w : Int32, I (ad g 4) 3 = w := ⟨_, rfl⟩
    have bw7541 := BT_get hI.1 4 0 5 (0) (0) (1000) (by decide) 3 (by decide) (by decide)
    rw [ew7541] at bw7541
    exact WP_iret dX3_faultOfNumber_28 rfl ⟨⟨hI, rfl, fr0, frj0, ⟨trivial, rfl, rfl, rfl, rfl, rfl⟩⟩, _, rfl, by omega, by omega, by (try rw [ew7541]); omega⟩
  · refine WP_iload dX3_faultOfNumber_18 rfl ?_
    refine WP_iload_n dX3_faultOfNumber_20 rfl ?_
    refine WP_callS1 dX3_faultOfNumber_21 ⟨⟨⟨by decide, by decide⟩, zX3_mostOf⟩, lX3_125, tX3_mostOf⟩ (sx_mostOf hy hr hI pa ) (Nat.le_of_ble_eq_true rfl) ?_
    intro r Ia Ja Ra hq
    obtain ⟨⟨ea, eb, ec⟩, v7542, rfl, av7542, bv7542, cv7542⟩ := hq
    show WP _ _ _ _ (.int _ :: _) _ _ _ _
    rw [ea, eb, ec]
    clear ea eb ec Ia Ja Ra
    refine WQ_icmp_le 29 dX3_faultOfNumber_24 rfl (fun c7542 => ?_) (fun c7542 => ?_)
    · refine WP_aload_n dX3_faultOfNumber_29 rfl ?_
      refine WP_getr dX3_faultOfNumber_30 fX3_9 rfl (lyx_is hy 3 3 rfl) (rfx hr 3 3 4 (by decide)) ?_
      refine WP_iload_n dX3_faultOfNumber_33 rfl ?_
      refine WP_iload dX3_faultOfNumber_34 rfl ?_
      refine WQ_iast dX3_faultOfNumber_36 (lyx_is hy 4 13 rfl) (lyx_n hy 4 5 rfl) (by omega) (by omega) (fun I7544 fI7544 => ?_)
      have eI7544 := fI7544
      rw [cl (x := ix) (n := 3) (by omega)] at eI7544
      clear fI7544
      have hI7544 : XI g n L I7544 := by rw [eI7544]; exact (xi_f hy hI (c := 4) (0) (0) (1000) (by decide) (Or.inl (by decide)) (by decide) (by omega) (by omega))
      have e7545 : I7544 (ad g 1) 1 = L := by rw [eI7544, pp_ne _ _ (Or.inl (lyx_ne hy (by decide) (by decide) (by decide)))]; exact e7530
      have e7546 : I7544 (ad g 4) 0 = w7532 := by rw [eI7544, pp_ne _ _ (Or.inr (by decide))]; exact ew7532
      have e7547 : I7544 (ad g 4) 1 = w7533 := by rw [eI7544, pp_ne _ _ (Or.inr (by decide))]; exact ew7533
      have e7548 : I7544 (ad g 4) 2 = w7534 := by rw [eI7544, pp_ne _ _ (Or.inr (by decide))]; exact ew7534
      have e7549 : I7544 (ad g 27) 1 = w7535 := by rw [eI7544, pp_ne _ _ (Or.inl (lyx_ne hy (by decide) (by decide) (by decide)))]; exact ew7535
      have e7550 : I7544 (ad g 27) 2 = w7536 := by rw [eI7544, pp_ne _ _ (Or.inl (lyx_ne hy (by decide) (by decide) (by decide)))]; exact ew7536
      have e7551 : I7544 (ad g 1) 4 = v7537 := by rw [eI7544, pp_ne _ _ (Or.inl (lyx_ne hy (by decide) (by decide) (by decide)))]; exact ev7537
      have e7552 : I7544 (ad g 4) 3 = v7537 := by rw [eI7544, pp_self]
      have fr7553 : fz 74 g [4] I I7544 := by rw [eI7544]; exact fzx_pp hy fr0 (by decide) (by decide)
      clear eI7544
      refine WP_iload_n dX3_faultOfNumber_37 rfl ?_
      refine WQ_bipush (68) (68) dX3_faultOfNumber_38 rfl rfl (fun v7554 hv7554 => ?_)
      refine WQ_icmp_eq 45 dX3_faultOfNumber_40 rfl (fun c7554 => False.elim (by omega)) (fun c7554 => ?_)
      refine WQ_iconst (0) (0) dX3_faultOfNumber_43 rfl rfl (fun v7556 hv7556 => ?_)
      exact WP_iret dX3_faultOfNumber_44 rfl ⟨⟨hI7544, rfl, fr7553, frj0, ⟨trivial, (by rw [e7546, ew7532] <;> exact (eq32 _ _).mpr (by omega)), (by rw [e7547, ew7533] <;> exact (eq32 _ _).mpr (by omega)), (by rw [e7548, ew7534] <;> exact (eq32 _ _).mpr (by omega)), (by rw [e7549, ew7535] <;> exact (eq32 _ _).mpr (by omega)), (by rw [e7550, ew7536] <;> exact (eq32 _ _).mpr (by omega))⟩⟩, _, rfl, by omega, by omega, by (try rw [e7552]); omega⟩
    · refine WQ_iconst (2) (2) dX3_faultOfNumber_27 rfl rfl (fun v7557 hv7557 => ?_)
      obtain ⟨w7558, ew7558⟩ : ∃ w : Int32, I (ad g 4) 3 = w := ⟨_, rfl⟩
      have bw7558 := BT_get hI.1 4 0 5 (0) (0) (1000) (by decide) 3 (by decide) (by decide)
      rw [ew7558] at bw7558
      exact WP_iret dX3_faultOfNumber_28 rfl ⟨⟨hI, rfl, fr0, frj0, ⟨trivial, rfl, rfl, rfl, rfl, rfl⟩⟩, _, rfl, by omega, by omega, by (try rw [ew7558]); omega⟩
set_option maxHeartbeats 4000000 in
set_option maxRecDepth 100000 in
theorem sx_part_27_10_4 {g : GG} {n : Int} {L : Int32} (hy : LyX g)  {I : pI} {J : pJ} {R : pR} (hr : RfX g R) (hI : XI g n L I) (pa : Int32) (cz : Int32) (ix : Int32) (pa_lo : 80 ≤ pa.toInt) (pa_hi : pa.toInt ≤ 80) (cz_lo : 10 ≤ cz.toInt) (cz_hi : cz.toInt ≤ 10) (ix_lo : 4 ≤ ix.toInt) (ix_hi : ix.toInt ≤ 4) : SP g mX3_faultOfNumber [.ref (ad g 3), .int pa, .int cz, .int ix, .ref (ad g 27)] I J R (fun r I' J' R' => (XI g n L I' ∧ R' = R ∧ fz 74 g [4] I I' ∧ fz 74 g [] J J' ∧ True ∧ I' (ad g 4) 0 = I (ad g 4) 0 ∧ I' (ad g 4) 1 = I (ad g 4) 1 ∧ I' (ad g 4) 2 = I (ad g 4) 2 ∧ I' (ad g 4) 3 = I (ad g 4) 3 ∧ I' (ad g 27) 1 = I (ad g 27) 1 ∧ I' (ad g 27) 2 = I (ad g 27) 2) ∧ ∃ v : Int32, r = some (.int v) ∧ 0 ≤ v.toInt ∧ v.toInt ≤ 5 ∧ (v.toInt = 0 → (I' (ad g 4) 4).toInt ≤ 99)) := by
  refine SP_of ⟨by decide, rfl⟩ (Nat.le_of_ble_eq_true rfl) ?_
  have e7559 : I (ad g 1) 1 = L := hI.2
  have b7560 := BT_get hI.1 1 1 2 (0) (0) (900) (by decide) 1 (by decide) (by decide)
  rw [e7559] at b7560
  have fr0 : fz 74 g [4] I I := fz_rf
  have frj0 : fz 74 g [] J J := fz_rf
  obtain ⟨w7561, ew7561⟩ : ∃ w : Int32, I (ad g 4) 0 = w := ⟨_, rfl⟩
  have bw7561 := BT_get hI.1 4 0 5 (0) (0) (1000) (by decide) 0 (by decide) (by decide)
  rw [ew7561] at bw7561
  obtain ⟨w7562, ew7562⟩ : ∃ w : Int32, I (ad g 4) 1 = w := ⟨_, rfl⟩
  have bw7562 := BT_get hI.1 4 0 5 (0) (0) (1000) (by decide) 1 (by decide) (by decide)
  rw [ew7562] at bw7562
  obtain ⟨w7563, ew7563⟩ : ∃ w : Int32, I (ad g 4) 2 = w := ⟨_, rfl⟩
  have bw7563 := BT_get hI.1 4 0 5 (0) (0) (1000) (by decide) 2 (by decide) (by decide)
  rw [ew7563] at bw7563
  obtain ⟨w7564, ew7564⟩ : ∃ w : Int32, I (ad g 4) 3 = w := ⟨_, rfl⟩
  have bw7564 := BT_get hI.1 4 0 5 (0) (0) (1000) (by decide) 3 (by decide) (by decide)
  rw [ew7564] at bw7564
  obtain ⟨w7565, ew7565⟩ : ∃ w : Int32, I (ad g 27) 1 = w := ⟨_, rfl⟩
  have bw7565 := BT_get hI.1 27 1 2 (0) (0) (4) (by decide) 1 (by decide) (by decide)
  rw [ew7565] at bw7565
  obtain ⟨w7566, ew7566⟩ : ∃ w : Int32, I (ad g 27) 2 = w := ⟨_, rfl⟩
  have bw7566 := BT_get hI.1 27 2 3 (0) (0) (3) (by decide) 2 (by decide) (by decide)
  rw [ew7566] at bw7566
  refine WP_aload_n dX3_faultOfNumber_0 rfl ?_
  refine WP_getr dX3_faultOfNumber_1 fX3_15 rfl (lyx_is hy 3 3 rfl) (rfx hr 3 2 1 (by decide)) ?_
  refine WQ_getiu dX3_faultOfNumber_4 fX3_118 rfl (lyx_is hy 1 5 rfl) (fun v7567 ev7567 => ?_)
  refine WP_istore (ls' := [(0, _), (1, _), (2, _), (3, _), (4, _), (5, _)]) dX3_faultOfNumber_7 (by decide) rfl ?_
  refine WP_iload dX3_faultOfNumber_9 rfl ?_
  refine WP_iload_n dX3_faultOfNumber_11 rfl ?_
  refine WP_callS1 dX3_faultOfNumber_12 ⟨⟨⟨by decide, by decide⟩, zX3_leastOf⟩, lX3_121, tX3_leastOf⟩ (sx_leastOf hy hr hI pa ) (Nat.le_of_ble_eq_true rfl) ?_
  intro r Ia Ja Ra hq
  obtain ⟨⟨ea, eb, ec⟩, v7568, rfl, av7568, bv7568⟩ := hq
  show WP _ _ _ _ (.int _ :: _) _ _ _ _
  rw [ea, eb, ec]
  clear ea eb ec Ia Ja Ra
  refine WQ_icmp_lt 27 dX3_faultOfNumber_15 rfl (fun c7568 => ?_) (fun c7568 => ?_)
  · refine WQ_iconst (2) (2) dX3_faultOfNumber_27 rfl rfl (fun v7570 hv7570 => ?_)
    obtain ⟨w7571, ew7571⟩ : ∃ w : Int32, I (ad g 4) 4 = w := ⟨_, rfl⟩
    have bw7571 := BT_get hI.1 4 0 5 (0) (0) (1000) (by decide) 4 (by decide) (by decide)
    rw [ew7571] at bw7571
    exact WP_iret dX3_faultOfNumber_28 rfl ⟨⟨hI, rfl, fr0, frj0, ⟨trivial, rfl, rfl, rfl, rfl, rfl, rfl⟩⟩, _, rfl, by omega, by omega, by (try rw [ew7571]); omega⟩
  · refine WP_iload dX3_faultOfNumber_18 rfl ?_
    refine WP_iload_n dX3_faultOfNumber_20 rfl ?_
    refine WP_callS1 dX3_faultOfNumber_21 ⟨⟨⟨by decide, by decide⟩, zX3_mostOf⟩, lX3_125, tX3_mostOf⟩ (sx_mostOf hy hr hI pa ) (Nat.le_of_ble_eq_true rfl) ?_
    intro r Ia Ja Ra hq
    obtain ⟨⟨ea, eb, ec⟩, v7572, rfl, av7572, bv7572, cv7572⟩ := hq
    show WP _ _ _ _ (.int _ :: _) _ _ _ _
    rw [ea, eb, ec]
    clear ea eb ec Ia Ja Ra
    refine WQ_icmp_le 29 dX3_faultOfNumber_24 rfl (fun c7572 => ?_) (fun c7572 => ?_)
    · refine WP_aload_n dX3_faultOfNumber_29 rfl ?_
      refine WP_getr dX3_faultOfNumber_30 fX3_9 rfl (lyx_is hy 3 3 rfl) (rfx hr 3 3 4 (by decide)) ?_
      refine WP_iload_n dX3_faultOfNumber_33 rfl ?_
      refine WP_iload dX3_faultOfNumber_34 rfl ?_
      refine WQ_iast dX3_faultOfNumber_36 (lyx_is hy 4 13 rfl) (lyx_n hy 4 5 rfl) (by omega) (by omega) (fun I7574 fI7574 => ?_)
      have eI7574 := fI7574
      rw [cl (x := ix) (n := 4) (by omega)] at eI7574
      clear fI7574
      have hI7574 : XI g n L I7574 := by rw [eI7574]; exact (xi_f hy hI (c := 4) (0) (0) (1000) (by decide) (Or.inl (by decide)) (by decide) (by omega) (by omega))
      have e7575 : I7574 (ad g 1) 1 = L := by rw [eI7574, pp_ne _ _ (Or.inl (lyx_ne hy (by decide) (by decide) (by decide)))]; exact e7559
      have e7576 : I7574 (ad g 4) 0 = w7561 := by rw [eI7574, pp_ne _ _ (Or.inr (by decide))]; exact ew7561
      have e7577 : I7574 (ad g 4) 1 = w7562 := by rw [eI7574, pp_ne _ _ (Or.inr (by decide))]; exact ew7562
      have e7578 : I7574 (ad g 4) 2 = w7563 := by rw [eI7574, pp_ne _ _ (Or.inr (by decide))]; exact ew7563
      have e7579 : I7574 (ad g 4) 3 = w7564 := by rw [eI7574, pp_ne _ _ (Or.inr (by decide))]; exact ew7564
      have e7580 : I7574 (ad g 27) 1 = w7565 := by rw [eI7574, pp_ne _ _ (Or.inl (lyx_ne hy (by decide) (by decide) (by decide)))]; exact ew7565
      have e7581 : I7574 (ad g 27) 2 = w7566 := by rw [eI7574, pp_ne _ _ (Or.inl (lyx_ne hy (by decide) (by decide) (by decide)))]; exact ew7566
      have e7582 : I7574 (ad g 1) 4 = v7567 := by rw [eI7574, pp_ne _ _ (Or.inl (lyx_ne hy (by decide) (by decide) (by decide)))]; exact ev7567
      have e7583 : I7574 (ad g 4) 4 = v7567 := by rw [eI7574, pp_self]
      have fr7584 : fz 74 g [4] I I7574 := by rw [eI7574]; exact fzx_pp hy fr0 (by decide) (by decide)
      clear eI7574
      refine WP_iload_n dX3_faultOfNumber_37 rfl ?_
      refine WQ_bipush (68) (68) dX3_faultOfNumber_38 rfl rfl (fun v7585 hv7585 => ?_)
      refine WQ_icmp_eq 45 dX3_faultOfNumber_40 rfl (fun c7585 => False.elim (by omega)) (fun c7585 => ?_)
      refine WQ_iconst (0) (0) dX3_faultOfNumber_43 rfl rfl (fun v7587 hv7587 => ?_)
      exact WP_iret dX3_faultOfNumber_44 rfl ⟨⟨hI7574, rfl, fr7584, frj0, ⟨trivial, (by rw [e7576, ew7561] <;> exact (eq32 _ _).mpr (by omega)), (by rw [e7577, ew7562] <;> exact (eq32 _ _).mpr (by omega)), (by rw [e7578, ew7563] <;> exact (eq32 _ _).mpr (by omega)), (by rw [e7579, ew7564] <;> exact (eq32 _ _).mpr (by omega)), (by rw [e7580, ew7565] <;> exact (eq32 _ _).mpr (by omega)), (by rw [e7581, ew7566] <;> exact (eq32 _ _).mpr (by omega))⟩⟩, _, rfl, by omega, by omega, by (try rw [e7583]); omega⟩
    · refine WQ_iconst (2) (2) dX3_faultOfNumber_27 rfl rfl (fun v7588 hv7588 => ?_)
      obtain ⟨w7589, ew7589⟩ : ∃ w : Int32, I (ad g 4) 4 = w := ⟨_, rfl⟩
      have bw7589 := BT_get hI.1 4 0 5 (0) (0) (1000) (by decide) 4 (by decide) (by decide)
      rw [ew7589] at bw7589
      exact WP_iret dX3_faultOfNumber_28 rfl ⟨⟨hI, rfl, fr0, frj0, ⟨trivial, rfl, rfl, rfl, rfl, rfl, rfl⟩⟩, _, rfl, by omega, by omega, by (try rw [ew7589]); omega⟩
set_option maxHeartbeats 4000000 in
set_option maxRecDepth 100000 in
theorem sx_part_27_11_0 {g : GG} {n : Int} {L : Int32} (hy : LyX g)  {I : pI} {J : pJ} {R : pR} (hr : RfX g R) (hI : XI g n L I) (pa : Int32) (cz : Int32) (ix : Int32) (pa_lo : 86 ≤ pa.toInt) (pa_hi : pa.toInt ≤ 86) (cz_lo : 11 ≤ cz.toInt) (cz_hi : cz.toInt ≤ 11) (ix_lo : 0 ≤ ix.toInt) (ix_hi : ix.toInt ≤ 0) : SP g mX3_faultOfNumber [.ref (ad g 3), .int pa, .int cz, .int ix, .ref (ad g 27)] I J R (fun r I' J' R' => (XI g n L I' ∧ R' = R ∧ fz 74 g [4] I I' ∧ fz 74 g [] J J' ∧ True ∧ I' (ad g 27) 1 = I (ad g 27) 1 ∧ I' (ad g 27) 2 = I (ad g 27) 2) ∧ ∃ v : Int32, r = some (.int v) ∧ 0 ≤ v.toInt ∧ v.toInt ≤ 5 ∧ (v.toInt = 0 → (I' (ad g 4) 0).toInt ≤ 99)) := by
  refine SP_of ⟨by decide, rfl⟩ (Nat.le_of_ble_eq_true rfl) ?_
  have e7590 : I (ad g 1) 1 = L := hI.2
  have b7591 := BT_get hI.1 1 1 2 (0) (0) (900) (by decide) 1 (by decide) (by decide)
  rw [e7590] at b7591
  have fr0 : fz 74 g [4] I I := fz_rf
  have frj0 : fz 74 g [] J J := fz_rf
  obtain ⟨w7592, ew7592⟩ : ∃ w : Int32, I (ad g 27) 1 = w := ⟨_, rfl⟩
  have bw7592 := BT_get hI.1 27 1 2 (0) (0) (4) (by decide) 1 (by decide) (by decide)
  rw [ew7592] at bw7592
  obtain ⟨w7593, ew7593⟩ : ∃ w : Int32, I (ad g 27) 2 = w := ⟨_, rfl⟩
  have bw7593 := BT_get hI.1 27 2 3 (0) (0) (3) (by decide) 2 (by decide) (by decide)
  rw [ew7593] at bw7593
  refine WP_aload_n dX3_faultOfNumber_0 rfl ?_
  refine WP_getr dX3_faultOfNumber_1 fX3_15 rfl (lyx_is hy 3 3 rfl) (rfx hr 3 2 1 (by decide)) ?_
  refine WQ_getiu dX3_faultOfNumber_4 fX3_118 rfl (lyx_is hy 1 5 rfl) (fun v7594 ev7594 => ?_)
  refine WP_istore (ls' := [(0, _), (1, _), (2, _), (3, _), (4, _), (5, _)]) dX3_faultOfNumber_7 (by decide) rfl ?_
  refine WP_iload dX3_faultOfNumber_9 rfl ?_
  refine WP_iload_n dX3_faultOfNumber_11 rfl ?_
  refine WP_callS1 dX3_faultOfNumber_12 ⟨⟨⟨by decide, by decide⟩, zX3_leastOf⟩, lX3_121, tX3_leastOf⟩ (sx_leastOf hy hr hI pa ) (Nat.le_of_ble_eq_true rfl) ?_
  intro r Ia Ja Ra hq
  obtain ⟨⟨ea, eb, ec⟩, v7595, rfl, av7595, bv7595⟩ := hq
  show WP _ _ _ _ (.int _ :: _) _ _ _ _
  rw [ea, eb, ec]
  clear ea eb ec Ia Ja Ra
  refine WQ_icmp_lt 27 dX3_faultOfNumber_15 rfl (fun c7595 => ?_) (fun c7595 => ?_)
  · refine WQ_iconst (2) (2) dX3_faultOfNumber_27 rfl rfl (fun v7597 hv7597 => ?_)
    obtain ⟨w7598, ew7598⟩ : ∃ w : Int32, I (ad g 4) 0 = w := ⟨_, rfl⟩
    have bw7598 := BT_get hI.1 4 0 5 (0) (0) (1000) (by decide) 0 (by decide) (by decide)
    rw [ew7598] at bw7598
    exact WP_iret dX3_faultOfNumber_28 rfl ⟨⟨hI, rfl, fr0, frj0, ⟨trivial, rfl, rfl⟩⟩, _, rfl, by omega, by omega, by (try rw [ew7598]); omega⟩
  · refine WP_iload dX3_faultOfNumber_18 rfl ?_
    refine WP_iload_n dX3_faultOfNumber_20 rfl ?_
    refine WP_callS1 dX3_faultOfNumber_21 ⟨⟨⟨by decide, by decide⟩, zX3_mostOf⟩, lX3_125, tX3_mostOf⟩ (sx_mostOf hy hr hI pa ) (Nat.le_of_ble_eq_true rfl) ?_
    intro r Ia Ja Ra hq
    obtain ⟨⟨ea, eb, ec⟩, v7599, rfl, av7599, bv7599, cv7599⟩ := hq
    show WP _ _ _ _ (.int _ :: _) _ _ _ _
    rw [ea, eb, ec]
    clear ea eb ec Ia Ja Ra
    refine WQ_icmp_le 29 dX3_faultOfNumber_24 rfl (fun c7599 => ?_) (fun c7599 => ?_)
    · refine WP_aload_n dX3_faultOfNumber_29 rfl ?_
      refine WP_getr dX3_faultOfNumber_30 fX3_9 rfl (lyx_is hy 3 3 rfl) (rfx hr 3 3 4 (by decide)) ?_
      refine WP_iload_n dX3_faultOfNumber_33 rfl ?_
      refine WP_iload dX3_faultOfNumber_34 rfl ?_
      refine WQ_iast dX3_faultOfNumber_36 (lyx_is hy 4 13 rfl) (lyx_n hy 4 5 rfl) (by omega) (by omega) (fun I7601 fI7601 => ?_)
      have eI7601 := fI7601
      rw [cl (x := ix) (n := 0) (by omega)] at eI7601
      clear fI7601
      have hI7601 : XI g n L I7601 := by rw [eI7601]; exact (xi_f hy hI (c := 4) (0) (0) (1000) (by decide) (Or.inl (by decide)) (by decide) (by omega) (by omega))
      have e7602 : I7601 (ad g 1) 1 = L := by rw [eI7601, pp_ne _ _ (Or.inl (lyx_ne hy (by decide) (by decide) (by decide)))]; exact e7590
      have e7603 : I7601 (ad g 27) 1 = w7592 := by rw [eI7601, pp_ne _ _ (Or.inl (lyx_ne hy (by decide) (by decide) (by decide)))]; exact ew7592
      have e7604 : I7601 (ad g 27) 2 = w7593 := by rw [eI7601, pp_ne _ _ (Or.inl (lyx_ne hy (by decide) (by decide) (by decide)))]; exact ew7593
      have e7605 : I7601 (ad g 1) 4 = v7594 := by rw [eI7601, pp_ne _ _ (Or.inl (lyx_ne hy (by decide) (by decide) (by decide)))]; exact ev7594
      have e7606 : I7601 (ad g 4) 0 = v7594 := by rw [eI7601, pp_self]
      have fr7607 : fz 74 g [4] I I7601 := by rw [eI7601]; exact fzx_pp hy fr0 (by decide) (by decide)
      clear eI7601
      refine WP_iload_n dX3_faultOfNumber_37 rfl ?_
      refine WQ_bipush (68) (68) dX3_faultOfNumber_38 rfl rfl (fun v7608 hv7608 => ?_)
      refine WQ_icmp_eq 45 dX3_faultOfNumber_40 rfl (fun c7608 => False.elim (by omega)) (fun c7608 => ?_)
      refine WQ_iconst (0) (0) dX3_faultOfNumber_43 rfl rfl (fun v7610 hv7610 => ?_)
      exact WP_iret dX3_faultOfNumber_44 rfl ⟨⟨hI7601, rfl, fr7607, frj0, ⟨trivial, (by rw [e7603, ew7592] <;> exact (eq32 _ _).mpr (by omega)), (by rw [e7604, ew7593] <;> exact (eq32 _ _).mpr (by omega))⟩⟩, _, rfl, by omega, by omega, by (try rw [e7606]); omega⟩
    · refine WQ_iconst (2) (2) dX3_faultOfNumber_27 rfl rfl (fun v7611 hv7611 => ?_)
      obtain ⟨w7612, ew7612⟩ : ∃ w : Int32, I (ad g 4) 0 = w := ⟨_, rfl⟩
      have bw7612 := BT_get hI.1 4 0 5 (0) (0) (1000) (by decide) 0 (by decide) (by decide)
      rw [ew7612] at bw7612
      exact WP_iret dX3_faultOfNumber_28 rfl ⟨⟨hI, rfl, fr0, frj0, ⟨trivial, rfl, rfl⟩⟩, _, rfl, by omega, by omega, by (try rw [ew7612]); omega⟩
set_option maxHeartbeats 4000000 in
set_option maxRecDepth 100000 in
theorem sx_part_27_11_1 {g : GG} {n : Int} {L : Int32} (hy : LyX g)  {I : pI} {J : pJ} {R : pR} (hr : RfX g R) (hI : XI g n L I) (pa : Int32) (cz : Int32) (ix : Int32) (pa_lo : 86 ≤ pa.toInt) (pa_hi : pa.toInt ≤ 86) (cz_lo : 11 ≤ cz.toInt) (cz_hi : cz.toInt ≤ 11) (ix_lo : 1 ≤ ix.toInt) (ix_hi : ix.toInt ≤ 1) : SP g mX3_faultOfNumber [.ref (ad g 3), .int pa, .int cz, .int ix, .ref (ad g 27)] I J R (fun r I' J' R' => (XI g n L I' ∧ R' = R ∧ fz 74 g [4] I I' ∧ fz 74 g [] J J' ∧ True ∧ I' (ad g 4) 0 = I (ad g 4) 0 ∧ I' (ad g 27) 1 = I (ad g 27) 1 ∧ I' (ad g 27) 2 = I (ad g 27) 2) ∧ ∃ v : Int32, r = some (.int v) ∧ 0 ≤ v.toInt ∧ v.toInt ≤ 5 ∧ (v.toInt = 0 → (I' (ad g 4) 1).toInt ≤ 99)) := by
  refine SP_of ⟨by decide, rfl⟩ (Nat.le_of_ble_eq_true rfl) ?_
  have e7613 : I (ad g 1) 1 = L := hI.2
  have b7614 := BT_get hI.1 1 1 2 (0) (0) (900) (by decide) 1 (by decide) (by decide)
  rw [e7613] at b7614
  have fr0 : fz 74 g [4] I I := fz_rf
  have frj0 : fz 74 g [] J J := fz_rf
  obtain ⟨w7615, ew7615⟩ : ∃ w : Int32, I (ad g 4) 0 = w := ⟨_, rfl⟩
  have bw7615 := BT_get hI.1 4 0 5 (0) (0) (1000) (by decide) 0 (by decide) (by decide)
  rw [ew7615] at bw7615
  obtain ⟨w7616, ew7616⟩ : ∃ w : Int32, I (ad g 27) 1 = w := ⟨_, rfl⟩
  have bw7616 := BT_get hI.1 27 1 2 (0) (0) (4) (by decide) 1 (by decide) (by decide)
  rw [ew7616] at bw7616
  obtain ⟨w7617, ew7617⟩ : ∃ w : Int32, I (ad g 27) 2 = w := ⟨_, rfl⟩
  have bw7617 := BT_get hI.1 27 2 3 (0) (0) (3) (by decide) 2 (by decide) (by decide)
  rw [ew7617] at bw7617
  refine WP_aload_n dX3_faultOfNumber_0 rfl ?_
  refine WP_getr dX3_faultOfNumber_1 fX3_15 rfl (lyx_is hy 3 3 rfl) (rfx hr 3 2 1 (by decide)) ?_
  refine WQ_getiu dX3_faultOfNumber_4 fX3_118 rfl (lyx_is hy 1 5 rfl) (fun v7618 ev7618 => ?_)
  refine WP_istore (ls' := [(0, _), (1, _), (2, _), (3, _), (4, _), (5, _)]) dX3_faultOfNumber_7 (by decide) rfl ?_
  refine WP_iload dX3_faultOfNumber_9 rfl ?_
  refine WP_iload_n dX3_faultOfNumber_11 rfl ?_
  refine WP_callS1 dX3_faultOfNumber_12 ⟨⟨⟨by decide, by decide⟩, zX3_leastOf⟩, lX3_121, tX3_leastOf⟩ (sx_leastOf hy hr hI pa ) (Nat.le_of_ble_eq_true rfl) ?_
  intro r Ia Ja Ra hq
  obtain ⟨⟨ea, eb, ec⟩, v7619, rfl, av7619, bv7619⟩ := hq
  show WP _ _ _ _ (.int _ :: _) _ _ _ _
  rw [ea, eb, ec]
  clear ea eb ec Ia Ja Ra
  refine WQ_icmp_lt 27 dX3_faultOfNumber_15 rfl (fun c7619 => ?_) (fun c7619 => ?_)
  · refine WQ_iconst (2) (2) dX3_faultOfNumber_27 rfl rfl (fun v7621 hv7621 => ?_)
    obtain ⟨w7622, ew7622⟩ : ∃ w : Int32, I (ad g 4) 1 = w := ⟨_, rfl⟩
    have bw7622 := BT_get hI.1 4 0 5 (0) (0) (1000) (by decide) 1 (by decide) (by decide)
    rw [ew7622] at bw7622
    exact WP_iret dX3_faultOfNumber_28 rfl ⟨⟨hI, rfl, fr0, frj0, ⟨trivial, rfl, rfl, rfl⟩⟩, _, rfl, by omega, by omega, by (try rw [ew7622]); omega⟩
  · refine WP_iload dX3_faultOfNumber_18 rfl ?_
    refine WP_iload_n dX3_faultOfNumber_20 rfl ?_
    refine WP_callS1 dX3_faultOfNumber_21 ⟨⟨⟨by decide, by decide⟩, zX3_mostOf⟩, lX3_125, tX3_mostOf⟩ (sx_mostOf hy hr hI pa ) (Nat.le_of_ble_eq_true rfl) ?_
    intro r Ia Ja Ra hq
    obtain ⟨⟨ea, eb, ec⟩, v7623, rfl, av7623, bv7623, cv7623⟩ := hq
    show WP _ _ _ _ (.int _ :: _) _ _ _ _
    rw [ea, eb, ec]
    clear ea eb ec Ia Ja Ra
    refine WQ_icmp_le 29 dX3_faultOfNumber_24 rfl (fun c7623 => ?_) (fun c7623 => ?_)
    · refine WP_aload_n dX3_faultOfNumber_29 rfl ?_
      refine WP_getr dX3_faultOfNumber_30 fX3_9 rfl (lyx_is hy 3 3 rfl) (rfx hr 3 3 4 (by decide)) ?_
      refine WP_iload_n dX3_faultOfNumber_33 rfl ?_
      refine WP_iload dX3_faultOfNumber_34 rfl ?_
      refine WQ_iast dX3_faultOfNumber_36 (lyx_is hy 4 13 rfl) (lyx_n hy 4 5 rfl) (by omega) (by omega) (fun I7625 fI7625 => ?_)
      have eI7625 := fI7625
      rw [cl (x := ix) (n := 1) (by omega)] at eI7625
      clear fI7625
      have hI7625 : XI g n L I7625 := by rw [eI7625]; exact (xi_f hy hI (c := 4) (0) (0) (1000) (by decide) (Or.inl (by decide)) (by decide) (by omega) (by omega))
      have e7626 : I7625 (ad g 1) 1 = L := by rw [eI7625, pp_ne _ _ (Or.inl (lyx_ne hy (by decide) (by decide) (by decide)))]; exact e7613
      have e7627 : I7625 (ad g 4) 0 = w7615 := by rw [eI7625, pp_ne _ _ (Or.inr (by decide))]; exact ew7615
      have e7628 : I7625 (ad g 27) 1 = w7616 := by rw [eI7625, pp_ne _ _ (Or.inl (lyx_ne hy (by decide) (by decide) (by decide)))]; exact ew7616
      have e7629 : I7625 (ad g 27) 2 = w7617 := by rw [eI7625, pp_ne _ _ (Or.inl (lyx_ne hy (by decide) (by decide) (by decide)))]; exact ew7617
      have e7630 : I7625 (ad g 1) 4 = v7618 := by rw [eI7625, pp_ne _ _ (Or.inl (lyx_ne hy (by decide) (by decide) (by decide)))]; exact ev7618
      have e7631 : I7625 (ad g 4) 1 = v7618 := by rw [eI7625, pp_self]
      have fr7632 : fz 74 g [4] I I7625 := by rw [eI7625]; exact fzx_pp hy fr0 (by decide) (by decide)
      clear eI7625
      refine WP_iload_n dX3_faultOfNumber_37 rfl ?_
      refine WQ_bipush (68) (68) dX3_faultOfNumber_38 rfl rfl (fun v7633 hv7633 => ?_)
      refine WQ_icmp_eq 45 dX3_faultOfNumber_40 rfl (fun c7633 => False.elim (by omega)) (fun c7633 => ?_)
      refine WQ_iconst (0) (0) dX3_faultOfNumber_43 rfl rfl (fun v7635 hv7635 => ?_)
      exact WP_iret dX3_faultOfNumber_44 rfl ⟨⟨hI7625, rfl, fr7632, frj0, ⟨trivial, (by rw [e7627, ew7615] <;> exact (eq32 _ _).mpr (by omega)), (by rw [e7628, ew7616] <;> exact (eq32 _ _).mpr (by omega)), (by rw [e7629, ew7617] <;> exact (eq32 _ _).mpr (by omega))⟩⟩, _, rfl, by omega, by omega, by (try rw [e7631]); omega⟩
    · refine WQ_iconst (2) (2) dX3_faultOfNumber_27 rfl rfl (fun v7636 hv7636 => ?_)
      obtain ⟨w7637, ew7637⟩ : ∃ w : Int32, I (ad g 4) 1 = w := ⟨_, rfl⟩
      have bw7637 := BT_get hI.1 4 0 5 (0) (0) (1000) (by decide) 1 (by decide) (by decide)
      rw [ew7637] at bw7637
      exact WP_iret dX3_faultOfNumber_28 rfl ⟨⟨hI, rfl, fr0, frj0, ⟨trivial, rfl, rfl, rfl⟩⟩, _, rfl, by omega, by omega, by (try rw [ew7637]); omega⟩
