set_option maxHeartbeats 4000000 in
set_option maxRecDepth 100000 in
theorem sm_isDay {g : GG} {n : Int} {L : Int32} (hy : Ly g)  {I : pI} {J : pJ} {R : pR} (hr : Rf g R) (hI : MP g n L I) (a : Int32)  : SP g mX11_isDay [.int a] I J R (fun r I' J' R' => (I' = I ∧ J' = J ∧ R' = R) ∧ ∃ v : Int32, r = some (.int v) ∧ 0 ≤ v.toInt ∧ v.toInt ≤ 1 ∧ (v.toInt = 1 ↔ 0 ≤ a.toInt ∧ a.toInt ≤ 6)) := by
  refine SP_of ⟨by decide, rfl⟩ (Nat.le_of_ble_eq_true rfl) ?_
  have e1668 : I (ad g 0) 1 = L := hI.1.2
  have b1669 := BT_get hI.1.1 0 1 2 (0) (0) (900) (by decide) 1 (by decide) (by decide)
  rw [e1668] at b1669
  refine WP_iload_n dX11_isDay_0 rfl ?_
  refine WQ_i2l dX11_isDay_1 (fun l1670 hl1670 => ?_)
  refine WP_lconst (0) dX11_isDay_2 rfl ?_
  obtain ⟨l1671, hl1671, el1671⟩ : ∃ v : Int64, v.toInt = 0 ∧ (0 : Int64) = v := ⟨_, rfl, rfl⟩
  rw [el1671]; clear el1671
  refine WP_ldc2 (6) dX11_isDay_3 klX11_365 ?_
  obtain ⟨l1672, hl1672, el1672⟩ : ∃ v : Int64, v.toInt = (6) ∧ ((6) : Int64) = v := ⟨_, rfl, rfl⟩
  rw [el1672]; clear el1672
  refine WP_callS3 dX11_isDay_6 ⟨⟨⟨by decide, by decide⟩, zX11_in⟩, lX11_52, tX11_in⟩ (sm_in hy hr hI l1670 l1671 l1672 ) (Nat.le_of_ble_eq_true rfl) ?_
  intro r Ia Ja Ra hq
  obtain ⟨⟨ea, eb, ec⟩, v1673, rfl, av1673, bv1673, cv1673⟩ := hq
  show WP _ _ _ _ (.int _ :: _) _ _ _ _
  rw [ea, eb, ec]
  clear ea eb ec Ia Ja Ra
  exact WP_zret dX11_isDay_9 rfl (nar_z (by omega)) ⟨⟨rfl, rfl, rfl⟩, _, rfl, by omega, by omega, by omega⟩
set_option maxHeartbeats 4000000 in
set_option maxRecDepth 100000 in
theorem sm_areCoins {g : GG} {n : Int} {L : Int32} (hy : Ly g)  {I : pI} {J : pJ} {R : pR} (hr : Rf g R) (hI : MP g n L I) (a : Int32)  : SP g mX11_areCoins [.int a] I J R (fun r I' J' R' => (I' = I ∧ J' = J ∧ R' = R) ∧ ∃ v : Int32, r = some (.int v) ∧ 0 ≤ v.toInt ∧ v.toInt ≤ 1 ∧ (v.toInt = 1 ↔ 0 ≤ a.toInt ∧ a.toInt ≤ 60)) := by
  refine SP_of ⟨by decide, rfl⟩ (Nat.le_of_ble_eq_true rfl) ?_
  have e1674 : I (ad g 0) 1 = L := hI.1.2
  have b1675 := BT_get hI.1.1 0 1 2 (0) (0) (900) (by decide) 1 (by decide) (by decide)
  rw [e1674] at b1675
  refine WP_iload_n dX11_areCoins_0 rfl ?_
  refine WQ_i2l dX11_areCoins_1 (fun l1676 hl1676 => ?_)
  refine WP_lconst (0) dX11_areCoins_2 rfl ?_
  obtain ⟨l1677, hl1677, el1677⟩ : ∃ v : Int64, v.toInt = 0 ∧ (0 : Int64) = v := ⟨_, rfl, rfl⟩
  rw [el1677]; clear el1677
  refine WP_ldc2 (60) dX11_areCoins_3 klX11_361 ?_
  obtain ⟨l1678, hl1678, el1678⟩ : ∃ v : Int64, v.toInt = (60) ∧ ((60) : Int64) = v := ⟨_, rfl, rfl⟩
  rw [el1678]; clear el1678
  refine WP_callS3 dX11_areCoins_6 ⟨⟨⟨by decide, by decide⟩, zX11_in⟩, lX11_52, tX11_in⟩ (sm_in hy hr hI l1676 l1677 l1678 ) (Nat.le_of_ble_eq_true rfl) ?_
  intro r Ia Ja Ra hq
  obtain ⟨⟨ea, eb, ec⟩, v1679, rfl, av1679, bv1679, cv1679⟩ := hq
  show WP _ _ _ _ (.int _ :: _) _ _ _ _
  rw [ea, eb, ec]
  clear ea eb ec Ia Ja Ra
  exact WP_zret dX11_areCoins_9 rfl (nar_z (by omega)) ⟨⟨rfl, rfl, rfl⟩, _, rfl, by omega, by omega, by omega⟩
set_option maxHeartbeats 4000000 in
set_option maxRecDepth 100000 in
theorem sm_isStore {g : GG} {n : Int} {L : Int32} (hy : Ly g)  {I : pI} {J : pJ} {R : pR} (hr : Rf g R) (hI : MP g n L I) (a : Int32)  : SP g mX11_isStore [.int a] I J R (fun r I' J' R' => (I' = I ∧ J' = J ∧ R' = R) ∧ ∃ v : Int32, r = some (.int v) ∧ 0 ≤ v.toInt ∧ v.toInt ≤ 1 ∧ (v.toInt = 1 ↔ 0 ≤ a.toInt ∧ a.toInt ≤ 5)) := by
  refine SP_of ⟨by decide, rfl⟩ (Nat.le_of_ble_eq_true rfl) ?_
  have e1680 : I (ad g 0) 1 = L := hI.1.2
  have b1681 := BT_get hI.1.1 0 1 2 (0) (0) (900) (by decide) 1 (by decide) (by decide)
  rw [e1680] at b1681
  refine WP_iload_n dX11_isStore_0 rfl ?_
  refine WQ_i2l dX11_isStore_1 (fun l1682 hl1682 => ?_)
  refine WP_lconst (0) dX11_isStore_2 rfl ?_
  obtain ⟨l1683, hl1683, el1683⟩ : ∃ v : Int64, v.toInt = 0 ∧ (0 : Int64) = v := ⟨_, rfl, rfl⟩
  rw [el1683]; clear el1683
  refine WP_ldc2 (5) dX11_isStore_3 klX11_378 ?_
  obtain ⟨l1684, hl1684, el1684⟩ : ∃ v : Int64, v.toInt = (5) ∧ ((5) : Int64) = v := ⟨_, rfl, rfl⟩
  rw [el1684]; clear el1684
  refine WP_callS3 dX11_isStore_6 ⟨⟨⟨by decide, by decide⟩, zX11_in⟩, lX11_52, tX11_in⟩ (sm_in hy hr hI l1682 l1683 l1684 ) (Nat.le_of_ble_eq_true rfl) ?_
  intro r Ia Ja Ra hq
  obtain ⟨⟨ea, eb, ec⟩, v1685, rfl, av1685, bv1685, cv1685⟩ := hq
  show WP _ _ _ _ (.int _ :: _) _ _ _ _
  rw [ea, eb, ec]
  clear ea eb ec Ia Ja Ra
  exact WP_zret dX11_isStore_9 rfl (nar_z (by omega)) ⟨⟨rfl, rfl, rfl⟩, _, rfl, by omega, by omega, by omega⟩
set_option maxHeartbeats 4000000 in
set_option maxRecDepth 100000 in
theorem sm_isWay {g : GG} {n : Int} {L : Int32} (hy : Ly g)  {I : pI} {J : pJ} {R : pR} (hr : Rf g R) (hI : MP g n L I) (a : Int32)  : SP g mX11_isWay [.int a] I J R (fun r I' J' R' => (I' = I ∧ J' = J ∧ R' = R) ∧ ∃ v : Int32, r = some (.int v) ∧ 0 ≤ v.toInt ∧ v.toInt ≤ 1 ∧ (v.toInt = 1 ↔ 0 ≤ a.toInt ∧ a.toInt ≤ 4)) := by
  refine SP_of ⟨by decide, rfl⟩ (Nat.le_of_ble_eq_true rfl) ?_
  have e1686 : I (ad g 0) 1 = L := hI.1.2
  have b1687 := BT_get hI.1.1 0 1 2 (0) (0) (900) (by decide) 1 (by decide) (by decide)
  rw [e1686] at b1687
  refine WP_iload_n dX11_isWay_0 rfl ?_
  refine WQ_i2l dX11_isWay_1 (fun l1688 hl1688 => ?_)
  refine WP_lconst (0) dX11_isWay_2 rfl ?_
  obtain ⟨l1689, hl1689, el1689⟩ : ∃ v : Int64, v.toInt = 0 ∧ (0 : Int64) = v := ⟨_, rfl, rfl⟩
  rw [el1689]; clear el1689
  refine WP_ldc2 (4) dX11_isWay_3 klX11_452 ?_
  obtain ⟨l1690, hl1690, el1690⟩ : ∃ v : Int64, v.toInt = (4) ∧ ((4) : Int64) = v := ⟨_, rfl, rfl⟩
  rw [el1690]; clear el1690
  refine WP_callS3 dX11_isWay_6 ⟨⟨⟨by decide, by decide⟩, zX11_in⟩, lX11_52, tX11_in⟩ (sm_in hy hr hI l1688 l1689 l1690 ) (Nat.le_of_ble_eq_true rfl) ?_
  intro r Ia Ja Ra hq
  obtain ⟨⟨ea, eb, ec⟩, v1691, rfl, av1691, bv1691, cv1691⟩ := hq
  show WP _ _ _ _ (.int _ :: _) _ _ _ _
  rw [ea, eb, ec]
  clear ea eb ec Ia Ja Ra
  exact WP_zret dX11_isWay_9 rfl (nar_z (by omega)) ⟨⟨rfl, rfl, rfl⟩, _, rfl, by omega, by omega, by omega⟩
set_option maxHeartbeats 4000000 in
set_option maxRecDepth 100000 in
theorem sm_isSlot {g : GG} {n : Int} {L : Int32} (hy : Ly g)  {I : pI} {J : pJ} {R : pR} (hr : Rf g R) (hI : MP g n L I) (a : Int32)  : SP g mX11_isSlot [.int a] I J R (fun r I' J' R' => (I' = I ∧ J' = J ∧ R' = R) ∧ ∃ v : Int32, r = some (.int v) ∧ 0 ≤ v.toInt ∧ v.toInt ≤ 1 ∧ (v.toInt = 1 ↔ 0 ≤ a.toInt ∧ a.toInt ≤ 2)) := by
  refine SP_of ⟨by decide, rfl⟩ (Nat.le_of_ble_eq_true rfl) ?_
  have e1692 : I (ad g 0) 1 = L := hI.1.2
  have b1693 := BT_get hI.1.1 0 1 2 (0) (0) (900) (by decide) 1 (by decide) (by decide)
  rw [e1692] at b1693
  refine WP_iload_n dX11_isSlot_0 rfl ?_
  refine WQ_i2l dX11_isSlot_1 (fun l1694 hl1694 => ?_)
  refine WP_lconst (0) dX11_isSlot_2 rfl ?_
  obtain ⟨l1695, hl1695, el1695⟩ : ∃ v : Int64, v.toInt = 0 ∧ (0 : Int64) = v := ⟨_, rfl, rfl⟩
  rw [el1695]; clear el1695
  refine WP_ldc2 (2) dX11_isSlot_3 klX11_376 ?_
  obtain ⟨l1696, hl1696, el1696⟩ : ∃ v : Int64, v.toInt = (2) ∧ ((2) : Int64) = v := ⟨_, rfl, rfl⟩
  rw [el1696]; clear el1696
  refine WP_callS3 dX11_isSlot_6 ⟨⟨⟨by decide, by decide⟩, zX11_in⟩, lX11_52, tX11_in⟩ (sm_in hy hr hI l1694 l1695 l1696 ) (Nat.le_of_ble_eq_true rfl) ?_
  intro r Ia Ja Ra hq
  obtain ⟨⟨ea, eb, ec⟩, v1697, rfl, av1697, bv1697, cv1697⟩ := hq
  show WP _ _ _ _ (.int _ :: _) _ _ _ _
  rw [ea, eb, ec]
  clear ea eb ec Ia Ja Ra
  exact WP_zret dX11_isSlot_9 rfl (nar_z (by omega)) ⟨⟨rfl, rfl, rfl⟩, _, rfl, by omega, by omega, by omega⟩
set_option maxHeartbeats 4000000 in
set_option maxRecDepth 100000 in
theorem sm_isMeet {g : GG} {n : Int} {L : Int32} (hy : Ly g)  {I : pI} {J : pJ} {R : pR} (hr : Rf g R) (hI : MP g n L I) (a : Int32) (b : Int32) (c : Int32)  : SP g mX11_isMeet [.int a, .int b, .int c] I J R (fun r I' J' R' => (I' = I ∧ J' = J ∧ R' = R) ∧ ∃ v : Int32, r = some (.int v) ∧ 0 ≤ v.toInt ∧ v.toInt ≤ 1 ∧ (v.toInt = 1 ↔ (0 ≤ a.toInt ∧ a.toInt ≤ 100) ∧ (0 ≤ b.toInt ∧ b.toInt ≤ 900) ∧ (0 ≤ c.toInt ∧ c.toInt ≤ 40))) := by
  refine SP_of ⟨by decide, rfl⟩ (Nat.le_of_ble_eq_true rfl) ?_
  have e1698 : I (ad g 0) 1 = L := hI.1.2
  have b1699 := BT_get hI.1.1 0 1 2 (0) (0) (900) (by decide) 1 (by decide) (by decide)
  rw [e1698] at b1699
  refine WP_iload_n dX11_isMeet_0 rfl ?_
  refine WQ_i2l dX11_isMeet_1 (fun l1700 hl1700 => ?_)
  refine WP_lconst (0) dX11_isMeet_2 rfl ?_
  obtain ⟨l1701, hl1701, el1701⟩ : ∃ v : Int64, v.toInt = 0 ∧ (0 : Int64) = v := ⟨_, rfl, rfl⟩
  rw [el1701]; clear el1701
  refine WP_ldc2 (100) dX11_isMeet_3 klX11_517 ?_
  obtain ⟨l1702, hl1702, el1702⟩ : ∃ v : Int64, v.toInt = (100) ∧ ((100) : Int64) = v := ⟨_, rfl, rfl⟩
  rw [el1702]; clear el1702
  refine WP_callS3 dX11_isMeet_6 ⟨⟨⟨by decide, by decide⟩, zX11_in⟩, lX11_52, tX11_in⟩ (sm_in hy hr hI l1700 l1701 l1702 ) (Nat.le_of_ble_eq_true rfl) ?_
  intro r Ia Ja Ra hq
  obtain ⟨⟨ea, eb, ec⟩, v1703, rfl, av1703, bv1703, cv1703⟩ := hq
  show WP _ _ _ _ (.int _ :: _) _ _ _ _
  rw [ea, eb, ec]
  clear ea eb ec Ia Ja Ra
  refine WQ_if_eq 40 dX11_isMeet_9 rfl (fun c1703 => ?_) (fun c1703 => ?_)
  · refine WQ_iconst (0) (0) dX11_isMeet_40 rfl rfl (fun v1705 hv1705 => ?_)
    exact WP_zret dX11_isMeet_41 rfl (nar_z (by omega)) ⟨⟨rfl, rfl, rfl⟩, _, rfl, by omega, by omega, by omega⟩
  · refine WP_iload_n dX11_isMeet_12 rfl ?_
    refine WQ_i2l dX11_isMeet_13 (fun l1706 hl1706 => ?_)
    refine WP_lconst (0) dX11_isMeet_14 rfl ?_
    obtain ⟨l1707, hl1707, el1707⟩ : ∃ v : Int64, v.toInt = 0 ∧ (0 : Int64) = v := ⟨_, rfl, rfl⟩
    rw [el1707]; clear el1707
    refine WP_ldc2 (900) dX11_isMeet_15 klX11_536 ?_
    obtain ⟨l1708, hl1708, el1708⟩ : ∃ v : Int64, v.toInt = (900) ∧ ((900) : Int64) = v := ⟨_, rfl, rfl⟩
    rw [el1708]; clear el1708
    refine WP_callS3 dX11_isMeet_18 ⟨⟨⟨by decide, by decide⟩, zX11_in⟩, lX11_52, tX11_in⟩ (sm_in hy hr hI l1706 l1707 l1708 ) (Nat.le_of_ble_eq_true rfl) ?_
    intro r Ia Ja Ra hq
    obtain ⟨⟨ea, eb, ec⟩, v1709, rfl, av1709, bv1709, cv1709⟩ := hq
    show WP _ _ _ _ (.int _ :: _) _ _ _ _
    rw [ea, eb, ec]
    clear ea eb ec Ia Ja Ra
    refine WQ_if_eq 40 dX11_isMeet_21 rfl (fun c1709 => ?_) (fun c1709 => ?_)
    · refine WQ_iconst (0) (0) dX11_isMeet_40 rfl rfl (fun v1711 hv1711 => ?_)
      exact WP_zret dX11_isMeet_41 rfl (nar_z (by omega)) ⟨⟨rfl, rfl, rfl⟩, _, rfl, by omega, by omega, by omega⟩
    · refine WP_iload_n dX11_isMeet_24 rfl ?_
      refine WQ_i2l dX11_isMeet_25 (fun l1712 hl1712 => ?_)
      refine WP_lconst (0) dX11_isMeet_26 rfl ?_
      obtain ⟨l1713, hl1713, el1713⟩ : ∃ v : Int64, v.toInt = 0 ∧ (0 : Int64) = v := ⟨_, rfl, rfl⟩
      rw [el1713]; clear el1713
      refine WP_ldc2 (40) dX11_isMeet_27 klX11_538 ?_
      obtain ⟨l1714, hl1714, el1714⟩ : ∃ v : Int64, v.toInt = (40) ∧ ((40) : Int64) = v := ⟨_, rfl, rfl⟩
      rw [el1714]; clear el1714
      refine WP_callS3 dX11_isMeet_30 ⟨⟨⟨by decide, by decide⟩, zX11_in⟩, lX11_52, tX11_in⟩ (sm_in hy hr hI l1712 l1713 l1714 ) (Nat.le_of_ble_eq_true rfl) ?_
      intro r Ia Ja Ra hq
      obtain ⟨⟨ea, eb, ec⟩, v1715, rfl, av1715, bv1715, cv1715⟩ := hq
      show WP _ _ _ _ (.int _ :: _) _ _ _ _
      rw [ea, eb, ec]
      clear ea eb ec Ia Ja Ra
      refine WQ_if_eq 40 dX11_isMeet_33 rfl (fun c1715 => ?_) (fun c1715 => ?_)
      · refine WQ_iconst (0) (0) dX11_isMeet_40 rfl rfl (fun v1717 hv1717 => ?_)
        exact WP_zret dX11_isMeet_41 rfl (nar_z (by omega)) ⟨⟨rfl, rfl, rfl⟩, _, rfl, by omega, by omega, by omega⟩
      · refine WQ_iconst (1) (1) dX11_isMeet_36 rfl rfl (fun v1718 hv1718 => ?_)
        refine WP_goto 41 dX11_isMeet_37 rfl ?_
        exact WP_zret dX11_isMeet_41 rfl (nar_z (by omega)) ⟨⟨rfl, rfl, rfl⟩, _, rfl, by omega, by omega, by omega⟩
set_option maxHeartbeats 4000000 in
set_option maxRecDepth 100000 in
theorem sm_isSort {g : GG} {n : Int} {L : Int32} (hy : Ly g)  {I : pI} {J : pJ} {R : pR} (hr : Rf g R) (hI : MP g n L I) (a : Int32)  : SP g mX11_isSort [.ref (ad g 0), .int a] I J R (fun r I' J' R' => (I' = I ∧ J' = J ∧ R' = R) ∧ ∃ v : Int32, r = some (.int v) ∧ 0 ≤ v.toInt ∧ v.toInt ≤ 1 ∧ (v.toInt = 1 → 0 ≤ a.toInt ∧ a.toInt ≤ 3 ∧ a.toInt < (I (ad g 0) 10).toInt)) := by
  refine SP_of ⟨by decide, rfl⟩ (Nat.le_of_ble_eq_true rfl) ?_
  have e1719 : I (ad g 0) 1 = L := hI.1.2
  have b1720 := BT_get hI.1.1 0 1 2 (0) (0) (900) (by decide) 1 (by decide) (by decide)
  rw [e1719] at b1720
  refine WP_iload_n dX11_isSort_0 rfl ?_
  refine WQ_i2l dX11_isSort_1 (fun l1721 hl1721 => ?_)
  refine WP_lconst (0) dX11_isSort_2 rfl ?_
  obtain ⟨l1722, hl1722, el1722⟩ : ∃ v : Int64, v.toInt = 0 ∧ (0 : Int64) = v := ⟨_, rfl, rfl⟩
  rw [el1722]; clear el1722
  refine WP_aload_n dX11_isSort_3 rfl ?_
  refine WQ_geti dX11_isSort_4 fX11_329 rfl (ly_is hy 0 11 rfl) (BT_get hI.1.1 0 10 11 (0) (0) (4) (by decide) 10 (by decide) (by decide)) (fun v1723 ev1723 av1723 bv1723 => ?_)
  refine WQ_i2l dX11_isSort_7 (fun l1724 hl1724 => ?_)
  refine WP_lconst (1) dX11_isSort_8 rfl ?_
  obtain ⟨l1725, hl1725, el1725⟩ : ∃ v : Int64, v.toInt = 1 ∧ (1 : Int64) = v := ⟨_, rfl, rfl⟩
  rw [el1725]; clear el1725
  refine WQ_lsubi dX11_isSort_9 (by omega) (by omega) (fun l1726 hl1726 => ?_)
  refine WP_callS3 dX11_isSort_10 ⟨⟨⟨by decide, by decide⟩, zX11_in⟩, lX11_52, tX11_in⟩ (sm_in hy hr hI l1721 l1722 l1726 ) (Nat.le_of_ble_eq_true rfl) ?_
  intro r Ia Ja Ra hq
  obtain ⟨⟨ea, eb, ec⟩, v1727, rfl, av1727, bv1727, cv1727⟩ := hq
  show WP _ _ _ _ (.int _ :: _) _ _ _ _
  rw [ea, eb, ec]
  clear ea eb ec Ia Ja Ra
  exact WP_zret dX11_isSort_13 rfl (nar_z (by omega)) ⟨⟨rfl, rfl, rfl⟩, _, rfl, by omega, by omega, by (try rw [ev1723]); omega⟩
set_option maxHeartbeats 4000000 in
set_option maxRecDepth 100000 in
theorem sm_isThing {g : GG} {n : Int} {L : Int32} (hy : Ly g)  {I : pI} {J : pJ} {R : pR} (hr : Rf g R) (hI : MP g n L I) (a : Int32)  : SP g mX11_isThing [.ref (ad g 0), .int a] I J R (fun r I' J' R' => (I' = I ∧ J' = J ∧ R' = R) ∧ ∃ v : Int32, r = some (.int v) ∧ 0 ≤ v.toInt ∧ v.toInt ≤ 1 ∧ (v.toInt = 1 → 0 ≤ a.toInt ∧ a.toInt ≤ 2)) := by
  refine SP_of ⟨by decide, rfl⟩ (Nat.le_of_ble_eq_true rfl) ?_
  have e1728 : I (ad g 0) 1 = L := hI.1.2
  have b1729 := BT_get hI.1.1 0 1 2 (0) (0) (900) (by decide) 1 (by decide) (by decide)
  rw [e1728] at b1729
  refine WP_iload_n dX11_isThing_0 rfl ?_
  refine WQ_i2l dX11_isThing_1 (fun l1730 hl1730 => ?_)
  refine WP_lconst (0) dX11_isThing_2 rfl ?_
  obtain ⟨l1731, hl1731, el1731⟩ : ∃ v : Int64, v.toInt = 0 ∧ (0 : Int64) = v := ⟨_, rfl, rfl⟩
  rw [el1731]; clear el1731
  refine WP_aload_n dX11_isThing_3 rfl ?_
  refine WQ_geti dX11_isThing_4 fX11_332 rfl (ly_is hy 0 11 rfl) (BT_get hI.1.1 0 11 12 (0) (0) (3) (by decide) 11 (by decide) (by decide)) (fun v1732 ev1732 av1732 bv1732 => ?_)
  refine WQ_i2l dX11_isThing_7 (fun l1733 hl1733 => ?_)
  refine WP_lconst (1) dX11_isThing_8 rfl ?_
  obtain ⟨l1734, hl1734, el1734⟩ : ∃ v : Int64, v.toInt = 1 ∧ (1 : Int64) = v := ⟨_, rfl, rfl⟩
  rw [el1734]; clear el1734
  refine WQ_lsubi dX11_isThing_9 (by omega) (by omega) (fun l1735 hl1735 => ?_)
  refine WP_callS3 dX11_isThing_10 ⟨⟨⟨by decide, by decide⟩, zX11_in⟩, lX11_52, tX11_in⟩ (sm_in hy hr hI l1730 l1731 l1735 ) (Nat.le_of_ble_eq_true rfl) ?_
  intro r Ia Ja Ra hq
  obtain ⟨⟨ea, eb, ec⟩, v1736, rfl, av1736, bv1736, cv1736⟩ := hq
  show WP _ _ _ _ (.int _ :: _) _ _ _ _
  rw [ea, eb, ec]
  clear ea eb ec Ia Ja Ra
  exact WP_zret dX11_isThing_13 rfl (nar_z (by omega)) ⟨⟨rfl, rfl, rfl⟩, _, rfl, by omega, by omega, by omega⟩
set_option maxHeartbeats 4000000 in
set_option maxRecDepth 100000 in
theorem sm_fault {g : GG} {n : Int} {L : Int32} (hy : Ly g)  {I : pI} {J : pJ} {R : pR} (hr : Rf g R) (hI : MP g n L I) (a : Int32)  : SP g mX11_fault [.ref (ad g 0), .int a] I J R (fun r I' J' R' => (I' = I ∧ J' = J ∧ R' = R) ∧ ∃ v : Int32, r = some (.int v)) := by
  refine SP_of ⟨by decide, rfl⟩ (Nat.le_of_ble_eq_true rfl) ?_
  have e1737 : I (ad g 0) 1 = L := hI.1.2
  have b1738 := BT_get hI.1.1 0 1 2 (0) (0) (900) (by decide) 1 (by decide) (by decide)
  rw [e1737] at b1738
  refine WP_iload_n dX11_fault_0 rfl ?_
  have jn24_1743 : ∀ (v1743 : Int32), WP g mX11_fault 24 [(0, .ref (ad g 0)), (1, .int a)] [.int v1743] I J R (fun r I' J' R' => (I' = I ∧ J' = J ∧ R' = R) ∧ ∃ v : Int32, r = some (.int v)) := by
    intro v1743 
    exact WP_iret dX11_fault_24 rfl ⟨⟨rfl, rfl, rfl⟩, _, rfl⟩
  refine WX_if_ne 11 dX11_fault_1 rfl ?_ ?_
  · refine WP_iload_n dX11_fault_11 rfl ?_
    refine WQ_iconst (1) (1) dX11_fault_12 rfl rfl (fun v1745 hv1745 => ?_)
    refine WX_icmp_ne 23 dX11_fault_13 rfl ?_ ?_
    · refine WQ_iconst (-1) (-1) dX11_fault_23 rfl rfl (fun v1746 hv1746 => ?_)
      exact WP_sub (fc rfl (fc rfl fn)) (jn24_1743 v1746)
    · refine WP_aload_n dX11_fault_16 rfl ?_
      refine WQ_getiu dX11_fault_17 fX11_10 rfl (ly_is hy 0 11 rfl) (fun v1747 ev1747 => ?_)
      refine WP_goto 24 dX11_fault_20 rfl ?_
      exact WP_sub (fc rfl (fc rfl fn)) (jn24_1743 v1747)
  · refine WP_aload_n dX11_fault_4 rfl ?_
    refine WQ_getiu dX11_fault_5 fX11_3 rfl (ly_is hy 0 11 rfl) (fun v1748 ev1748 => ?_)
    refine WP_goto 24 dX11_fault_8 rfl ?_
    exact WP_sub (fc rfl (fc rfl fn)) (jn24_1743 v1748)
set_option maxHeartbeats 4000000 in
set_option maxRecDepth 100000 in
theorem sm_restTurns {g : GG} {n : Int} {L : Int32} (hy : Ly g)  {I : pI} {J : pJ} {R : pR} (hr : Rf g R) (hI : MP g n L I)   : SP g mX11_restTurns [.ref (ad g 0)] I J R (fun r I' J' R' => (I' = I ∧ J' = J ∧ R' = R) ∧ ∃ v : Int32, r = some (.int v)) := by
  refine SP_of ⟨by decide, rfl⟩ (Nat.le_of_ble_eq_true rfl) ?_
  have e1749 : I (ad g 0) 1 = L := hI.1.2
  have b1750 := BT_get hI.1.1 0 1 2 (0) (0) (900) (by decide) 1 (by decide) (by decide)
  rw [e1749] at b1750
  refine WP_aload_n dX11_restTurns_0 rfl ?_
  refine WQ_getiu dX11_restTurns_1 fX11_304 rfl (ly_is hy 0 11 rfl) (fun v1751 ev1751 => ?_)
  exact WP_iret dX11_restTurns_4 rfl ⟨⟨rfl, rfl, rfl⟩, _, rfl⟩
set_option maxHeartbeats 4000000 in
set_option maxRecDepth 100000 in
theorem sm_count {g : GG} {n : Int} {L : Int32} (hy : Ly g)  {I : pI} {J : pJ} {R : pR} (hr : Rf g R) (hI : MP g n L I) (a : Int32)  : SP g mX11_count [.ref (ad g 0), .int a] I J R (fun r I' J' R' => (I' = I ∧ J' = J ∧ R' = R) ∧ ∃ v : Int32, r = some (.int v)) := by
  refine SP_of ⟨by decide, rfl⟩ (Nat.le_of_ble_eq_true rfl) ?_
  have e1752 : I (ad g 0) 1 = L := hI.1.2
  have b1753 := BT_get hI.1.1 0 1 2 (0) (0) (900) (by decide) 1 (by decide) (by decide)
  rw [e1752] at b1753
  refine WP_iload_n dX11_count_0 rfl ?_
  have jn24_1757 : ∀ (v1757 : Int32), WP g mX11_count 24 [(0, .ref (ad g 0)), (1, .int a)] [.int v1757] I J R (fun r I' J' R' => (I' = I ∧ J' = J ∧ R' = R) ∧ ∃ v : Int32, r = some (.int v)) := by
    intro v1757 
    exact WP_iret dX11_count_24 rfl ⟨⟨rfl, rfl, rfl⟩, _, rfl⟩
  refine WX_if_ne 11 dX11_count_1 rfl ?_ ?_
  · refine WP_iload_n dX11_count_11 rfl ?_
    refine WQ_iconst (1) (1) dX11_count_12 rfl rfl (fun v1759 hv1759 => ?_)
    refine WX_icmp_ne 23 dX11_count_13 rfl ?_ ?_
    · refine WQ_iconst (-1) (-1) dX11_count_23 rfl rfl (fun v1760 hv1760 => ?_)
      exact WP_sub (fc rfl (fc rfl fn)) (jn24_1757 v1760)
    · refine WP_aload_n dX11_count_16 rfl ?_
      refine WQ_getim dX11_count_17 fX11_75 rfl (ly_is hy 0 11 rfl) e1752 ?_
      refine WP_goto 24 dX11_count_20 rfl ?_
      exact WP_sub (fc rfl (fc rfl fn)) (jn24_1757 L)
  · refine WP_aload_n dX11_count_4 rfl ?_
    refine WQ_getiu dX11_count_5 fX11_335 rfl (ly_is hy 0 11 rfl) (fun v1761 ev1761 => ?_)
    refine WP_goto 24 dX11_count_8 rfl ?_
    exact WP_sub (fc rfl (fc rfl fn)) (jn24_1757 v1761)
set_option maxHeartbeats 4000000 in
set_option maxRecDepth 100000 in
theorem sm_earns {g : GG} {n : Int} {L : Int32} (hy : Ly g)  {I : pI} {J : pJ} {R : pR} (hr : Rf g R) (hI : MP g n L I) (a : Int32) (b : Int32)  : SP g mX11_earns [.ref (ad g 0), .int a, .int b] I J R (fun r I' J' R' => (I' = I ∧ J' = J ∧ R' = R) ∧ ∃ v : Int32, r = some (.int v)) := by
  refine SP_of ⟨by decide, rfl⟩ (Nat.le_of_ble_eq_true rfl) ?_
  have e1762 : I (ad g 0) 1 = L := hI.1.2
  have b1763 := BT_get hI.1.1 0 1 2 (0) (0) (900) (by decide) 1 (by decide) (by decide)
  rw [e1762] at b1763
  refine WP_aload_n dX11_earns_0 rfl ?_
  refine WP_iload_n dX11_earns_1 rfl ?_
  refine WP_callV1 (k := 11) dX11_earns_2 ⟨⟨⟨by decide, by decide⟩, zX11_isSort⟩, lX11_367, by decide, rfl, vX11_isSort.1, vX11_isSort.2⟩ (ly_is hy 0 11 rfl) (sm_isSort hy hr hI a ) (Nat.le_of_ble_eq_true rfl) ?_
  intro r Ia Ja Ra hq
  obtain ⟨⟨ea, eb, ec⟩, v1764, rfl, av1764, bv1764, cv1764⟩ := hq
  show WP _ _ _ _ (.int _ :: _) _ _ _ _
  rw [ea, eb, ec]
  clear ea eb ec Ia Ja Ra
  obtain ⟨w1765, ew1765⟩ : ∃ w : Int32, I (ad g 0) 10 = w := ⟨_, rfl⟩
  have bw1765 := BT_get hI.1.1 0 10 11 (0) (0) (4) (by decide) 10 (by decide) (by decide)
  rw [ew1765] at bw1765
  rw [ew1765] at cv1764
  have jn31_1774 : ∀ (v1774 : Int32), -2 ≤ v1774.toInt → v1774.toInt ≤ 20 → WP g mX11_earns 31 [(0, .ref (ad g 0)), (1, .int a), (2, .int b)] [.int v1774] I J R (fun r I' J' R' => (I' = I ∧ J' = J ∧ R' = R) ∧ ∃ v : Int32, r = some (.int v)) := by
    intro v1774 av1774 bv1774
    exact WP_iret dX11_earns_31 rfl ⟨⟨rfl, rfl, rfl⟩, _, rfl⟩
  refine WQ_if_eq 29 dX11_earns_5 rfl (fun c1775 => ?_) (fun c1775 => ?_)
  · refine WQ_bipush (-2) (-2) dX11_earns_29 rfl rfl (fun v1777 hv1777 => ?_)
    exact WP_sub (fc rfl (fc rfl (fc rfl fn))) (jn31_1774 v1777 (by omega) (by omega))
  · refine WP_iload_n dX11_earns_8 rfl ?_
    refine WP_callS1 dX11_earns_9 ⟨⟨⟨by decide, by decide⟩, zX11_isDay⟩, lX11_370, tX11_isDay⟩ (sm_isDay hy hr hI b ) (Nat.le_of_ble_eq_true rfl) ?_
    intro r Ia Ja Ra hq
    obtain ⟨⟨ea, eb, ec⟩, v1778, rfl, av1778, bv1778, cv1778⟩ := hq
    show WP _ _ _ _ (.int _ :: _) _ _ _ _
    rw [ea, eb, ec]
    clear ea eb ec Ia Ja Ra
    refine WQ_if_eq 29 dX11_earns_12 rfl (fun c1778 => ?_) (fun c1778 => ?_)
    · refine WQ_bipush (-2) (-2) dX11_earns_29 rfl rfl (fun v1780 hv1780 => ?_)
      exact WP_sub (fc rfl (fc rfl (fc rfl fn))) (jn31_1774 v1780 (by omega) (by omega))
    · refine WP_aload_n dX11_earns_15 rfl ?_
      refine WP_getr dX11_earns_16 fX11_252 rfl (ly_is hy 0 11 rfl) (rf hr 0 38 20 (by decide)) ?_
      refine WQ_bipush (7) (7) dX11_earns_19 rfl rfl (fun v1781 hv1781 => ?_)
      refine WP_iload_n dX11_earns_21 rfl ?_
      refine WQ_imulK (7) dX11_earns_22 hv1781 (by omega) (by omega) (fun v1782 hv1782 => ?_)
      refine WP_iload_n dX11_earns_23 rfl ?_
      refine WQ_iadd dX11_earns_24 (by omega) (by omega) (fun v1783 hv1783 => ?_)
      refine WQ_iald dX11_earns_25 (ly_is hy 20 13 rfl) (ly_n hy 20 28 rfl) (by omega) (by omega) (fun q hq => BT_get hI.1.1 20 0 28 (0) (0) (20) (by decide) q (Nat.zero_le _) hq) (fun v1784 av1784 bv1784 ev1784 => ?_)
      clear ev1784
      refine WP_goto 31 dX11_earns_26 rfl ?_
      exact WP_sub (fc rfl (fc rfl (fc rfl fn))) (jn31_1774 v1784 (by omega) (by omega))
set_option maxHeartbeats 4000000 in
set_option maxRecDepth 100000 in
theorem sm_price {g : GG} {n : Int} {L : Int32} (hy : Ly g)  {I : pI} {J : pJ} {R : pR} (hr : Rf g R) (hI : MP g n L I) (a : Int32) (b : Int32)  : SP g mX11_price [.ref (ad g 0), .int a, .int b] I J R (fun r I' J' R' => (I' = I ∧ J' = J ∧ R' = R) ∧ ∃ v : Int32, r = some (.int v)) := by
  refine SP_of ⟨by decide, rfl⟩ (Nat.le_of_ble_eq_true rfl) ?_
  have e1785 : I (ad g 0) 1 = L := hI.1.2
  have b1786 := BT_get hI.1.1 0 1 2 (0) (0) (900) (by decide) 1 (by decide) (by decide)
  rw [e1785] at b1786
  refine WP_aload_n dX11_price_0 rfl ?_
  refine WP_iload_n dX11_price_1 rfl ?_
  refine WP_callV1 (k := 11) dX11_price_2 ⟨⟨⟨by decide, by decide⟩, zX11_isThing⟩, lX11_373, by decide, rfl, vX11_isThing.1, vX11_isThing.2⟩ (ly_is hy 0 11 rfl) (sm_isThing hy hr hI a ) (Nat.le_of_ble_eq_true rfl) ?_
  intro r Ia Ja Ra hq
  obtain ⟨⟨ea, eb, ec⟩, v1787, rfl, av1787, bv1787, cv1787⟩ := hq
  show WP _ _ _ _ (.int _ :: _) _ _ _ _
  rw [ea, eb, ec]
  clear ea eb ec Ia Ja Ra
  have jn31_1796 : ∀ (v1796 : Int32), -2 ≤ v1796.toInt → v1796.toInt ≤ 20 → WP g mX11_price 31 [(0, .ref (ad g 0)), (1, .int a), (2, .int b)] [.int v1796] I J R (fun r I' J' R' => (I' = I ∧ J' = J ∧ R' = R) ∧ ∃ v : Int32, r = some (.int v)) := by
    intro v1796 av1796 bv1796
    exact WP_iret dX11_price_31 rfl ⟨⟨rfl, rfl, rfl⟩, _, rfl⟩
  refine WQ_if_eq 29 dX11_price_5 rfl (fun c1797 => ?_) (fun c1797 => ?_)
  · refine WQ_bipush (-2) (-2) dX11_price_29 rfl rfl (fun v1799 hv1799 => ?_)
    exact WP_sub (fc rfl (fc rfl (fc rfl fn))) (jn31_1796 v1799 (by omega) (by omega))
  · refine WP_iload_n dX11_price_8 rfl ?_
    refine WP_callS1 dX11_price_9 ⟨⟨⟨by decide, by decide⟩, zX11_isDay⟩, lX11_370, tX11_isDay⟩ (sm_isDay hy hr hI b ) (Nat.le_of_ble_eq_true rfl) ?_
    intro r Ia Ja Ra hq
    obtain ⟨⟨ea, eb, ec⟩, v1800, rfl, av1800, bv1800, cv1800⟩ := hq
    show WP _ _ _ _ (.int _ :: _) _ _ _ _
    rw [ea, eb, ec]
    clear ea eb ec Ia Ja Ra
    refine WQ_if_eq 29 dX11_price_12 rfl (fun c1800 => ?_) (fun c1800 => ?_)
    · refine WQ_bipush (-2) (-2) dX11_price_29 rfl rfl (fun v1802 hv1802 => ?_)
      exact WP_sub (fc rfl (fc rfl (fc rfl fn))) (jn31_1796 v1802 (by omega) (by omega))
    · refine WP_aload_n dX11_price_15 rfl ?_
      refine WP_getr dX11_price_16 fX11_257 rfl (ly_is hy 0 11 rfl) (rf hr 0 40 22 (by decide)) ?_
      refine WQ_bipush (7) (7) dX11_price_19 rfl rfl (fun v1803 hv1803 => ?_)
      refine WP_iload_n dX11_price_21 rfl ?_
      refine WQ_imulK (7) dX11_price_22 hv1803 (by omega) (by omega) (fun v1804 hv1804 => ?_)
      refine WP_iload_n dX11_price_23 rfl ?_
      refine WQ_iadd dX11_price_24 (by omega) (by omega) (fun v1805 hv1805 => ?_)
      refine WQ_iald dX11_price_25 (ly_is hy 22 13 rfl) (ly_n hy 22 21 rfl) (by omega) (by omega) (fun q hq => BT_get hI.1.1 22 0 21 (0) (0) (20) (by decide) q (Nat.zero_le _) hq) (fun v1806 av1806 bv1806 ev1806 => ?_)
      clear ev1806
      refine WP_goto 31 dX11_price_26 rfl ?_
      exact WP_sub (fc rfl (fc rfl (fc rfl fn))) (jn31_1796 v1806 (by omega) (by omega))
set_option maxHeartbeats 4000000 in
set_option maxRecDepth 100000 in
theorem sm_made {g : GG} {n : Int} {L : Int32} (hy : Ly g)  {I : pI} {J : pJ} {R : pR} (hr : Rf g R) (hI : MP g n L I) (a : Int32) (b : Int32)  : SP g mX11_made [.ref (ad g 0), .int a, .int b] I J R (fun r I' J' R' => (I' = I ∧ J' = J ∧ R' = R) ∧ ∃ v : Int32, r = some (.int v)) := by
  refine SP_of ⟨by decide, rfl⟩ (Nat.le_of_ble_eq_true rfl) ?_
  have e1807 : I (ad g 0) 1 = L := hI.1.2
  have b1808 := BT_get hI.1.1 0 1 2 (0) (0) (900) (by decide) 1 (by decide) (by decide)
  rw [e1807] at b1808
  refine WP_aload_n dX11_made_0 rfl ?_
  refine WP_iload_n dX11_made_1 rfl ?_
  refine WP_callV1 (k := 11) dX11_made_2 ⟨⟨⟨by decide, by decide⟩, zX11_isThing⟩, lX11_373, by decide, rfl, vX11_isThing.1, vX11_isThing.2⟩ (ly_is hy 0 11 rfl) (sm_isThing hy hr hI a ) (Nat.le_of_ble_eq_true rfl) ?_
  intro r Ia Ja Ra hq
  obtain ⟨⟨ea, eb, ec⟩, v1809, rfl, av1809, bv1809, cv1809⟩ := hq
  show WP _ _ _ _ (.int _ :: _) _ _ _ _
  rw [ea, eb, ec]
  clear ea eb ec Ia Ja Ra
  have jn31_1818 : ∀ (v1818 : Int32), -2 ≤ v1818.toInt → v1818.toInt ≤ 999 → WP g mX11_made 31 [(0, .ref (ad g 0)), (1, .int a), (2, .int b)] [.int v1818] I J R (fun r I' J' R' => (I' = I ∧ J' = J ∧ R' = R) ∧ ∃ v : Int32, r = some (.int v)) := by
    intro v1818 av1818 bv1818
    exact WP_iret dX11_made_31 rfl ⟨⟨rfl, rfl, rfl⟩, _, rfl⟩
  refine WQ_if_eq 29 dX11_made_5 rfl (fun c1819 => ?_) (fun c1819 => ?_)
  · refine WQ_bipush (-2) (-2) dX11_made_29 rfl rfl (fun v1821 hv1821 => ?_)
    exact WP_sub (fc rfl (fc rfl (fc rfl fn))) (jn31_1818 v1821 (by omega) (by omega))
  · refine WP_iload_n dX11_made_8 rfl ?_
    refine WP_callS1 dX11_made_9 ⟨⟨⟨by decide, by decide⟩, zX11_isDay⟩, lX11_370, tX11_isDay⟩ (sm_isDay hy hr hI b ) (Nat.le_of_ble_eq_true rfl) ?_
    intro r Ia Ja Ra hq
    obtain ⟨⟨ea, eb, ec⟩, v1822, rfl, av1822, bv1822, cv1822⟩ := hq
    show WP _ _ _ _ (.int _ :: _) _ _ _ _
    rw [ea, eb, ec]
    clear ea eb ec Ia Ja Ra
    refine WQ_if_eq 29 dX11_made_12 rfl (fun c1822 => ?_) (fun c1822 => ?_)
    · refine WQ_bipush (-2) (-2) dX11_made_29 rfl rfl (fun v1824 hv1824 => ?_)
      exact WP_sub (fc rfl (fc rfl (fc rfl fn))) (jn31_1818 v1824 (by omega) (by omega))
    · refine WP_aload_n dX11_made_15 rfl ?_
      refine WP_getr dX11_made_16 fX11_259 rfl (ly_is hy 0 11 rfl) (rf hr 0 41 23 (by decide)) ?_
      refine WQ_bipush (7) (7) dX11_made_19 rfl rfl (fun v1825 hv1825 => ?_)
      refine WP_iload_n dX11_made_21 rfl ?_
      refine WQ_imulK (7) dX11_made_22 hv1825 (by omega) (by omega) (fun v1826 hv1826 => ?_)
      refine WP_iload_n dX11_made_23 rfl ?_
      refine WQ_iadd dX11_made_24 (by omega) (by omega) (fun v1827 hv1827 => ?_)
      refine WQ_iald dX11_made_25 (ly_is hy 23 13 rfl) (ly_n hy 23 21 rfl) (by omega) (by omega) (fun q hq => BT_get hI.1.1 23 0 21 (-1) (0) (999) (by decide) q (Nat.zero_le _) hq) (fun v1828 av1828 bv1828 ev1828 => ?_)
      clear ev1828
      refine WP_goto 31 dX11_made_26 rfl ?_
      exact WP_sub (fc rfl (fc rfl (fc rfl fn))) (jn31_1818 v1828 (by omega) (by omega))
set_option maxHeartbeats 4000000 in
set_option maxRecDepth 100000 in
theorem sm_wants {g : GG} {n : Int} {L : Int32} (hy : Ly g)  {I : pI} {J : pJ} {R : pR} (hr : Rf g R) (hI : MP g n L I) (a : Int32) (b : Int32) (c : Int32)  : SP g mX11_wants [.ref (ad g 0), .int a, .int b, .int c] I J R (fun r I' J' R' => (I' = I ∧ J' = J ∧ R' = R) ∧ ∃ v : Int32, r = some (.int v)) := by
  refine SP_of ⟨by decide, rfl⟩ (Nat.le_of_ble_eq_true rfl) ?_
  have e1829 : I (ad g 0) 1 = L := hI.1.2
  have b1830 := BT_get hI.1.1 0 1 2 (0) (0) (900) (by decide) 1 (by decide) (by decide)
  rw [e1829] at b1830
  refine WP_aload_n dX11_wants_0 rfl ?_
  refine WP_iload_n dX11_wants_1 rfl ?_
  refine WP_callV1 (k := 11) dX11_wants_2 ⟨⟨⟨by decide, by decide⟩, zX11_isSort⟩, lX11_367, by decide, rfl, vX11_isSort.1, vX11_isSort.2⟩ (ly_is hy 0 11 rfl) (sm_isSort hy hr hI a ) (Nat.le_of_ble_eq_true rfl) ?_
  intro r Ia Ja Ra hq
  obtain ⟨⟨ea, eb, ec⟩, v1831, rfl, av1831, bv1831, cv1831⟩ := hq
  show WP _ _ _ _ (.int _ :: _) _ _ _ _
  rw [ea, eb, ec]
  clear ea eb ec Ia Ja Ra
  obtain ⟨w1832, ew1832⟩ : ∃ w : Int32, I (ad g 0) 10 = w := ⟨_, rfl⟩
  have bw1832 := BT_get hI.1.1 0 10 11 (0) (0) (4) (by decide) 10 (by decide) (by decide)
  rw [ew1832] at bw1832
  rw [ew1832] at cv1831
  refine WQ_if_eq 27 dX11_wants_5 rfl (fun c1832 => ?_) (fun c1832 => ?_)
  · refine WQ_bipush (-2) (-2) dX11_wants_27 rfl rfl (fun v1834 hv1834 => ?_)
    exact WP_iret dX11_wants_29 rfl ⟨⟨rfl, rfl, rfl⟩, _, rfl⟩
  · refine WP_iload_n dX11_wants_8 rfl ?_
    refine WP_callS1 dX11_wants_9 ⟨⟨⟨by decide, by decide⟩, zX11_isDay⟩, lX11_370, tX11_isDay⟩ (sm_isDay hy hr hI b ) (Nat.le_of_ble_eq_true rfl) ?_
    intro r Ia Ja Ra hq
    obtain ⟨⟨ea, eb, ec⟩, v1835, rfl, av1835, bv1835, cv1835⟩ := hq
    show WP _ _ _ _ (.int _ :: _) _ _ _ _
    rw [ea, eb, ec]
    clear ea eb ec Ia Ja Ra
    refine WQ_if_eq 27 dX11_wants_12 rfl (fun c1835 => ?_) (fun c1835 => ?_)
    · refine WQ_bipush (-2) (-2) dX11_wants_27 rfl rfl (fun v1837 hv1837 => ?_)
      exact WP_iret dX11_wants_29 rfl ⟨⟨rfl, rfl, rfl⟩, _, rfl⟩
    · refine WP_iload_n dX11_wants_15 rfl ?_
      refine WQ_i2l dX11_wants_16 (fun l1838 hl1838 => ?_)
      refine WP_lconst (0) dX11_wants_17 rfl ?_
      obtain ⟨l1839, hl1839, el1839⟩ : ∃ v : Int64, v.toInt = 0 ∧ (0 : Int64) = v := ⟨_, rfl, rfl⟩
      rw [el1839]; clear el1839
      refine WP_ldc2 (2) dX11_wants_18 klX11_376 ?_
      obtain ⟨l1840, hl1840, el1840⟩ : ∃ v : Int64, v.toInt = (2) ∧ ((2) : Int64) = v := ⟨_, rfl, rfl⟩
      rw [el1840]; clear el1840
      refine WP_callS3 dX11_wants_21 ⟨⟨⟨by decide, by decide⟩, zX11_in⟩, lX11_52, tX11_in⟩ (sm_in hy hr hI l1838 l1839 l1840 ) (Nat.le_of_ble_eq_true rfl) ?_
      intro r Ia Ja Ra hq
      obtain ⟨⟨ea, eb, ec⟩, v1841, rfl, av1841, bv1841, cv1841⟩ := hq
      show WP _ _ _ _ (.int _ :: _) _ _ _ _
      rw [ea, eb, ec]
      clear ea eb ec Ia Ja Ra
      refine WQ_if_ne 30 dX11_wants_24 rfl (fun c1841 => ?_) (fun c1841 => ?_)
      · refine WQ_bipush (7) (7) dX11_wants_30 rfl rfl (fun v1843 hv1843 => ?_)
        refine WP_iload_n dX11_wants_32 rfl ?_
        refine WQ_imulK (7) dX11_wants_33 hv1843 (by omega) (by omega) (fun v1844 hv1844 => ?_)
        refine WP_iload_n dX11_wants_34 rfl ?_
        refine WQ_iadd dX11_wants_35 (by omega) (by omega) (fun v1845 hv1845 => ?_)
        refine WP_istore (ls' := [(0, _), (1, _), (2, _), (3, _), (4, _)]) dX11_wants_36 (by decide) rfl ?_
        refine WP_iload_n dX11_wants_38 rfl ?_
        have jn74_1851 : ∀ (v1851 : Int32), -1 ≤ v1851.toInt → v1851.toInt ≤ 99 → WP g mX11_wants 74 [(0, .ref (ad g 0)), (1, .int a), (2, .int b), (3, .int c), (4, .int v1845)] [.int v1851] I J R (fun r I' J' R' => (I' = I ∧ J' = J ∧ R' = R) ∧ ∃ v : Int32, r = some (.int v)) := by
          intro v1851 av1851 bv1851
          exact WP_iret dX11_wants_74 rfl ⟨⟨rfl, rfl, rfl⟩, _, rfl⟩
        refine WQ_if_ne 52 dX11_wants_39 rfl (fun c1852 => ?_) (fun c1852 => ?_)
        · refine WP_iload_n dX11_wants_52 rfl ?_
          refine WQ_iconst (1) (1) dX11_wants_53 rfl rfl (fun v1854 hv1854 => ?_)
          refine WQ_icmp_ne 67 dX11_wants_54 rfl (fun c1854 => ?_) (fun c1854 => ?_)
          · refine WP_aload_n dX11_wants_67 rfl ?_
            refine WP_getr dX11_wants_68 fX11_267 rfl (ly_is hy 0 11 rfl) (rf hr 0 44 26 (by decide)) ?_
            refine WP_iload dX11_wants_71 rfl ?_
            refine WQ_iald dX11_wants_73 (ly_is hy 26 13 rfl) (ly_n hy 26 28 rfl) (by omega) (by omega) (fun q hq => BT_get hI.1.1 26 0 28 (0) (0) (99) (by decide) q (Nat.zero_le _) hq) (fun v1856 av1856 bv1856 ev1856 => ?_)
            clear ev1856
            exact WP_sub (fc rfl (fc rfl (fc rfl (fc rfl (fc rfl fn))))) (jn74_1851 v1856 (by omega) (by omega))
          · refine WP_aload_n dX11_wants_57 rfl ?_
            refine WP_getr dX11_wants_58 fX11_264 rfl (ly_is hy 0 11 rfl) (rf hr 0 43 25 (by decide)) ?_
            refine WP_iload dX11_wants_61 rfl ?_
            refine WQ_iald dX11_wants_63 (ly_is hy 25 13 rfl) (ly_n hy 25 28 rfl) (by omega) (by omega) (fun q hq => BT_get hI.1.1 25 0 28 (0) (0) (3) (by decide) q (Nat.zero_le _) hq) (fun v1857 av1857 bv1857 ev1857 => ?_)
            clear ev1857
            refine WP_goto 74 dX11_wants_64 rfl ?_
            exact WP_sub (fc rfl (fc rfl (fc rfl (fc rfl (fc rfl fn))))) (jn74_1851 v1857 (by omega) (by omega))
        · refine WP_aload_n dX11_wants_42 rfl ?_
          refine WP_getr dX11_wants_43 fX11_261 rfl (ly_is hy 0 11 rfl) (rf hr 0 42 24 (by decide)) ?_
          refine WP_iload dX11_wants_46 rfl ?_
          refine WQ_iald dX11_wants_48 (ly_is hy 24 13 rfl) (ly_n hy 24 28 rfl) (by omega) (by omega) (fun q hq => BT_get hI.1.1 24 0 28 (-1) (0) (2) (by decide) q (Nat.zero_le _) hq) (fun v1858 av1858 bv1858 ev1858 => ?_)
          clear ev1858
          refine WP_goto 74 dX11_wants_49 rfl ?_
          exact WP_sub (fc rfl (fc rfl (fc rfl (fc rfl (fc rfl fn))))) (jn74_1851 v1858 (by omega) (by omega))
      · refine WQ_bipush (-2) (-2) dX11_wants_27 rfl rfl (fun v1859 hv1859 => ?_)
        exact WP_iret dX11_wants_29 rfl ⟨⟨rfl, rfl, rfl⟩, _, rfl⟩
set_option maxHeartbeats 4000000 in
set_option maxRecDepth 100000 in
theorem sm_stampsOf {g : GG} {n : Int} {L : Int32} (hy : Ly g)  {I : pI} {J : pJ} {R : pR} (hr : Rf g R) (hI : MP g n L I) (co : Int32) (lo : Int32) (co_lo : 0 ≤ co.toInt) (co_hi : co.toInt ≤ 999) (lo_lo : 0 ≤ lo.toInt) (lo_hi : lo.toInt ≤ 900) : SP g mX11_stampsOf [.int co, .int lo] I J R (fun r I' J' R' => (I' = I ∧ J' = J ∧ R' = R) ∧ ∃ v : Int32, r = some (.int v) ∧ 0 ≤ v.toInt ∧ v.toInt ≤ 999 ∧ v.toInt ≤ co.toInt) := by
  refine SP_of ⟨by decide, rfl⟩ (Nat.le_of_ble_eq_true rfl) ?_
  have e1860 : I (ad g 0) 1 = L := hI.1.2
  have b1861 := BT_get hI.1.1 0 1 2 (0) (0) (900) (by decide) 1 (by decide) (by decide)
  rw [e1860] at b1861
  refine WP_iload_n dX11_stampsOf_0 rfl ?_
  refine WP_iload_n dX11_stampsOf_1 rfl ?_
  refine WQ_imulb (999) (900) dX11_stampsOf_2 ⟨by omega, by omega⟩ ⟨by omega, by omega⟩ (by decide) (fun v1862 pv1862 av1862 bv1862 cv1862 => ?_)
  refine WQ_sipush (999) (999) dX11_stampsOf_3 rfl rfl (fun v1863 hv1863 => ?_)
  refine WQ_iadd dX11_stampsOf_6 (by omega) (by omega) (fun v1864 hv1864 => ?_)
  refine WQ_sipush (1000) (1000) dX11_stampsOf_7 rfl rfl (fun v1865 hv1865 => ?_)
  refine WQ_idivk (1000) dX11_stampsOf_10 hv1865 (by decide) (by omega) (fun v1866 hv1866 => ?_)
  exact WP_iret dX11_stampsOf_11 rfl ⟨⟨rfl, rfl, rfl⟩, _, rfl, by omega, by omega, by omega⟩
set_option maxHeartbeats 4000000 in
set_option maxRecDepth 100000 in
theorem sm_costOf {g : GG} {n : Int} {L : Int32} (hy : Ly g)  {I : pI} {J : pJ} {R : pR} (hr : Rf g R) (hI : MP g n L I)   : SP g mX11_costOf [.ref (ad g 0)] I J R (fun r I' J' R' => (I' = I ∧ J' = J ∧ R' = R) ∧ ∃ v : Int32, r = some (.int v) ∧ 0 ≤ v.toInt ∧ v.toInt ≤ 9) := by
  refine SP_of ⟨by decide, rfl⟩ (Nat.le_of_ble_eq_true rfl) ?_
  have e1867 : I (ad g 0) 1 = L := hI.1.2
  have b1868 := BT_get hI.1.1 0 1 2 (0) (0) (900) (by decide) 1 (by decide) (by decide)
  rw [e1867] at b1868
  refine WP_aload_n dX11_costOf_0 rfl ?_
  refine WQ_geti dX11_costOf_1 fX11_224 rfl (ly_is hy 0 11 rfl) (BT_get hI.1.1 0 14 15 (-1) (0) (2) (by decide) 14 (by decide) (by decide)) (fun v1869 ev1869 av1869 bv1869 => ?_)
  refine WQ_iconst (-1) (-1) dX11_costOf_4 rfl rfl (fun v1870 hv1870 => ?_)
  have jn21_1873 : ∀ (v1873 : Int32), 0 ≤ v1873.toInt → v1873.toInt ≤ 9 → WP g mX11_costOf 21 [(0, .ref (ad g 0))] [.int v1873] I J R (fun r I' J' R' => (I' = I ∧ J' = J ∧ R' = R) ∧ ∃ v : Int32, r = some (.int v) ∧ 0 ≤ v.toInt ∧ v.toInt ≤ 9) := by
    intro v1873 av1873 bv1873
    exact WP_iret dX11_costOf_21 rfl ⟨⟨rfl, rfl, rfl⟩, _, rfl, by omega, by omega⟩
  refine WQ_icmp_ne 12 dX11_costOf_5 rfl (fun c1874 => ?_) (fun c1874 => ?_)
  · refine WP_aload_n dX11_costOf_12 rfl ?_
    refine WP_getr dX11_costOf_13 fX11_249 rfl (ly_is hy 0 11 rfl) (rf hr 0 31 13 (by decide)) ?_
    refine WP_aload_n dX11_costOf_16 rfl ?_
    refine WQ_getim dX11_costOf_17 fX11_224 rfl (ly_is hy 0 11 rfl) ev1869 ?_
    refine WQ_iald dX11_costOf_20 (ly_is hy 13 13 rfl) (ly_n hy 13 3 rfl) (by omega) (by omega) (fun q hq => BT_get hI.1.1 13 0 3 (0) (0) (9) (by decide) q (Nat.zero_le _) hq) (fun v1876 av1876 bv1876 ev1876 => ?_)
    clear ev1876
    exact WP_sub (fc rfl fn) (jn21_1873 v1876 (by omega) (by omega))
  · refine WQ_iconst (0) (0) dX11_costOf_8 rfl rfl (fun v1877 hv1877 => ?_)
    refine WP_goto 21 dX11_costOf_9 rfl ?_
    exact WP_sub (fc rfl fn) (jn21_1873 v1877 (by omega) (by omega))
set_option maxHeartbeats 4000000 in
set_option maxRecDepth 100000 in
theorem sm_behindNight {g : GG} {n : Int} {L : Int32} (hy : Ly g)  {I : pI} {J : pJ} {R : pR} (hr : Rf g R) (hI : MP g n L I) (co : Int32) (un : Int32) (lo : Int32) (co_lo : 0 ≤ co.toInt) (co_hi : co.toInt ≤ 60) (un_lo : 0 ≤ un.toInt) (un_hi : un.toInt ≤ 5) (lo_lo : 0 ≤ lo.toInt) (lo_hi : lo.toInt ≤ 900) : SP g mX11_behindNight [.ref (ad g 0), .int co, .int un, .int lo] I J R (fun r I' J' R' => (I' = I ∧ J' = J ∧ R' = R) ∧ ∃ v : Int32, r = some (.int v) ∧ 0 ≤ v.toInt ∧ v.toInt ≤ 60) := by
  refine SP_of ⟨by decide, rfl⟩ (Nat.le_of_ble_eq_true rfl) ?_
  have e1878 : I (ad g 0) 1 = L := hI.1.2
  have b1879 := BT_get hI.1.1 0 1 2 (0) (0) (900) (by decide) 1 (by decide) (by decide)
  rw [e1878] at b1879
  refine WQ_iconst (0) (0) dX11_behindNight_0 rfl rfl (fun v1880 hv1880 => ?_)
  refine WP_iload_n dX11_behindNight_1 rfl ?_
  refine WP_iload_n dX11_behindNight_2 rfl ?_
  refine WP_iload_n dX11_behindNight_3 rfl ?_
  refine WP_callS2 dX11_behindNight_4 ⟨⟨⟨by decide, by decide⟩, zX11_stampsOf⟩, lX11_380, tX11_stampsOf⟩ (sm_stampsOf hy hr hI co lo (by omega) (by omega) (by omega) (by omega)) (Nat.le_of_ble_eq_true rfl) ?_
  intro r Ia Ja Ra hq
  obtain ⟨⟨ea, eb, ec⟩, v1881, rfl, av1881, bv1881, cv1881⟩ := hq
  show WP _ _ _ _ (.int _ :: _) _ _ _ _
  rw [ea, eb, ec]
  clear ea eb ec Ia Ja Ra
  refine WQ_isub dX11_behindNight_7 (by omega) (by omega) (fun v1882 hv1882 => ?_)
  refine WP_aload_n dX11_behindNight_8 rfl ?_
  refine WP_callV0 (k := 11) dX11_behindNight_9 ⟨⟨⟨by decide, by decide⟩, zX11_costOf⟩, lX11_384, by decide, rfl, vX11_costOf.1, vX11_costOf.2⟩ (ly_is hy 0 11 rfl) (sm_costOf hy hr hI  ) (Nat.le_of_ble_eq_true rfl) ?_
  intro r Ia Ja Ra hq
  obtain ⟨⟨ea, eb, ec⟩, v1883, rfl, av1883, bv1883⟩ := hq
  show WP _ _ _ _ (.int _ :: _) _ _ _ _
  rw [ea, eb, ec]
  clear ea eb ec Ia Ja Ra
  refine WP_iload_n dX11_behindNight_12 rfl ?_
  refine WQ_imulb (9) (5) dX11_behindNight_13 ⟨by omega, by omega⟩ ⟨by omega, by omega⟩ (by decide) (fun v1884 pv1884 av1884 bv1884 cv1884 => ?_)
  refine WQ_isub dX11_behindNight_14 (by omega) (by omega) (fun v1885 hv1885 => ?_)
  refine WQ_max dX11_behindNight_15 lX11_387 ⟨by decide, Nat.le_of_ble_eq_true rfl⟩ (fun v1886 av1886 bv1886 cv1886 => ?_)
  exact WP_iret dX11_behindNight_18 rfl ⟨⟨rfl, rfl, rfl⟩, _, rfl, by omega, by omega⟩
set_option maxHeartbeats 4000000 in
set_option maxRecDepth 100000 in
theorem sm_leftOf {g : GG} {n : Int} {L : Int32} (hy : Ly g)  {I : pI} {J : pJ} {R : pR} (hr : Rf g R) (hI : MP g n L I) (un : Int32) (un_lo : 0 ≤ un.toInt) (un_hi : un.toInt ≤ 5) : SP g mX11_leftOf [.ref (ad g 0), .int un] I J R (fun r I' J' R' => (I' = I ∧ J' = J ∧ R' = R) ∧ ∃ v : Int32, r = some (.int v) ∧ 0 ≤ v.toInt ∧ v.toInt ≤ 5) := by
  refine SP_of ⟨by decide, rfl⟩ (Nat.le_of_ble_eq_true rfl) ?_
  have e1887 : I (ad g 0) 1 = L := hI.1.2
  have b1888 := BT_get hI.1.1 0 1 2 (0) (0) (900) (by decide) 1 (by decide) (by decide)
  rw [e1887] at b1888
  refine WP_aload_n dX11_leftOf_0 rfl ?_
  refine WQ_geti dX11_leftOf_1 fX11_224 rfl (ly_is hy 0 11 rfl) (BT_get hI.1.1 0 14 15 (-1) (0) (2) (by decide) 14 (by decide) (by decide)) (fun v1889 ev1889 av1889 bv1889 => ?_)
  refine WQ_iconst (-1) (-1) dX11_leftOf_4 rfl rfl (fun v1890 hv1890 => ?_)
  refine WQ_icmp_ne 12 dX11_leftOf_5 rfl (fun c1890 => ?_) (fun c1890 => ?_)
  · refine WP_iload_n dX11_leftOf_12 rfl ?_
    refine WP_iload_n dX11_leftOf_13 rfl ?_
    refine WP_aload_n dX11_leftOf_14 rfl ?_
    refine WP_getr dX11_leftOf_15 fX11_246 rfl (ly_is hy 0 11 rfl) (rf hr 0 30 12 (by decide)) ?_
    refine WP_aload_n dX11_leftOf_18 rfl ?_
    refine WQ_getim dX11_leftOf_19 fX11_224 rfl (ly_is hy 0 11 rfl) ev1889 ?_
    refine WQ_iald dX11_leftOf_22 (ly_is hy 12 13 rfl) (ly_n hy 12 3 rfl) (by omega) (by omega) (fun q hq => BT_get hI.1.1 12 0 3 (0) (0) (1000) (by decide) q (Nat.zero_le _) hq) (fun v1892 av1892 bv1892 ev1892 => ?_)
    clear ev1892
    refine WQ_imulb (5) (1000) dX11_leftOf_23 ⟨by omega, by omega⟩ ⟨by omega, by omega⟩ (by decide) (fun v1893 pv1893 av1893 bv1893 cv1893 => ?_)
    refine WQ_sipush (1000) (1000) dX11_leftOf_24 rfl rfl (fun v1894 hv1894 => ?_)
    refine WQ_idivk (1000) dX11_leftOf_27 hv1894 (by decide) (by omega) (fun v1895 hv1895 => ?_)
    refine WQ_isub dX11_leftOf_28 (by omega) (by omega) (fun v1896 hv1896 => ?_)
    exact WP_iret dX11_leftOf_29 rfl ⟨⟨rfl, rfl, rfl⟩, _, rfl, by omega, by omega⟩
  · refine WQ_iconst (0) (0) dX11_leftOf_8 rfl rfl (fun v1897 hv1897 => ?_)
    refine WP_goto 29 dX11_leftOf_9 rfl ?_
    exact WP_iret dX11_leftOf_29 rfl ⟨⟨rfl, rfl, rfl⟩, _, rfl, by omega, by omega⟩
set_option maxHeartbeats 4000000 in
set_option maxRecDepth 100000 in
theorem sm_night {g : GG} {n : Int} {L : Int32} (hy : Ly g)  {I : pI} {J : pJ} {R : pR} (hr : Rf g R) (hI : MP g n L I) (a : Int32) (b : Int32) (c : Int32)  : SP g mX11_night [.ref (ad g 0), .int a, .int b, .int c] I J R (fun r I' J' R' => (I' = I ∧ J' = J ∧ R' = R) ∧ ∃ v : Int32, r = some (.int v)) := by
  refine SP_of ⟨by decide, rfl⟩ (Nat.le_of_ble_eq_true rfl) ?_
  have e1898 : I (ad g 0) 1 = L := hI.1.2
  have b1899 := BT_get hI.1.1 0 1 2 (0) (0) (900) (by decide) 1 (by decide) (by decide)
  rw [e1898] at b1899
  refine WP_iload_n dX11_night_0 rfl ?_
  refine WP_callS1 dX11_night_1 ⟨⟨⟨by decide, by decide⟩, zX11_areCoins⟩, lX11_392, tX11_areCoins⟩ (sm_areCoins hy hr hI a ) (Nat.le_of_ble_eq_true rfl) ?_
  intro r Ia Ja Ra hq
  obtain ⟨⟨ea, eb, ec⟩, v1900, rfl, av1900, bv1900, cv1900⟩ := hq
  show WP _ _ _ _ (.int _ :: _) _ _ _ _
  rw [ea, eb, ec]
  clear ea eb ec Ia Ja Ra
  have jn49_1916 : ∀ (v1916 : Int32), -2 ≤ v1916.toInt → v1916.toInt ≤ 60 → WP g mX11_night 49 [(0, .ref (ad g 0)), (1, .int a), (2, .int b), (3, .int c)] [.int v1916] I J R (fun r I' J' R' => (I' = I ∧ J' = J ∧ R' = R) ∧ ∃ v : Int32, r = some (.int v)) := by
    intro v1916 av1916 bv1916
    exact WP_iret dX11_night_49 rfl ⟨⟨rfl, rfl, rfl⟩, _, rfl⟩
  refine WQ_if_eq 47 dX11_night_4 rfl (fun c1917 => ?_) (fun c1917 => ?_)
  · refine WQ_bipush (-2) (-2) dX11_night_47 rfl rfl (fun v1919 hv1919 => ?_)
    exact WP_sub (fc rfl (fc rfl (fc rfl (fc rfl fn)))) (jn49_1916 v1919 (by omega) (by omega))
  · refine WP_iload_n dX11_night_7 rfl ?_
    refine WP_callS1 dX11_night_8 ⟨⟨⟨by decide, by decide⟩, zX11_isStore⟩, lX11_395, tX11_isStore⟩ (sm_isStore hy hr hI b ) (Nat.le_of_ble_eq_true rfl) ?_
    intro r Ia Ja Ra hq
    obtain ⟨⟨ea, eb, ec⟩, v1920, rfl, av1920, bv1920, cv1920⟩ := hq
    show WP _ _ _ _ (.int _ :: _) _ _ _ _
    rw [ea, eb, ec]
    clear ea eb ec Ia Ja Ra
    refine WQ_if_eq 47 dX11_night_11 rfl (fun c1920 => ?_) (fun c1920 => ?_)
    · refine WQ_bipush (-2) (-2) dX11_night_47 rfl rfl (fun v1922 hv1922 => ?_)
      exact WP_sub (fc rfl (fc rfl (fc rfl (fc rfl fn)))) (jn49_1916 v1922 (by omega) (by omega))
    · refine WP_iload_n dX11_night_14 rfl ?_
      refine WP_callS1 dX11_night_15 ⟨⟨⟨by decide, by decide⟩, zX11_isDay⟩, lX11_370, tX11_isDay⟩ (sm_isDay hy hr hI c ) (Nat.le_of_ble_eq_true rfl) ?_
      intro r Ia Ja Ra hq
      obtain ⟨⟨ea, eb, ec⟩, v1923, rfl, av1923, bv1923, cv1923⟩ := hq
      show WP _ _ _ _ (.int _ :: _) _ _ _ _
      rw [ea, eb, ec]
      clear ea eb ec Ia Ja Ra
      refine WQ_if_eq 47 dX11_night_18 rfl (fun c1923 => ?_) (fun c1923 => ?_)
      · refine WQ_bipush (-2) (-2) dX11_night_47 rfl rfl (fun v1925 hv1925 => ?_)
        exact WP_sub (fc rfl (fc rfl (fc rfl (fc rfl fn)))) (jn49_1916 v1925 (by omega) (by omega))
      · refine WP_aload_n dX11_night_21 rfl ?_
        refine WQ_geti dX11_night_22 fX11_332 rfl (ly_is hy 0 11 rfl) (BT_get hI.1.1 0 11 12 (0) (0) (3) (by decide) 11 (by decide) (by decide)) (fun v1926 ev1926 av1926 bv1926 => ?_)
        refine WQ_if_gt 32 dX11_night_25 rfl (fun c1926 => ?_) (fun c1926 => ?_)
        · refine WP_aload_n dX11_night_32 rfl ?_
          refine WP_iload_n dX11_night_33 rfl ?_
          refine WP_iload_n dX11_night_34 rfl ?_
          refine WP_aload_n dX11_night_35 rfl ?_
          refine WP_getr dX11_night_36 fX11_233 rfl (ly_is hy 0 11 rfl) (rf hr 0 24 6 (by decide)) ?_
          refine WP_iload_n dX11_night_39 rfl ?_
          refine WQ_iald dX11_night_40 (ly_is hy 6 13 rfl) (ly_n hy 6 7 rfl) (by omega) (by omega) (fun q hq => BT_get hI.1.1 6 0 7 (0) (0) (900) (by decide) q (Nat.zero_le _) hq) (fun v1928 av1928 bv1928 ev1928 => ?_)
          clear ev1928
          refine WP_callV3 (k := 11) dX11_night_41 ⟨⟨⟨by decide, by decide⟩, zX11_behindNight⟩, lX11_398, by decide, rfl, vX11_behindNight.1, vX11_behindNight.2⟩ (ly_is hy 0 11 rfl) (sm_behindNight hy hr hI a b v1928 (by omega) (by omega) (by omega) (by omega) (by omega) (by omega)) (Nat.le_of_ble_eq_true rfl) ?_
          intro r Ia Ja Ra hq
          obtain ⟨⟨ea, eb, ec⟩, v1929, rfl, av1929, bv1929⟩ := hq
          show WP _ _ _ _ (.int _ :: _) _ _ _ _
          rw [ea, eb, ec]
          clear ea eb ec Ia Ja Ra
          refine WP_goto 49 dX11_night_44 rfl ?_
          exact WP_sub (fc rfl (fc rfl (fc rfl (fc rfl fn)))) (jn49_1916 v1929 (by omega) (by omega))
        · refine WP_iload_n dX11_night_28 rfl ?_
          refine WQ_if_ne 47 dX11_night_29 rfl (fun c1929 => ?_) (fun c1929 => ?_)
          · refine WQ_bipush (-2) (-2) dX11_night_47 rfl rfl (fun v1931 hv1931 => ?_)
            exact WP_sub (fc rfl (fc rfl (fc rfl (fc rfl fn)))) (jn49_1916 v1931 (by omega) (by omega))
          · refine WP_aload_n dX11_night_32 rfl ?_
            refine WP_iload_n dX11_night_33 rfl ?_
            refine WP_iload_n dX11_night_34 rfl ?_
            refine WP_aload_n dX11_night_35 rfl ?_
            refine WP_getr dX11_night_36 fX11_233 rfl (ly_is hy 0 11 rfl) (rf hr 0 24 6 (by decide)) ?_
            refine WP_iload_n dX11_night_39 rfl ?_
            refine WQ_iald dX11_night_40 (ly_is hy 6 13 rfl) (ly_n hy 6 7 rfl) (by omega) (by omega) (fun q hq => BT_get hI.1.1 6 0 7 (0) (0) (900) (by decide) q (Nat.zero_le _) hq) (fun v1932 av1932 bv1932 ev1932 => ?_)
            clear ev1932
            refine WP_callV3 (k := 11) dX11_night_41 ⟨⟨⟨by decide, by decide⟩, zX11_behindNight⟩, lX11_398, by decide, rfl, vX11_behindNight.1, vX11_behindNight.2⟩ (ly_is hy 0 11 rfl) (sm_behindNight hy hr hI a b v1932 (by omega) (by omega) (by omega) (by omega) (by omega) (by omega)) (Nat.le_of_ble_eq_true rfl) ?_
            intro r Ia Ja Ra hq
            obtain ⟨⟨ea, eb, ec⟩, v1933, rfl, av1933, bv1933⟩ := hq
            show WP _ _ _ _ (.int _ :: _) _ _ _ _
            rw [ea, eb, ec]
            clear ea eb ec Ia Ja Ra
            refine WP_goto 49 dX11_night_44 rfl ?_
            exact WP_sub (fc rfl (fc rfl (fc rfl (fc rfl fn)))) (jn49_1916 v1933 (by omega) (by omega))
set_option maxHeartbeats 4000000 in
set_option maxRecDepth 100000 in
theorem sm_costAt {g : GG} {n : Int} {L : Int32} (hy : Ly g)  {I : pI} {J : pJ} {R : pR} (hr : Rf g R) (hI : MP g n L I) (th : Int32) (da : Int32) (th_lo : -1 ≤ th.toInt) (th_hi : th.toInt ≤ 2) (da_lo : 0 ≤ da.toInt) (da_hi : da.toInt ≤ 6) : SP g mX11_costAt [.ref (ad g 0), .int th, .int da] I J R (fun r I' J' R' => (I' = I ∧ J' = J ∧ R' = R) ∧ ∃ v : Int32, r = some (.int v) ∧ 0 ≤ v.toInt ∧ v.toInt ≤ 20) := by
  refine SP_of ⟨by decide, rfl⟩ (Nat.le_of_ble_eq_true rfl) ?_
  have e1934 : I (ad g 0) 1 = L := hI.1.2
  have b1935 := BT_get hI.1.1 0 1 2 (0) (0) (900) (by decide) 1 (by decide) (by decide)
  rw [e1934] at b1935
  refine WP_iload_n dX11_costAt_0 rfl ?_
  refine WQ_iconst (-1) (-1) dX11_costAt_1 rfl rfl (fun v1936 hv1936 => ?_)
  have jn20_1942 : ∀ (v1942 : Int32), 0 ≤ v1942.toInt → v1942.toInt ≤ 20 → WP g mX11_costAt 20 [(0, .ref (ad g 0)), (1, .int th), (2, .int da)] [.int v1942] I J R (fun r I' J' R' => (I' = I ∧ J' = J ∧ R' = R) ∧ ∃ v : Int32, r = some (.int v) ∧ 0 ≤ v.toInt ∧ v.toInt ≤ 20) := by
    intro v1942 av1942 bv1942
    exact WP_iret dX11_costAt_20 rfl ⟨⟨rfl, rfl, rfl⟩, _, rfl, by omega, by omega⟩
  refine WQ_icmp_ne 9 dX11_costAt_2 rfl (fun c1943 => ?_) (fun c1943 => ?_)
  · refine WP_aload_n dX11_costAt_9 rfl ?_
    refine WP_getr dX11_costAt_10 fX11_257 rfl (ly_is hy 0 11 rfl) (rf hr 0 40 22 (by decide)) ?_
    refine WQ_bipush (7) (7) dX11_costAt_13 rfl rfl (fun v1945 hv1945 => ?_)
    refine WP_iload_n dX11_costAt_15 rfl ?_
    refine WQ_imulK (7) dX11_costAt_16 hv1945 (by omega) (by omega) (fun v1946 hv1946 => ?_)
    refine WP_iload_n dX11_costAt_17 rfl ?_
    refine WQ_iadd dX11_costAt_18 (by omega) (by omega) (fun v1947 hv1947 => ?_)
    refine WQ_iald dX11_costAt_19 (ly_is hy 22 13 rfl) (ly_n hy 22 21 rfl) (by omega) (by omega) (fun q hq => BT_get hI.1.1 22 0 21 (0) (0) (20) (by decide) q (Nat.zero_le _) hq) (fun v1948 av1948 bv1948 ev1948 => ?_)
    clear ev1948
    exact WP_sub (fc rfl (fc rfl (fc rfl fn))) (jn20_1942 v1948 (by omega) (by omega))
  · refine WQ_iconst (0) (0) dX11_costAt_5 rfl rfl (fun v1949 hv1949 => ?_)
    refine WP_goto 20 dX11_costAt_6 rfl ?_
    exact WP_sub (fc rfl (fc rfl (fc rfl fn))) (jn20_1942 v1949 (by omega) (by omega))
set_option maxHeartbeats 4000000 in
set_option maxRecDepth 100000 in
theorem sm_paysFor {g : GG} {n : Int} {L : Int32} (hy : Ly g)  {I : pI} {J : pJ} {R : pR} (hr : Rf g R) (hI : MP g n L I) (so : Int32) (da : Int32) (ac : Int32) (so_lo : 0 ≤ so.toInt) (so_hi : so.toInt ≤ 3) (da_lo : 0 ≤ da.toInt) (da_hi : da.toInt ≤ 6) (ac_lo : 0 ≤ ac.toInt) (ac_hi : ac.toInt ≤ 47) : SP g mX11_paysFor [.ref (ad g 0), .int so, .int da, .int ac] I J R (fun r I' J' R' => (I' = I ∧ J' = J ∧ R' = R) ∧ ∃ v : Int32, r = some (.int v) ∧ 0 ≤ v.toInt ∧ v.toInt ≤ 120) := by
  refine SP_of ⟨by decide, rfl⟩ (Nat.le_of_ble_eq_true rfl) ?_
  have e1950 : I (ad g 0) 1 = L := hI.1.2
  have b1951 := BT_get hI.1.1 0 1 2 (0) (0) (900) (by decide) 1 (by decide) (by decide)
  rw [e1950] at b1951
  refine WP_iload_n dX11_paysFor_0 rfl ?_
  refine WQ_iconst (4) (4) dX11_paysFor_1 rfl rfl (fun v1952 hv1952 => ?_)
  refine WQ_iremk (4) dX11_paysFor_2 hv1952 (by decide) (by omega) (fun v1953 hv1953 => ?_)
  refine WP_aload_n dX11_paysFor_3 rfl ?_
  refine WP_aload_n dX11_paysFor_4 rfl ?_
  refine WP_getr dX11_paysFor_5 fX11_261 rfl (ly_is hy 0 11 rfl) (rf hr 0 42 24 (by decide)) ?_
  refine WQ_bipush (7) (7) dX11_paysFor_8 rfl rfl (fun v1954 hv1954 => ?_)
  refine WP_iload_n dX11_paysFor_10 rfl ?_
  refine WQ_imulK (7) dX11_paysFor_11 hv1954 (by omega) (by omega) (fun v1955 hv1955 => ?_)
  refine WP_iload_n dX11_paysFor_12 rfl ?_
  refine WQ_iadd dX11_paysFor_13 (by omega) (by omega) (fun v1956 hv1956 => ?_)
  refine WQ_iald dX11_paysFor_14 (ly_is hy 24 13 rfl) (ly_n hy 24 28 rfl) (by omega) (by omega) (fun q hq => BT_get hI.1.1 24 0 28 (-1) (0) (2) (by decide) q (Nat.zero_le _) hq) (fun v1957 av1957 bv1957 ev1957 => ?_)
  clear ev1957
  refine WP_iload_n dX11_paysFor_15 rfl ?_
  refine WP_callV2 (k := 11) dX11_paysFor_16 ⟨⟨⟨by decide, by decide⟩, zX11_costAt⟩, lX11_402, by decide, rfl, vX11_costAt.1, vX11_costAt.2⟩ (ly_is hy 0 11 rfl) (sm_costAt hy hr hI v1957 da (by omega) (by omega) (by omega) (by omega)) (Nat.le_of_ble_eq_true rfl) ?_
  intro r Ia Ja Ra hq
  obtain ⟨⟨ea, eb, ec⟩, v1958, rfl, av1958, bv1958⟩ := hq
  show WP _ _ _ _ (.int _ :: _) _ _ _ _
  rw [ea, eb, ec]
  clear ea eb ec Ia Ja Ra
  refine WQ_imulb (3) (20) dX11_paysFor_19 ⟨by omega, by omega⟩ ⟨by omega, by omega⟩ (by decide) (fun v1959 pv1959 av1959 bv1959 cv1959 => ?_)
  refine WP_iload_n dX11_paysFor_20 rfl ?_
  refine WQ_bipush (16) (16) dX11_paysFor_21 rfl rfl (fun v1960 hv1960 => ?_)
  refine WQ_idivk (16) dX11_paysFor_23 hv1960 (by decide) (by omega) (fun v1961 hv1961 => ?_)
  refine WP_aload_n dX11_paysFor_24 rfl ?_
  refine WP_aload_n dX11_paysFor_25 rfl ?_
  refine WQ_geti dX11_paysFor_26 fX11_224 rfl (ly_is hy 0 11 rfl) (BT_get hI.1.1 0 14 15 (-1) (0) (2) (by decide) 14 (by decide) (by decide)) (fun v1962 ev1962 av1962 bv1962 => ?_)
  refine WP_iload_n dX11_paysFor_29 rfl ?_
  refine WP_callV2 (k := 11) dX11_paysFor_30 ⟨⟨⟨by decide, by decide⟩, zX11_costAt⟩, lX11_402, by decide, rfl, vX11_costAt.1, vX11_costAt.2⟩ (ly_is hy 0 11 rfl) (sm_costAt hy hr hI v1962 da (by omega) (by omega) (by omega) (by omega)) (Nat.le_of_ble_eq_true rfl) ?_
  intro r Ia Ja Ra hq
  obtain ⟨⟨ea, eb, ec⟩, v1963, rfl, av1963, bv1963⟩ := hq
  show WP _ _ _ _ (.int _ :: _) _ _ _ _
  rw [ea, eb, ec]
  clear ea eb ec Ia Ja Ra
  refine WQ_imulb (2) (20) dX11_paysFor_33 ⟨by omega, by omega⟩ ⟨by omega, by omega⟩ (by decide) (fun v1964 pv1964 av1964 bv1964 cv1964 => ?_)
  refine WQ_iadd dX11_paysFor_34 (by omega) (by omega) (fun v1965 hv1965 => ?_)
  exact WP_iret dX11_paysFor_35 rfl ⟨⟨rfl, rfl, rfl⟩, _, rfl, by omega, by omega⟩
set_option maxHeartbeats 4000000 in
set_option maxRecDepth 100000 in
theorem sm_mayDo {g : GG} {n : Int} {L : Int32} (hy : Ly g)  {I : pI} {J : pJ} {R : pR} (hr : Rf g R) (hI : MP g n L I) (so : Int32) (da : Int32) (co : Int32) (st : Int32) (ac : Int32) (so_lo : 0 ≤ so.toInt) (so_hi : so.toInt ≤ 3) (da_lo : 0 ≤ da.toInt) (da_hi : da.toInt ≤ 6) (co_lo : 0 ≤ co.toInt) (co_hi : co.toInt ≤ 60) (st_lo : 0 ≤ st.toInt) (st_hi : st.toInt ≤ 5) (ac_lo : 0 ≤ ac.toInt) (ac_hi : ac.toInt ≤ 47) : SP g mX11_mayDo [.ref (ad g 0), .int so, .int da, .int co, .int st, .int ac] I J R (fun r I' J' R' => (I' = I ∧ J' = J ∧ R' = R) ∧ ∃ v : Int32, r = some (.int v) ∧ 0 ≤ v.toInt ∧ v.toInt ≤ 1) := by
  refine SP_of ⟨by decide, rfl⟩ (Nat.le_of_ble_eq_true rfl) ?_
  have e1966 : I (ad g 0) 1 = L := hI.1.2
  have b1967 := BT_get hI.1.1 0 1 2 (0) (0) (900) (by decide) 1 (by decide) (by decide)
  rw [e1966] at b1967
  refine WP_iload dX11_mayDo_0 rfl ?_
  refine WQ_iconst (4) (4) dX11_mayDo_2 rfl rfl (fun v1968 hv1968 => ?_)
  refine WQ_iremk (4) dX11_mayDo_3 hv1968 (by decide) (by omega) (fun v1969 hv1969 => ?_)
  refine WP_istore (ls' := [(0, _), (1, _), (2, _), (3, _), (4, _), (5, _), (6, _)]) dX11_mayDo_4 (by decide) rfl ?_
  refine WP_iload dX11_mayDo_6 rfl ?_
  refine WQ_iconst (4) (4) dX11_mayDo_8 rfl rfl (fun v1970 hv1970 => ?_)
  refine WQ_idivk (4) dX11_mayDo_9 hv1970 (by decide) (by omega) (fun v1971 hv1971 => ?_)
  refine WQ_iconst (4) (4) dX11_mayDo_10 rfl rfl (fun v1972 hv1972 => ?_)
  refine WQ_iremk (4) dX11_mayDo_11 hv1972 (by decide) (by omega) (fun v1973 hv1973 => ?_)
  refine WP_istore (ls' := [(0, _), (1, _), (2, _), (3, _), (4, _), (5, _), (6, _), (7, _)]) dX11_mayDo_12 (by decide) rfl ?_
  refine WP_iload dX11_mayDo_14 rfl ?_
  refine WQ_bipush (16) (16) dX11_mayDo_16 rfl rfl (fun v1974 hv1974 => ?_)
  refine WQ_idivk (16) dX11_mayDo_18 hv1974 (by decide) (by omega) (fun v1975 hv1975 => ?_)
  refine WP_istore (ls' := [(0, _), (1, _), (2, _), (3, _), (4, _), (5, _), (6, _), (7, _), (8, _)]) dX11_mayDo_19 (by decide) rfl ?_
  refine WQ_bipush (7) (7) dX11_mayDo_21 rfl rfl (fun v1976 hv1976 => ?_)
  refine WP_iload_n dX11_mayDo_23 rfl ?_
  refine WQ_imulK (7) dX11_mayDo_24 hv1976 (by omega) (by omega) (fun v1977 hv1977 => ?_)
  refine WP_iload_n dX11_mayDo_25 rfl ?_
  refine WQ_iadd dX11_mayDo_26 (by omega) (by omega) (fun v1978 hv1978 => ?_)
  refine WP_istore (ls' := [(0, _), (1, _), (2, _), (3, _), (4, _), (5, _), (6, _), (7, _), (8, _), (9, _)]) dX11_mayDo_27 (by decide) rfl ?_
  refine WP_iload dX11_mayDo_29 rfl ?_
  refine WP_iload dX11_mayDo_31 rfl ?_
  refine WQ_iadd dX11_mayDo_33 (by omega) (by omega) (fun v1979 hv1979 => ?_)
  refine WP_aload_n dX11_mayDo_34 rfl ?_
  refine WP_getr dX11_mayDo_35 fX11_264 rfl (ly_is hy 0 11 rfl) (rf hr 0 43 25 (by decide)) ?_
  refine WP_iload dX11_mayDo_38 rfl ?_
  refine WQ_iald dX11_mayDo_40 (ly_is hy 25 13 rfl) (ly_n hy 25 28 rfl) (by omega) (by omega) (fun q hq => BT_get hI.1.1 25 0 28 (0) (0) (3) (by decide) q (Nat.zero_le _) hq) (fun v1980 av1980 bv1980 ev1980 => ?_)
  clear ev1980
  refine WQ_icmp_gt 63 dX11_mayDo_41 rfl (fun c1980 => ?_) (fun c1980 => ?_)
  · refine WQ_iconst (0) (0) dX11_mayDo_63 rfl rfl (fun v1982 hv1982 => ?_)
    exact WP_zret dX11_mayDo_64 rfl (nar_z (by omega)) ⟨⟨rfl, rfl, rfl⟩, _, rfl, by omega, by omega⟩
  · refine WP_iload dX11_mayDo_44 rfl ?_
    refine WP_iload dX11_mayDo_46 rfl ?_
    refine WQ_icmp_gt 63 dX11_mayDo_48 rfl (fun c1982 => ?_) (fun c1982 => ?_)
    · refine WQ_iconst (0) (0) dX11_mayDo_63 rfl rfl (fun v1984 hv1984 => ?_)
      exact WP_zret dX11_mayDo_64 rfl (nar_z (by omega)) ⟨⟨rfl, rfl, rfl⟩, _, rfl, by omega, by omega⟩
    · refine WP_iload dX11_mayDo_51 rfl ?_
      refine WP_iload dX11_mayDo_53 rfl ?_
      refine WQ_isub dX11_mayDo_55 (by omega) (by omega) (fun v1985 hv1985 => ?_)
      refine WP_iload dX11_mayDo_56 rfl ?_
      refine WQ_iadd dX11_mayDo_58 (by omega) (by omega) (fun v1986 hv1986 => ?_)
      refine WQ_iconst (5) (5) dX11_mayDo_59 rfl rfl (fun v1987 hv1987 => ?_)
      refine WQ_icmp_le 65 dX11_mayDo_60 rfl (fun c1987 => ?_) (fun c1987 => ?_)
      · refine WP_iload dX11_mayDo_65 rfl ?_
        refine WQ_if_le 84 dX11_mayDo_67 rfl (fun c1988 => ?_) (fun c1988 => ?_)
        · refine WP_iload dX11_mayDo_84 rfl ?_
          refine WQ_if_le 99 dX11_mayDo_86 rfl (fun c1989 => ?_) (fun c1989 => ?_)
          · refine WP_aload_n dX11_mayDo_99 rfl ?_
            refine WP_getr dX11_mayDo_100 fX11_244 rfl (ly_is hy 0 11 rfl) (rf hr 0 29 11 (by decide)) ?_
            refine WP_iload_n dX11_mayDo_103 rfl ?_
            refine WQ_iald dX11_mayDo_104 (ly_is hy 11 13 rfl) (ly_n hy 11 4 rfl) (by omega) (by omega) (fun q hq => BT_get hI.1.1 11 0 4 (0) (0) (127) (by decide) q (Nat.zero_le _) hq) (fun v1991 av1991 bv1991 ev1991 => ?_)
            clear ev1991
            refine WP_iload_n dX11_mayDo_105 rfl ?_
            refine WQ_ishru dX11_mayDo_106 (fun v1992 => ?_)
            refine WQ_iconst (1) (1) dX11_mayDo_107 rfl rfl (fun v1993 hv1993 => ?_)
            refine WQ_iandu dX11_mayDo_108 (fun v1994 => ?_)
            refine WQ_iconst (1) (1) dX11_mayDo_109 rfl rfl (fun v1995 hv1995 => ?_)
            refine WX_icmp_ne 123 dX11_mayDo_110 rfl ?_ ?_
            · refine WP_aload_n dX11_mayDo_123 rfl ?_
              refine WP_iload_n dX11_mayDo_124 rfl ?_
              refine WP_iload_n dX11_mayDo_125 rfl ?_
              refine WP_iload dX11_mayDo_126 rfl ?_
              refine WP_callV3 (k := 11) dX11_mayDo_128 ⟨⟨⟨by decide, by decide⟩, zX11_paysFor⟩, lX11_405, by decide, rfl, vX11_paysFor.1, vX11_paysFor.2⟩ (ly_is hy 0 11 rfl) (sm_paysFor hy hr hI so da ac (by omega) (by omega) (by omega) (by omega) (by omega) (by omega)) (Nat.le_of_ble_eq_true rfl) ?_
              intro r Ia Ja Ra hq
              obtain ⟨⟨ea, eb, ec⟩, v1996, rfl, av1996, bv1996⟩ := hq
              show WP _ _ _ _ (.int _ :: _) _ _ _ _
              rw [ea, eb, ec]
              clear ea eb ec Ia Ja Ra
              refine WP_iload_n dX11_mayDo_131 rfl ?_
              have jn140_1999 : ∀ (v1999 : Int32), 0 ≤ v1999.toInt → v1999.toInt ≤ 1 → WP g mX11_mayDo 140 [(0, .ref (ad g 0)), (1, .int so), (2, .int da), (3, .int co), (4, .int st), (5, .int ac), (6, .int v1969), (7, .int v1973), (8, .int v1975), (9, .int v1978)] [.int v1999] I J R (fun r I' J' R' => (I' = I ∧ J' = J ∧ R' = R) ∧ ∃ v : Int32, r = some (.int v) ∧ 0 ≤ v.toInt ∧ v.toInt ≤ 1) := by
                intro v1999 av1999 bv1999
                exact WP_zret dX11_mayDo_140 rfl (nar_z (by omega)) ⟨⟨rfl, rfl, rfl⟩, _, rfl, by omega, by omega⟩
              refine WQ_icmp_gt 139 dX11_mayDo_132 rfl (fun c2000 => ?_) (fun c2000 => ?_)
              · refine WQ_iconst (0) (0) dX11_mayDo_139 rfl rfl (fun v2002 hv2002 => ?_)
                exact WP_sub (fc rfl (fc rfl (fc rfl (fc rfl (fc rfl (fc rfl (fc rfl (fc rfl (fc rfl (fc rfl fn)))))))))) (jn140_1999 v2002 (by omega) (by omega))
              · refine WQ_iconst (1) (1) dX11_mayDo_135 rfl rfl (fun v2003 hv2003 => ?_)
                refine WP_goto 140 dX11_mayDo_136 rfl ?_
                exact WP_sub (fc rfl (fc rfl (fc rfl (fc rfl (fc rfl (fc rfl (fc rfl (fc rfl (fc rfl (fc rfl fn)))))))))) (jn140_1999 v2003 (by omega) (by omega))
            · refine WP_iload dX11_mayDo_113 rfl ?_
              refine WP_iload dX11_mayDo_115 rfl ?_
              refine WQ_iadd dX11_mayDo_117 (by omega) (by omega) (fun v2004 hv2004 => ?_)
              refine WQ_if_le 123 dX11_mayDo_118 rfl (fun c2004 => ?_) (fun c2004 => ?_)
              · refine WP_aload_n dX11_mayDo_123 rfl ?_
                refine WP_iload_n dX11_mayDo_124 rfl ?_
                refine WP_iload_n dX11_mayDo_125 rfl ?_
                refine WP_iload dX11_mayDo_126 rfl ?_
                refine WP_callV3 (k := 11) dX11_mayDo_128 ⟨⟨⟨by decide, by decide⟩, zX11_paysFor⟩, lX11_405, by decide, rfl, vX11_paysFor.1, vX11_paysFor.2⟩ (ly_is hy 0 11 rfl) (sm_paysFor hy hr hI so da ac (by omega) (by omega) (by omega) (by omega) (by omega) (by omega)) (Nat.le_of_ble_eq_true rfl) ?_
                intro r Ia Ja Ra hq
                obtain ⟨⟨ea, eb, ec⟩, v2006, rfl, av2006, bv2006⟩ := hq
                show WP _ _ _ _ (.int _ :: _) _ _ _ _
                rw [ea, eb, ec]
                clear ea eb ec Ia Ja Ra
                refine WP_iload_n dX11_mayDo_131 rfl ?_
                have jn140_2009 : ∀ (v2009 : Int32), 0 ≤ v2009.toInt → v2009.toInt ≤ 1 → WP g mX11_mayDo 140 [(0, .ref (ad g 0)), (1, .int so), (2, .int da), (3, .int co), (4, .int st), (5, .int ac), (6, .int v1969), (7, .int v1973), (8, .int v1975), (9, .int v1978)] [.int v2009] I J R (fun r I' J' R' => (I' = I ∧ J' = J ∧ R' = R) ∧ ∃ v : Int32, r = some (.int v) ∧ 0 ≤ v.toInt ∧ v.toInt ≤ 1) := by
                  intro v2009 av2009 bv2009
                  exact WP_zret dX11_mayDo_140 rfl (nar_z (by omega)) ⟨⟨rfl, rfl, rfl⟩, _, rfl, by omega, by omega⟩
                refine WQ_icmp_gt 139 dX11_mayDo_132 rfl (fun c2010 => ?_) (fun c2010 => ?_)
                · refine WQ_iconst (0) (0) dX11_mayDo_139 rfl rfl (fun v2012 hv2012 => ?_)
                  exact WP_sub (fc rfl (fc rfl (fc rfl (fc rfl (fc rfl (fc rfl (fc rfl (fc rfl (fc rfl (fc rfl fn)))))))))) (jn140_2009 v2012 (by omega) (by omega))
                · refine WQ_iconst (1) (1) dX11_mayDo_135 rfl rfl (fun v2013 hv2013 => ?_)
                  refine WP_goto 140 dX11_mayDo_136 rfl ?_
                  exact WP_sub (fc rfl (fc rfl (fc rfl (fc rfl (fc rfl (fc rfl (fc rfl (fc rfl (fc rfl (fc rfl fn)))))))))) (jn140_2009 v2013 (by omega) (by omega))
              · refine WQ_iconst (0) (0) dX11_mayDo_121 rfl rfl (fun v2014 hv2014 => ?_)
                exact WP_zret dX11_mayDo_122 rfl (nar_z (by omega)) ⟨⟨rfl, rfl, rfl⟩, _, rfl, by omega, by omega⟩
          · refine WP_aload_n dX11_mayDo_89 rfl ?_
            refine WQ_geti dX11_mayDo_90 fX11_224 rfl (ly_is hy 0 11 rfl) (BT_get hI.1.1 0 14 15 (-1) (0) (2) (by decide) 14 (by decide) (by decide)) (fun v2015 ev2015 av2015 bv2015 => ?_)
            refine WQ_iconst (-1) (-1) dX11_mayDo_93 rfl rfl (fun v2016 hv2016 => ?_)
            refine WQ_icmp_ne 99 dX11_mayDo_94 rfl (fun c2016 => ?_) (fun c2016 => ?_)
            · refine WP_aload_n dX11_mayDo_99 rfl ?_
              refine WP_getr dX11_mayDo_100 fX11_244 rfl (ly_is hy 0 11 rfl) (rf hr 0 29 11 (by decide)) ?_
              refine WP_iload_n dX11_mayDo_103 rfl ?_
              refine WQ_iald dX11_mayDo_104 (ly_is hy 11 13 rfl) (ly_n hy 11 4 rfl) (by omega) (by omega) (fun q hq => BT_get hI.1.1 11 0 4 (0) (0) (127) (by decide) q (Nat.zero_le _) hq) (fun v2018 av2018 bv2018 ev2018 => ?_)
              clear ev2018
              refine WP_iload_n dX11_mayDo_105 rfl ?_
              refine WQ_ishru dX11_mayDo_106 (fun v2019 => ?_)
              refine WQ_iconst (1) (1) dX11_mayDo_107 rfl rfl (fun v2020 hv2020 => ?_)
              refine WQ_iandu dX11_mayDo_108 (fun v2021 => ?_)
              refine WQ_iconst (1) (1) dX11_mayDo_109 rfl rfl (fun v2022 hv2022 => ?_)
              refine WX_icmp_ne 123 dX11_mayDo_110 rfl ?_ ?_
              · refine WP_aload_n dX11_mayDo_123 rfl ?_
                refine WP_iload_n dX11_mayDo_124 rfl ?_
                refine WP_iload_n dX11_mayDo_125 rfl ?_
                refine WP_iload dX11_mayDo_126 rfl ?_
                refine WP_callV3 (k := 11) dX11_mayDo_128 ⟨⟨⟨by decide, by decide⟩, zX11_paysFor⟩, lX11_405, by decide, rfl, vX11_paysFor.1, vX11_paysFor.2⟩ (ly_is hy 0 11 rfl) (sm_paysFor hy hr hI so da ac (by omega) (by omega) (by omega) (by omega) (by omega) (by omega)) (Nat.le_of_ble_eq_true rfl) ?_
                intro r Ia Ja Ra hq
                obtain ⟨⟨ea, eb, ec⟩, v2023, rfl, av2023, bv2023⟩ := hq
                show WP _ _ _ _ (.int _ :: _) _ _ _ _
                rw [ea, eb, ec]
                clear ea eb ec Ia Ja Ra
                refine WP_iload_n dX11_mayDo_131 rfl ?_
                have jn140_2026 : ∀ (v2026 : Int32), 0 ≤ v2026.toInt → v2026.toInt ≤ 1 → WP g mX11_mayDo 140 [(0, .ref (ad g 0)), (1, .int so), (2, .int da), (3, .int co), (4, .int st), (5, .int ac), (6, .int v1969), (7, .int v1973), (8, .int v1975), (9, .int v1978)] [.int v2026] I J R (fun r I' J' R' => (I' = I ∧ J' = J ∧ R' = R) ∧ ∃ v : Int32, r = some (.int v) ∧ 0 ≤ v.toInt ∧ v.toInt ≤ 1) := by
                  intro v2026 av2026 bv2026
                  exact WP_zret dX11_mayDo_140 rfl (nar_z (by omega)) ⟨⟨rfl, rfl, rfl⟩, _, rfl, by omega, by omega⟩
                refine WQ_icmp_gt 139 dX11_mayDo_132 rfl (fun c2027 => ?_) (fun c2027 => ?_)
                · refine WQ_iconst (0) (0) dX11_mayDo_139 rfl rfl (fun v2029 hv2029 => ?_)
                  exact WP_sub (fc rfl (fc rfl (fc rfl (fc rfl (fc rfl (fc rfl (fc rfl (fc rfl (fc rfl (fc rfl fn)))))))))) (jn140_2026 v2029 (by omega) (by omega))
                · refine WQ_iconst (1) (1) dX11_mayDo_135 rfl rfl (fun v2030 hv2030 => ?_)
                  refine WP_goto 140 dX11_mayDo_136 rfl ?_
                  exact WP_sub (fc rfl (fc rfl (fc rfl (fc rfl (fc rfl (fc rfl (fc rfl (fc rfl (fc rfl (fc rfl fn)))))))))) (jn140_2026 v2030 (by omega) (by omega))
              · refine WP_iload dX11_mayDo_113 rfl ?_
                refine WP_iload dX11_mayDo_115 rfl ?_
                refine WQ_iadd dX11_mayDo_117 (by omega) (by omega) (fun v2031 hv2031 => ?_)
                refine WQ_if_le 123 dX11_mayDo_118 rfl (fun c2031 => False.elim (by omega)) (fun c2031 => ?_)
                refine WQ_iconst (0) (0) dX11_mayDo_121 rfl rfl (fun v2033 hv2033 => ?_)
                exact WP_zret dX11_mayDo_122 rfl (nar_z (by omega)) ⟨⟨rfl, rfl, rfl⟩, _, rfl, by omega, by omega⟩
            · refine WQ_iconst (0) (0) dX11_mayDo_97 rfl rfl (fun v2034 hv2034 => ?_)
              exact WP_zret dX11_mayDo_98 rfl (nar_z (by omega)) ⟨⟨rfl, rfl, rfl⟩, _, rfl, by omega, by omega⟩
        · refine WP_aload_n dX11_mayDo_70 rfl ?_
          refine WP_getr dX11_mayDo_71 fX11_261 rfl (ly_is hy 0 11 rfl) (rf hr 0 42 24 (by decide)) ?_
          refine WP_iload dX11_mayDo_74 rfl ?_
          refine WQ_iald dX11_mayDo_76 (ly_is hy 24 13 rfl) (ly_n hy 24 28 rfl) (by omega) (by omega) (fun q hq => BT_get hI.1.1 24 0 28 (-1) (0) (2) (by decide) q (Nat.zero_le _) hq) (fun v2035 av2035 bv2035 ev2035 => ?_)
          clear ev2035
          refine WP_aload_n dX11_mayDo_77 rfl ?_
          refine WQ_geti dX11_mayDo_78 fX11_224 rfl (ly_is hy 0 11 rfl) (BT_get hI.1.1 0 14 15 (-1) (0) (2) (by decide) 14 (by decide) (by decide)) (fun v2036 ev2036 av2036 bv2036 => ?_)
          refine WQ_icmp_ne 97 dX11_mayDo_81 rfl (fun c2036 => ?_) (fun c2036 => ?_)
          · refine WQ_iconst (0) (0) dX11_mayDo_97 rfl rfl (fun v2038 hv2038 => ?_)
            exact WP_zret dX11_mayDo_98 rfl (nar_z (by omega)) ⟨⟨rfl, rfl, rfl⟩, _, rfl, by omega, by omega⟩
          · refine WP_iload dX11_mayDo_84 rfl ?_
            refine WQ_if_le 99 dX11_mayDo_86 rfl (fun c2038 => ?_) (fun c2038 => ?_)
            · refine WP_aload_n dX11_mayDo_99 rfl ?_
              refine WP_getr dX11_mayDo_100 fX11_244 rfl (ly_is hy 0 11 rfl) (rf hr 0 29 11 (by decide)) ?_
              refine WP_iload_n dX11_mayDo_103 rfl ?_
              refine WQ_iald dX11_mayDo_104 (ly_is hy 11 13 rfl) (ly_n hy 11 4 rfl) (by omega) (by omega) (fun q hq => BT_get hI.1.1 11 0 4 (0) (0) (127) (by decide) q (Nat.zero_le _) hq) (fun v2040 av2040 bv2040 ev2040 => ?_)
              clear ev2040
              refine WP_iload_n dX11_mayDo_105 rfl ?_
              refine WQ_ishru dX11_mayDo_106 (fun v2041 => ?_)
              refine WQ_iconst (1) (1) dX11_mayDo_107 rfl rfl (fun v2042 hv2042 => ?_)
              refine WQ_iandu dX11_mayDo_108 (fun v2043 => ?_)
              refine WQ_iconst (1) (1) dX11_mayDo_109 rfl rfl (fun v2044 hv2044 => ?_)
              refine WX_icmp_ne 123 dX11_mayDo_110 rfl ?_ ?_
              · refine WP_aload_n dX11_mayDo_123 rfl ?_
                refine WP_iload_n dX11_mayDo_124 rfl ?_
                refine WP_iload_n dX11_mayDo_125 rfl ?_
                refine WP_iload dX11_mayDo_126 rfl ?_
                refine WP_callV3 (k := 11) dX11_mayDo_128 ⟨⟨⟨by decide, by decide⟩, zX11_paysFor⟩, lX11_405, by decide, rfl, vX11_paysFor.1, vX11_paysFor.2⟩ (ly_is hy 0 11 rfl) (sm_paysFor hy hr hI so da ac (by omega) (by omega) (by omega) (by omega) (by omega) (by omega)) (Nat.le_of_ble_eq_true rfl) ?_
                intro r Ia Ja Ra hq
                obtain ⟨⟨ea, eb, ec⟩, v2045, rfl, av2045, bv2045⟩ := hq
                show WP _ _ _ _ (.int _ :: _) _ _ _ _
                rw [ea, eb, ec]
                clear ea eb ec Ia Ja Ra
                refine WP_iload_n dX11_mayDo_131 rfl ?_
                have jn140_2048 : ∀ (v2048 : Int32), 0 ≤ v2048.toInt → v2048.toInt ≤ 1 → WP g mX11_mayDo 140 [(0, .ref (ad g 0)), (1, .int so), (2, .int da), (3, .int co), (4, .int st), (5, .int ac), (6, .int v1969), (7, .int v1973), (8, .int v1975), (9, .int v1978)] [.int v2048] I J R (fun r I' J' R' => (I' = I ∧ J' = J ∧ R' = R) ∧ ∃ v : Int32, r = some (.int v) ∧ 0 ≤ v.toInt ∧ v.toInt ≤ 1) := by
                  intro v2048 av2048 bv2048
                  exact WP_zret dX11_mayDo_140 rfl (nar_z (by omega)) ⟨⟨rfl, rfl, rfl⟩, _, rfl, by omega, by omega⟩
                refine WQ_icmp_gt 139 dX11_mayDo_132 rfl (fun c2049 => ?_) (fun c2049 => ?_)
                · refine WQ_iconst (0) (0) dX11_mayDo_139 rfl rfl (fun v2051 hv2051 => ?_)
                  exact WP_sub (fc rfl (fc rfl (fc rfl (fc rfl (fc rfl (fc rfl (fc rfl (fc rfl (fc rfl (fc rfl fn)))))))))) (jn140_2048 v2051 (by omega) (by omega))
                · refine WQ_iconst (1) (1) dX11_mayDo_135 rfl rfl (fun v2052 hv2052 => ?_)
                  refine WP_goto 140 dX11_mayDo_136 rfl ?_
                  exact WP_sub (fc rfl (fc rfl (fc rfl (fc rfl (fc rfl (fc rfl (fc rfl (fc rfl (fc rfl (fc rfl fn)))))))))) (jn140_2048 v2052 (by omega) (by omega))
              · refine WP_iload dX11_mayDo_113 rfl ?_
                refine WP_iload dX11_mayDo_115 rfl ?_
                refine WQ_iadd dX11_mayDo_117 (by omega) (by omega) (fun v2053 hv2053 => ?_)
                refine WQ_if_le 123 dX11_mayDo_118 rfl (fun c2053 => ?_) (fun c2053 => ?_)
                · refine WP_aload_n dX11_mayDo_123 rfl ?_
                  refine WP_iload_n dX11_mayDo_124 rfl ?_
                  refine WP_iload_n dX11_mayDo_125 rfl ?_
                  refine WP_iload dX11_mayDo_126 rfl ?_
                  refine WP_callV3 (k := 11) dX11_mayDo_128 ⟨⟨⟨by decide, by decide⟩, zX11_paysFor⟩, lX11_405, by decide, rfl, vX11_paysFor.1, vX11_paysFor.2⟩ (ly_is hy 0 11 rfl) (sm_paysFor hy hr hI so da ac (by omega) (by omega) (by omega) (by omega) (by omega) (by omega)) (Nat.le_of_ble_eq_true rfl) ?_
                  intro r Ia Ja Ra hq
                  obtain ⟨⟨ea, eb, ec⟩, v2055, rfl, av2055, bv2055⟩ := hq
                  show WP _ _ _ _ (.int _ :: _) _ _ _ _
                  rw [ea, eb, ec]
                  clear ea eb ec Ia Ja Ra
                  refine WP_iload_n dX11_mayDo_131 rfl ?_
                  have jn140_2058 : ∀ (v2058 : Int32), 0 ≤ v2058.toInt → v2058.toInt ≤ 1 → WP g mX11_mayDo 140 [(0, .ref (ad g 0)), (1, .int so), (2, .int da), (3, .int co), (4, .int st), (5, .int ac), (6, .int v1969), (7, .int v1973), (8, .int v1975), (9, .int v1978)] [.int v2058] I J R (fun r I' J' R' => (I' = I ∧ J' = J ∧ R' = R) ∧ ∃ v : Int32, r = some (.int v) ∧ 0 ≤ v.toInt ∧ v.toInt ≤ 1) := by
                    intro v2058 av2058 bv2058
                    exact WP_zret dX11_mayDo_140 rfl (nar_z (by omega)) ⟨⟨rfl, rfl, rfl⟩, _, rfl, by omega, by omega⟩
                  refine WQ_icmp_gt 139 dX11_mayDo_132 rfl (fun c2059 => ?_) (fun c2059 => ?_)
                  · refine WQ_iconst (0) (0) dX11_mayDo_139 rfl rfl (fun v2061 hv2061 => ?_)
                    exact WP_sub (fc rfl (fc rfl (fc rfl (fc rfl (fc rfl (fc rfl (fc rfl (fc rfl (fc rfl (fc rfl fn)))))))))) (jn140_2058 v2061 (by omega) (by omega))
                  · refine WQ_iconst (1) (1) dX11_mayDo_135 rfl rfl (fun v2062 hv2062 => ?_)
                    refine WP_goto 140 dX11_mayDo_136 rfl ?_
                    exact WP_sub (fc rfl (fc rfl (fc rfl (fc rfl (fc rfl (fc rfl (fc rfl (fc rfl (fc rfl (fc rfl fn)))))))))) (jn140_2058 v2062 (by omega) (by omega))
                · refine WQ_iconst (0) (0) dX11_mayDo_121 rfl rfl (fun v2063 hv2063 => ?_)
                  exact WP_zret dX11_mayDo_122 rfl (nar_z (by omega)) ⟨⟨rfl, rfl, rfl⟩, _, rfl, by omega, by omega⟩
            · refine WP_aload_n dX11_mayDo_89 rfl ?_
              refine WQ_getim dX11_mayDo_90 fX11_224 rfl (ly_is hy 0 11 rfl) ev2036 ?_
              refine WQ_iconst (-1) (-1) dX11_mayDo_93 rfl rfl (fun v2064 hv2064 => ?_)
              refine WQ_icmp_ne 99 dX11_mayDo_94 rfl (fun c2064 => ?_) (fun c2064 => ?_)
              · refine WP_aload_n dX11_mayDo_99 rfl ?_
                refine WP_getr dX11_mayDo_100 fX11_244 rfl (ly_is hy 0 11 rfl) (rf hr 0 29 11 (by decide)) ?_
                refine WP_iload_n dX11_mayDo_103 rfl ?_
                refine WQ_iald dX11_mayDo_104 (ly_is hy 11 13 rfl) (ly_n hy 11 4 rfl) (by omega) (by omega) (fun q hq => BT_get hI.1.1 11 0 4 (0) (0) (127) (by decide) q (Nat.zero_le _) hq) (fun v2066 av2066 bv2066 ev2066 => ?_)
                clear ev2066
                refine WP_iload_n dX11_mayDo_105 rfl ?_
                refine WQ_ishru dX11_mayDo_106 (fun v2067 => ?_)
                refine WQ_iconst (1) (1) dX11_mayDo_107 rfl rfl (fun v2068 hv2068 => ?_)
                refine WQ_iandu dX11_mayDo_108 (fun v2069 => ?_)
                refine WQ_iconst (1) (1) dX11_mayDo_109 rfl rfl (fun v2070 hv2070 => ?_)
                refine WX_icmp_ne 123 dX11_mayDo_110 rfl ?_ ?_
                · refine WP_aload_n dX11_mayDo_123 rfl ?_
                  refine WP_iload_n dX11_mayDo_124 rfl ?_
                  refine WP_iload_n dX11_mayDo_125 rfl ?_
                  refine WP_iload dX11_mayDo_126 rfl ?_
                  refine WP_callV3 (k := 11) dX11_mayDo_128 ⟨⟨⟨by decide, by decide⟩, zX11_paysFor⟩, lX11_405, by decide, rfl, vX11_paysFor.1, vX11_paysFor.2⟩ (ly_is hy 0 11 rfl) (sm_paysFor hy hr hI so da ac (by omega) (by omega) (by omega) (by omega) (by omega) (by omega)) (Nat.le_of_ble_eq_true rfl) ?_
                  intro r Ia Ja Ra hq
                  obtain ⟨⟨ea, eb, ec⟩, v2071, rfl, av2071, bv2071⟩ := hq
                  show WP _ _ _ _ (.int _ :: _) _ _ _ _
                  rw [ea, eb, ec]
                  clear ea eb ec Ia Ja Ra
                  refine WP_iload_n dX11_mayDo_131 rfl ?_
                  have jn140_2074 : ∀ (v2074 : Int32), 0 ≤ v2074.toInt → v2074.toInt ≤ 1 → WP g mX11_mayDo 140 [(0, .ref (ad g 0)), (1, .int so), (2, .int da), (3, .int co), (4, .int st), (5, .int ac), (6, .int v1969), (7, .int v1973), (8, .int v1975), (9, .int v1978)] [.int v2074] I J R (fun r I' J' R' => (I' = I ∧ J' = J ∧ R' = R) ∧ ∃ v : Int32, r = some (.int v) ∧ 0 ≤ v.toInt ∧ v.toInt ≤ 1) := by
                    intro v2074 av2074 bv2074
                    exact WP_zret dX11_mayDo_140 rfl (nar_z (by omega)) ⟨⟨rfl, rfl, rfl⟩, _, rfl, by omega, by omega⟩
                  refine WQ_icmp_gt 139 dX11_mayDo_132 rfl (fun c2075 => ?_) (fun c2075 => ?_)
                  · refine WQ_iconst (0) (0) dX11_mayDo_139 rfl rfl (fun v2077 hv2077 => ?_)
                    exact WP_sub (fc rfl (fc rfl (fc rfl (fc rfl (fc rfl (fc rfl (fc rfl (fc rfl (fc rfl (fc rfl fn)))))))))) (jn140_2074 v2077 (by omega) (by omega))
                  · refine WQ_iconst (1) (1) dX11_mayDo_135 rfl rfl (fun v2078 hv2078 => ?_)
                    refine WP_goto 140 dX11_mayDo_136 rfl ?_
                    exact WP_sub (fc rfl (fc rfl (fc rfl (fc rfl (fc rfl (fc rfl (fc rfl (fc rfl (fc rfl (fc rfl fn)))))))))) (jn140_2074 v2078 (by omega) (by omega))
                · refine WP_iload dX11_mayDo_113 rfl ?_
                  refine WP_iload dX11_mayDo_115 rfl ?_
                  refine WQ_iadd dX11_mayDo_117 (by omega) (by omega) (fun v2079 hv2079 => ?_)
                  refine WQ_if_le 123 dX11_mayDo_118 rfl (fun c2079 => False.elim (by omega)) (fun c2079 => ?_)
                  refine WQ_iconst (0) (0) dX11_mayDo_121 rfl rfl (fun v2081 hv2081 => ?_)
                  exact WP_zret dX11_mayDo_122 rfl (nar_z (by omega)) ⟨⟨rfl, rfl, rfl⟩, _, rfl, by omega, by omega⟩
              · refine WQ_iconst (0) (0) dX11_mayDo_97 rfl rfl (fun v2082 hv2082 => ?_)
                exact WP_zret dX11_mayDo_98 rfl (nar_z (by omega)) ⟨⟨rfl, rfl, rfl⟩, _, rfl, by omega, by omega⟩
      · refine WQ_iconst (0) (0) dX11_mayDo_63 rfl rfl (fun v2083 hv2083 => ?_)
        exact WP_zret dX11_mayDo_64 rfl (nar_z (by omega)) ⟨⟨rfl, rfl, rfl⟩, _, rfl, by omega, by omega⟩
set_option maxHeartbeats 4000000 in
set_option maxRecDepth 100000 in
theorem sm_may {g : GG} {n : Int} {L : Int32} (hy : Ly g)  {I : pI} {J : pJ} {R : pR} (hr : Rf g R) (hI : MP g n L I) (a : Int32) (b : Int32) (c : Int32) (e : Int32) (f : Int32)  : SP g mX11_may [.ref (ad g 0), .int a, .int b, .int c, .int e, .int f] I J R (fun r I' J' R' => (I' = I ∧ J' = J ∧ R' = R) ∧ ∃ v : Int32, r = some (.int v)) := by
  refine SP_of ⟨by decide, rfl⟩ (Nat.le_of_ble_eq_true rfl) ?_
  have e2084 : I (ad g 0) 1 = L := hI.1.2
  have b2085 := BT_get hI.1.1 0 1 2 (0) (0) (900) (by decide) 1 (by decide) (by decide)
  rw [e2084] at b2085
  refine WP_aload_n dX11_may_0 rfl ?_
  refine WP_iload_n dX11_may_1 rfl ?_
  refine WP_callV1 (k := 11) dX11_may_2 ⟨⟨⟨by decide, by decide⟩, zX11_isSort⟩, lX11_367, by decide, rfl, vX11_isSort.1, vX11_isSort.2⟩ (ly_is hy 0 11 rfl) (sm_isSort hy hr hI a ) (Nat.le_of_ble_eq_true rfl) ?_
  intro r Ia Ja Ra hq
  obtain ⟨⟨ea, eb, ec⟩, v2086, rfl, av2086, bv2086, cv2086⟩ := hq
  show WP _ _ _ _ (.int _ :: _) _ _ _ _
  rw [ea, eb, ec]
  clear ea eb ec Ia Ja Ra
  obtain ⟨w2087, ew2087⟩ : ∃ w : Int32, I (ad g 0) 10 = w := ⟨_, rfl⟩
  have bw2087 := BT_get hI.1.1 0 10 11 (0) (0) (4) (by decide) 10 (by decide) (by decide)
  rw [ew2087] at bw2087
  rw [ew2087] at cv2086
  have jn67_2108 : ∀ (v2108 : Int32), -2 ≤ v2108.toInt → v2108.toInt ≤ 1 → WP g mX11_may 67 [(0, .ref (ad g 0)), (1, .int a), (2, .int b), (3, .int c), (4, .int e), (5, .int f)] [.int v2108] I J R (fun r I' J' R' => (I' = I ∧ J' = J ∧ R' = R) ∧ ∃ v : Int32, r = some (.int v)) := by
    intro v2108 av2108 bv2108
    exact WP_iret dX11_may_67 rfl ⟨⟨rfl, rfl, rfl⟩, _, rfl⟩
  refine WQ_if_eq 43 dX11_may_5 rfl (fun c2109 => ?_) (fun c2109 => ?_)
  · refine WQ_bipush (-2) (-2) dX11_may_43 rfl rfl (fun v2111 hv2111 => ?_)
    refine WP_goto 67 dX11_may_45 rfl ?_
    exact WP_sub (fc rfl (fc rfl (fc rfl (fc rfl (fc rfl (fc rfl fn)))))) (jn67_2108 v2111 (by omega) (by omega))
  · refine WP_iload_n dX11_may_8 rfl ?_
    refine WP_callS1 dX11_may_9 ⟨⟨⟨by decide, by decide⟩, zX11_isDay⟩, lX11_370, tX11_isDay⟩ (sm_isDay hy hr hI b ) (Nat.le_of_ble_eq_true rfl) ?_
    intro r Ia Ja Ra hq
    obtain ⟨⟨ea, eb, ec⟩, v2112, rfl, av2112, bv2112, cv2112⟩ := hq
    show WP _ _ _ _ (.int _ :: _) _ _ _ _
    rw [ea, eb, ec]
    clear ea eb ec Ia Ja Ra
    refine WQ_if_eq 43 dX11_may_12 rfl (fun c2112 => ?_) (fun c2112 => ?_)
    · refine WQ_bipush (-2) (-2) dX11_may_43 rfl rfl (fun v2114 hv2114 => ?_)
      refine WP_goto 67 dX11_may_45 rfl ?_
      exact WP_sub (fc rfl (fc rfl (fc rfl (fc rfl (fc rfl (fc rfl fn)))))) (jn67_2108 v2114 (by omega) (by omega))
    · refine WP_iload_n dX11_may_15 rfl ?_
      refine WP_callS1 dX11_may_16 ⟨⟨⟨by decide, by decide⟩, zX11_areCoins⟩, lX11_392, tX11_areCoins⟩ (sm_areCoins hy hr hI c ) (Nat.le_of_ble_eq_true rfl) ?_
      intro r Ia Ja Ra hq
      obtain ⟨⟨ea, eb, ec⟩, v2115, rfl, av2115, bv2115, cv2115⟩ := hq
      show WP _ _ _ _ (.int _ :: _) _ _ _ _
      rw [ea, eb, ec]
      clear ea eb ec Ia Ja Ra
      refine WQ_if_eq 43 dX11_may_19 rfl (fun c2115 => ?_) (fun c2115 => ?_)
      · refine WQ_bipush (-2) (-2) dX11_may_43 rfl rfl (fun v2117 hv2117 => ?_)
        refine WP_goto 67 dX11_may_45 rfl ?_
        exact WP_sub (fc rfl (fc rfl (fc rfl (fc rfl (fc rfl (fc rfl fn)))))) (jn67_2108 v2117 (by omega) (by omega))
      · refine WP_iload dX11_may_22 rfl ?_
        refine WP_callS1 dX11_may_24 ⟨⟨⟨by decide, by decide⟩, zX11_isStore⟩, lX11_395, tX11_isStore⟩ (sm_isStore hy hr hI e ) (Nat.le_of_ble_eq_true rfl) ?_
        intro r Ia Ja Ra hq
        obtain ⟨⟨ea, eb, ec⟩, v2118, rfl, av2118, bv2118, cv2118⟩ := hq
        show WP _ _ _ _ (.int _ :: _) _ _ _ _
        rw [ea, eb, ec]
        clear ea eb ec Ia Ja Ra
        refine WQ_if_eq 43 dX11_may_27 rfl (fun c2118 => ?_) (fun c2118 => ?_)
        · refine WQ_bipush (-2) (-2) dX11_may_43 rfl rfl (fun v2120 hv2120 => ?_)
          refine WP_goto 67 dX11_may_45 rfl ?_
          exact WP_sub (fc rfl (fc rfl (fc rfl (fc rfl (fc rfl (fc rfl fn)))))) (jn67_2108 v2120 (by omega) (by omega))
        · refine WP_iload dX11_may_30 rfl ?_
          refine WQ_i2l dX11_may_32 (fun l2121 hl2121 => ?_)
          refine WP_lconst (0) dX11_may_33 rfl ?_
          obtain ⟨l2122, hl2122, el2122⟩ : ∃ v : Int64, v.toInt = 0 ∧ (0 : Int64) = v := ⟨_, rfl, rfl⟩
          rw [el2122]; clear el2122
          refine WP_ldc2 (47) dX11_may_34 klX11_408 ?_
          obtain ⟨l2123, hl2123, el2123⟩ : ∃ v : Int64, v.toInt = (47) ∧ ((47) : Int64) = v := ⟨_, rfl, rfl⟩
          rw [el2123]; clear el2123
          refine WP_callS3 dX11_may_37 ⟨⟨⟨by decide, by decide⟩, zX11_in⟩, lX11_52, tX11_in⟩ (sm_in hy hr hI l2121 l2122 l2123 ) (Nat.le_of_ble_eq_true rfl) ?_
          intro r Ia Ja Ra hq
          obtain ⟨⟨ea, eb, ec⟩, v2124, rfl, av2124, bv2124, cv2124⟩ := hq
          show WP _ _ _ _ (.int _ :: _) _ _ _ _
          rw [ea, eb, ec]
          clear ea eb ec Ia Ja Ra
          refine WQ_if_ne 48 dX11_may_40 rfl (fun c2124 => ?_) (fun c2124 => ?_)
          · refine WP_aload_n dX11_may_48 rfl ?_
            refine WP_iload_n dX11_may_49 rfl ?_
            refine WP_iload_n dX11_may_50 rfl ?_
            refine WP_iload_n dX11_may_51 rfl ?_
            refine WP_iload dX11_may_52 rfl ?_
            refine WP_iload dX11_may_54 rfl ?_
            refine WP_callV5 (k := 11) dX11_may_56 ⟨⟨⟨by decide, by decide⟩, zX11_mayDo⟩, lX11_410, by decide, rfl, vX11_mayDo.1, vX11_mayDo.2⟩ (ly_is hy 0 11 rfl) (sm_mayDo hy hr hI a b c e f (by omega) (by omega) (by omega) (by omega) (by omega) (by omega) (by omega) (by omega) (by omega) (by omega)) (Nat.le_of_ble_eq_true rfl) ?_
            intro r Ia Ja Ra hq
            obtain ⟨⟨ea, eb, ec⟩, v2126, rfl, av2126, bv2126⟩ := hq
            show WP _ _ _ _ (.int _ :: _) _ _ _ _
            rw [ea, eb, ec]
            clear ea eb ec Ia Ja Ra
            refine WQ_if_eq 66 dX11_may_59 rfl (fun c2126 => ?_) (fun c2126 => ?_)
            · refine WQ_iconst (0) (0) dX11_may_66 rfl rfl (fun v2128 hv2128 => ?_)
              exact WP_sub (fc rfl (fc rfl (fc rfl (fc rfl (fc rfl (fc rfl fn)))))) (jn67_2108 v2128 (by omega) (by omega))
            · refine WQ_iconst (1) (1) dX11_may_62 rfl rfl (fun v2129 hv2129 => ?_)
              refine WP_goto 67 dX11_may_63 rfl ?_
              exact WP_sub (fc rfl (fc rfl (fc rfl (fc rfl (fc rfl (fc rfl fn)))))) (jn67_2108 v2129 (by omega) (by omega))
          · refine WQ_bipush (-2) (-2) dX11_may_43 rfl rfl (fun v2130 hv2130 => ?_)
            refine WP_goto 67 dX11_may_45 rfl ?_
            exact WP_sub (fc rfl (fc rfl (fc rfl (fc rfl (fc rfl (fc rfl fn)))))) (jn67_2108 v2130 (by omega) (by omega))
set_option maxHeartbeats 4000000 in
set_option maxRecDepth 100000 in
theorem sm_loses {g : GG} {n : Int} {L : Int32} (hy : Ly g)  {I : pI} {J : pJ} {R : pR} (hr : Rf g R) (hI : MP g n L I) (da : Int32) (da_lo : 0 ≤ da.toInt) (da_hi : da.toInt ≤ 6) : SP g mX11_loses [.ref (ad g 0), .int da] I J R (fun r I' J' R' => (I' = I ∧ J' = J ∧ R' = R) ∧ ∃ v : Int32, r = some (.int v) ∧ -1 ≤ v.toInt ∧ v.toInt ≤ 900) := by
  refine SP_of ⟨by decide, rfl⟩ (Nat.le_of_ble_eq_true rfl) ?_
  have e2131 : I (ad g 0) 1 = L := hI.1.2
  have b2132 := BT_get hI.1.1 0 1 2 (0) (0) (900) (by decide) 1 (by decide) (by decide)
  rw [e2131] at b2132
  refine WP_aload_n dX11_loses_0 rfl ?_
  refine WQ_geti dX11_loses_1 fX11_273 rfl (ly_is hy 0 11 rfl) (BT_get hI.1.1 0 55 56 (-1) (0) (900) (by decide) 55 (by decide) (by decide)) (fun v2133 ev2133 av2133 bv2133 => ?_)
  refine WQ_iconst (-1) (-1) dX11_loses_4 rfl rfl (fun v2134 hv2134 => ?_)
  have jn30_2139 : ∀ (v2139 : Int32), 0 ≤ v2139.toInt → v2139.toInt ≤ 900 → WP g mX11_loses 30 [(0, .ref (ad g 0)), (1, .int da)] [.int v2139] I J R (fun r I' J' R' => (I' = I ∧ J' = J ∧ R' = R) ∧ ∃ v : Int32, r = some (.int v) ∧ -1 ≤ v.toInt ∧ v.toInt ≤ 900) := by
    intro v2139 av2139 bv2139
    exact WP_iret dX11_loses_30 rfl ⟨⟨rfl, rfl, rfl⟩, _, rfl, by omega, by omega⟩
  refine WQ_icmp_eq 17 dX11_loses_5 rfl (fun c2140 => ?_) (fun c2140 => ?_)
  · refine WP_aload_n dX11_loses_17 rfl ?_
    refine WP_getr dX11_loses_18 fX11_233 rfl (ly_is hy 0 11 rfl) (rf hr 0 24 6 (by decide)) ?_
    refine WP_iload_n dX11_loses_21 rfl ?_
    refine WQ_iald dX11_loses_22 (ly_is hy 6 13 rfl) (ly_n hy 6 7 rfl) (by omega) (by omega) (fun q hq => BT_get hI.1.1 6 0 7 (0) (0) (900) (by decide) q (Nat.zero_le _) hq) (fun v2142 av2142 bv2142 ev2142 => ?_)
    clear ev2142
    refine WP_goto 30 dX11_loses_23 rfl ?_
    exact WP_sub (fc rfl (fc rfl fn)) (jn30_2139 v2142 (by omega) (by omega))
  · refine WP_aload_n dX11_loses_8 rfl ?_
    refine WP_getr dX11_loses_9 fX11_233 rfl (ly_is hy 0 11 rfl) (rf hr 0 24 6 (by decide)) ?_
    refine WP_iload_n dX11_loses_12 rfl ?_
    refine WQ_iald dX11_loses_13 (ly_is hy 6 13 rfl) (ly_n hy 6 7 rfl) (by omega) (by omega) (fun q hq => BT_get hI.1.1 6 0 7 (0) (0) (900) (by decide) q (Nat.zero_le _) hq) (fun v2143 av2143 bv2143 ev2143 => ?_)
    clear ev2143
    refine WQ_if_ne 26 dX11_loses_14 rfl (fun c2143 => ?_) (fun c2143 => ?_)
    · refine WP_aload_n dX11_loses_26 rfl ?_
      refine WQ_getim dX11_loses_27 fX11_273 rfl (ly_is hy 0 11 rfl) ev2133 ?_
      exact WP_sub (fc rfl (fc rfl fn)) (jn30_2139 v2133 (by omega) (by omega))
    · refine WP_aload_n dX11_loses_17 rfl ?_
      refine WP_getr dX11_loses_18 fX11_233 rfl (ly_is hy 0 11 rfl) (rf hr 0 24 6 (by decide)) ?_
      refine WP_iload_n dX11_loses_21 rfl ?_
      refine WQ_iald dX11_loses_22 (ly_is hy 6 13 rfl) (ly_n hy 6 7 rfl) (by omega) (by omega) (fun q hq => BT_get hI.1.1 6 0 7 (0) (0) (900) (by decide) q (Nat.zero_le _) hq) (fun v2145 av2145 bv2145 ev2145 => ?_)
      clear ev2145
      refine WP_goto 30 dX11_loses_23 rfl ?_
      exact WP_sub (fc rfl (fc rfl fn)) (jn30_2139 v2145 (by omega) (by omega))
set_option maxHeartbeats 4000000 in
set_option maxRecDepth 100000 in
theorem sm_forgetWeeks {g : GG} {n : Int} {L : Int32} (hy : Ly g)  {I : pI} {J : pJ} {R : pR} (hr : Rf g R) (hI : MP g n L I)   : SP g mX11_forgetWeeks [.ref (ad g 0)] I J R (fun r I' J' R' => (MP g n L I' ∧ R' = R) ∧ r = none) := by
  refine SP_of ⟨by decide, rfl⟩ (Nat.le_of_ble_eq_true rfl) ?_
  have e2146 : I (ad g 0) 1 = L := hI.1.2
  have b2147 := BT_get hI.1.1 0 1 2 (0) (0) (900) (by decide) 1 (by decide) (by decide)
  rw [e2146] at b2147
  refine WQ_iconst (0) (0) dX11_forgetWeeks_0 rfl rfl (fun v2148 hv2148 => ?_)
  refine WP_istore_n (ls' := [(0, _), (1, _)]) dX11_forgetWeeks_1 (by decide) rfl ?_
  have lp2_2151 : ∀ (mz : Nat) (i2149 : Int32) (I2150 : pI) (J2151 : pJ), MP g n L I2150 → 0 ≤ i2149.toInt → i2149.toInt ≤ 28 → (29 - i2149.toInt).toNat < mz → WP g mX11_forgetWeeks 2 [(0, .ref (ad g 0)), (1, .int i2149)] [] I2150 J2151 R (fun r I' J' R' => (MP g n L I' ∧ R' = R) ∧ r = none) := by
    intro mz
    induction mz with
    | zero =>
      intro i2149 I2150 J2151 hI2150 ai2149 bi2149 hmlp2_2151
      exact absurd hmlp2_2151 (Nat.not_lt_zero _)
    | succ mz ihlp2_2151 =>
      intro i2149 I2150 J2151 hI2150 ai2149 bi2149 hmlp2_2151
      have e2153 : I2150 (ad g 0) 1 = L := hI2150.1.2
      have b2154 := BT_get hI2150.1.1 0 1 2 (0) (0) (900) (by decide) 1 (by decide) (by decide)
      rw [e2153] at b2154
      refine WP_iload_n dX11_forgetWeeks_2 rfl ?_
      refine WQ_bipush (28) (28) dX11_forgetWeeks_3 rfl rfl (fun v2155 hv2155 => ?_)
      refine WQ_icmp_ge 21 dX11_forgetWeeks_5 rfl (fun c2155 => ?_) (fun c2155 => ?_)
      · exact WP_vret dX11_forgetWeeks_21 rfl ⟨⟨hI2150, rfl⟩, rfl⟩
      · refine WP_aload_n dX11_forgetWeeks_8 rfl ?_
        refine WP_getr dX11_forgetWeeks_9 fX11_279 rfl (ly_is hy 0 11 rfl) (rf hr 0 58 37 (by decide)) ?_
        refine WP_iload_n dX11_forgetWeeks_12 rfl ?_
        refine WQ_iconst (0) (0) dX11_forgetWeeks_13 rfl rfl (fun v2157 hv2157 => ?_)
        refine WQ_zast dX11_forgetWeeks_14 (ly_is hy 37 15 rfl) (ly_n hy 37 28 rfl) (by omega) (by omega) (fun I2158 v2159 eI2158 => ?_)
        have hI2158 : MP g n L I2158 := by rw [eI2158]; exact (mp_w hy hI2150 (c := 37) (mi_r0 hy hI2150.1 (c := 37) (by decide) (Or.inl (by decide)) (by decide)) (by decide) (by decide) (Or.inl (by decide)))
        have e2160 : I2158 (ad g 0) 1 = L := by rw [eI2158, pp_ne _ _ (Or.inl (ly_ne hy (by decide) (by decide) (by decide)))]; exact e2153
        clear eI2158
        refine WP_iinc (ls' := [(0, _), (1, _)]) dX11_forgetWeeks_15 rfl (by decide) rfl ?_
        have hv2161 : (i2149 + Int32.ofInt (1)).toInt = i2149.toInt + (1) := ia_n rfl (by omega) (by omega)
        generalize i2149 + Int32.ofInt (1) = v2161 at hv2161 ⊢
        refine WP_goto 2 dX11_forgetWeeks_18 rfl ?_
        exact WP_sub (fc rfl (fc rfl fn)) (ihlp2_2151 v2161 I2158 J2151 hI2158 (by omega) (by omega) (by omega))
  exact WP_sub (fc rfl (fc rfl fn)) (lp2_2151 _ v2148 I J hI (by omega) (by omega) (Nat.lt_succ_self _))
set_option maxHeartbeats 4000000 in
set_option maxRecDepth 100000 in
theorem sm_way {g : GG} {n : Int} {L : Int32} (hy : Ly g)  {I : pI} {J : pJ} {R : pR} (hr : Rf g R) (hI : MP g n L I) (a : Int32) (b : Int32)  : SP g mX11_way [.ref (ad g 0), .int a, .int b] I J R (fun r I' J' R' => (MP g n L I' ∧ R' = R) ∧ ∃ v : Int32, r = some (.int v)) := by
  refine SP_of ⟨by decide, rfl⟩ (Nat.le_of_ble_eq_true rfl) ?_
  have e2162 : I (ad g 0) 1 = L := hI.1.2
  have b2163 := BT_get hI.1.1 0 1 2 (0) (0) (900) (by decide) 1 (by decide) (by decide)
  rw [e2162] at b2163
  refine WP_aload_n dX11_way_0 rfl ?_
  refine WP_iload_n dX11_way_1 rfl ?_
  refine WP_callV1 (k := 11) dX11_way_2 ⟨⟨⟨by decide, by decide⟩, zX11_isSort⟩, lX11_367, by decide, rfl, vX11_isSort.1, vX11_isSort.2⟩ (ly_is hy 0 11 rfl) (sm_isSort hy hr hI a ) (Nat.le_of_ble_eq_true rfl) ?_
  intro r Ia Ja Ra hq
  obtain ⟨⟨ea, eb, ec⟩, v2164, rfl, av2164, bv2164, cv2164⟩ := hq
  show WP _ _ _ _ (.int _ :: _) _ _ _ _
  rw [ea, eb, ec]
  clear ea eb ec Ia Ja Ra
  obtain ⟨w2165, ew2165⟩ : ∃ w : Int32, I (ad g 0) 10 = w := ⟨_, rfl⟩
  have bw2165 := BT_get hI.1.1 0 10 11 (0) (0) (4) (by decide) 10 (by decide) (by decide)
  rw [ew2165] at bw2165
  rw [ew2165] at cv2164
  refine WQ_if_eq 15 dX11_way_5 rfl (fun c2165 => ?_) (fun c2165 => ?_)
  · refine WQ_bipush (-2) (-2) dX11_way_15 rfl rfl (fun v2167 hv2167 => ?_)
    exact WP_iret dX11_way_17 rfl ⟨⟨hI, rfl⟩, _, rfl⟩
  · refine WP_iload_n dX11_way_8 rfl ?_
    refine WP_callS1 dX11_way_9 ⟨⟨⟨by decide, by decide⟩, zX11_isWay⟩, lX11_454, tX11_isWay⟩ (sm_isWay hy hr hI b ) (Nat.le_of_ble_eq_true rfl) ?_
    intro r Ia Ja Ra hq
    obtain ⟨⟨ea, eb, ec⟩, v2168, rfl, av2168, bv2168, cv2168⟩ := hq
    show WP _ _ _ _ (.int _ :: _) _ _ _ _
    rw [ea, eb, ec]
    clear ea eb ec Ia Ja Ra
    refine WQ_if_ne 18 dX11_way_12 rfl (fun c2168 => ?_) (fun c2168 => ?_)
    · refine WP_aload_n dX11_way_18 rfl ?_
      refine WP_getr dX11_way_19 fX11_283 rfl (ly_is hy 0 11 rfl) (rf hr 0 59 38 (by decide)) ?_
      refine WQ_bipush (28) (28) dX11_way_22 rfl rfl (fun v2170 hv2170 => ?_)
      refine WP_iload_n dX11_way_24 rfl ?_
      refine WQ_iadd dX11_way_25 (by omega) (by omega) (fun v2171 hv2171 => ?_)
      refine WQ_ialdu dX11_way_26 (ly_is hy 38 13 rfl) (ly_n hy 38 35 rfl) (by omega) (by omega) (fun v2172 => ?_)
      refine WP_istore_n (ls' := [(0, _), (1, _), (2, _), (3, _)]) dX11_way_27 (by decide) rfl ?_
      refine WP_aload_n dX11_way_28 rfl ?_
      refine WP_getr dX11_way_29 fX11_283 rfl (ly_is hy 0 11 rfl) (rf hr 0 59 38 (by decide)) ?_
      refine WQ_bipush (28) (28) dX11_way_32 rfl rfl (fun v2173 hv2173 => ?_)
      refine WP_iload_n dX11_way_34 rfl ?_
      refine WQ_iadd dX11_way_35 (by omega) (by omega) (fun v2174 hv2174 => ?_)
      refine WP_iload_n dX11_way_36 rfl ?_
      refine WQ_iast dX11_way_37 (ly_is hy 38 13 rfl) (ly_n hy 38 35 rfl) (by omega) (by omega) (fun I2175 eI2175 => ?_)
      have hI2175 : MP g n L I2175 := by rw [eI2175]; exact (mp_w hy hI (c := 38) (mi_rr hy hI.1 (c := 38) (28) (31) (0) (0) (0) (by decide) (Or.inl (by decide)) (by rw [cl (n := v2174.toInt.toNat) (by omega)]; omega) (by decide) (fun h => absurd h (by decide))) (by decide) (by decide) (Or.inl (by decide)))
      have e2176 : I2175 (ad g 0) 1 = L := by rw [eI2175, pp_ne _ _ (Or.inl (ly_ne hy (by decide) (by decide) (by decide)))]; exact e2162
      have e2177 : I2175 (ad g 0) 10 = w2165 := by rw [eI2175, pp_ne _ _ (Or.inl (ly_ne hy (by decide) (by decide) (by decide)))]; exact ew2165
      clear eI2175
      refine WP_iload_n dX11_way_38 rfl ?_
      exact WP_iret dX11_way_39 rfl ⟨⟨hI2175, rfl⟩, _, rfl⟩
    · refine WQ_bipush (-2) (-2) dX11_way_15 rfl rfl (fun v2178 hv2178 => ?_)
      exact WP_iret dX11_way_17 rfl ⟨⟨hI, rfl⟩, _, rfl⟩
set_option maxHeartbeats 4000000 in
set_option maxRecDepth 100000 in
theorem sm_paidByAll {g : GG} {n : Int} {L : Int32} (hy : Ly g)  {I : pI} {J : pJ} {R : pR} (hr : Rf g R) (hI : MP g n L I)   : SP g mX11_paidByAll [.ref (ad g 0), .ref (ad g 38)] I J R (fun r I' J' R' => (I' = I ∧ J' = J ∧ R' = R) ∧ ∃ v : Int32, r = some (.int v)) := by
  refine SP_of ⟨by decide, rfl⟩ (Nat.le_of_ble_eq_true rfl) ?_
  have e2179 : I (ad g 0) 1 = L := hI.1.2
  have b2180 := BT_get hI.1.1 0 1 2 (0) (0) (900) (by decide) 1 (by decide) (by decide)
  rw [e2179] at b2180
  refine WQ_iconst (0) (0) dX11_paidByAll_0 rfl rfl (fun v2181 hv2181 => ?_)
  refine WP_istore_n (ls' := [(0, _), (1, _), (2, _)]) dX11_paidByAll_1 (by decide) rfl ?_
  refine WQ_iconst (0) (0) dX11_paidByAll_2 rfl rfl (fun v2182 hv2182 => ?_)
  refine WP_istore_n (ls' := [(0, _), (1, _), (2, _), (3, _)]) dX11_paidByAll_3 (by decide) rfl ?_
  have lp4_2184 : ∀ (mz : Nat) (i2183 : Int32) (i2184 : Int32), 0 ≤ i2184.toInt → i2184.toInt ≤ 4 → (5 - i2184.toInt).toNat < mz → WP g mX11_paidByAll 4 [(0, .ref (ad g 0)), (1, .ref (ad g 38)), (2, .int i2183), (3, .int i2184)] [] I J R (fun r I' J' R' => (I' = I ∧ J' = J ∧ R' = R) ∧ ∃ v : Int32, r = some (.int v)) := by
    intro mz
    induction mz with
    | zero =>
      intro i2183 i2184 ai2184 bi2184 hmlp4_2184
      exact absurd hmlp4_2184 (Nat.not_lt_zero _)
    | succ mz ihlp4_2184 =>
      intro i2183 i2184 ai2184 bi2184 hmlp4_2184
      refine WP_iload_n dX11_paidByAll_4 rfl ?_
      refine WP_aload_n dX11_paidByAll_5 rfl ?_
      refine WQ_geti dX11_paidByAll_6 fX11_329 rfl (ly_is hy 0 11 rfl) (BT_get hI.1.1 0 10 11 (0) (0) (4) (by decide) 10 (by decide) (by decide)) (fun v2186 ev2186 av2186 bv2186 => ?_)
      refine WQ_icmp_ge 27 dX11_paidByAll_9 rfl (fun c2186 => ?_) (fun c2186 => ?_)
      · refine WP_iload_n dX11_paidByAll_27 rfl ?_
        exact WP_iret dX11_paidByAll_28 rfl ⟨⟨rfl, rfl, rfl⟩, _, rfl⟩
      · refine WP_iload_n dX11_paidByAll_12 rfl ?_
        refine WP_aload_n dX11_paidByAll_13 rfl ?_
        refine WQ_bipush (8) (8) dX11_paidByAll_14 rfl rfl (fun v2188 hv2188 => ?_)
        refine WP_iload_n dX11_paidByAll_16 rfl ?_
        refine WQ_iadd dX11_paidByAll_17 (by omega) (by omega) (fun v2189 hv2189 => ?_)
        refine WQ_ialdu dX11_paidByAll_18 (ly_is hy 38 13 rfl) (ly_n hy 38 35 rfl) (by omega) (by omega) (fun v2190 => ?_)
        refine WQ_iaddu dX11_paidByAll_19 (fun v2191 => ?_)
        refine WP_istore_n (ls' := [(0, _), (1, _), (2, _), (3, _)]) dX11_paidByAll_20 (by decide) rfl ?_
        refine WP_iinc (ls' := [(0, _), (1, _), (2, _), (3, _)]) dX11_paidByAll_21 rfl (by decide) rfl ?_
        have hv2192 : (i2184 + Int32.ofInt (1)).toInt = i2184.toInt + (1) := ia_n rfl (by omega) (by omega)
        generalize i2184 + Int32.ofInt (1) = v2192 at hv2192 ⊢
        refine WP_goto 4 dX11_paidByAll_24 rfl ?_
        exact WP_sub (fc rfl (fc rfl (fc rfl (fc rfl fn)))) (ihlp4_2184 v2191 v2192 (by omega) (by omega) (by omega))
  exact WP_sub (fc rfl (fc rfl (fc rfl (fc rfl fn)))) (lp4_2184 _ v2181 v2182 (by omega) (by omega) (Nat.lt_succ_self _))
set_option maxHeartbeats 4000000 in
set_option maxRecDepth 100000 in
theorem sm_all {g : GG} {n : Int} {L : Int32} (hy : Ly g)  {I : pI} {J : pJ} {R : pR} (hr : Rf g R) (hI : MP g n L I) (a : Int32)  : SP g mX11_all [.ref (ad g 0), .int a] I J R (fun r I' J' R' => (I' = I ∧ J' = J ∧ R' = R) ∧ ∃ v : Int32, r = some (.int v)) := by
  refine SP_of ⟨by decide, rfl⟩ (Nat.le_of_ble_eq_true rfl) ?_
  have e2193 : I (ad g 0) 1 = L := hI.1.2
  have b2194 := BT_get hI.1.1 0 1 2 (0) (0) (900) (by decide) 1 (by decide) (by decide)
  rw [e2193] at b2194
  refine WP_iload_n dX11_all_0 rfl ?_
  refine WP_tab 89 dX11_all_1 rfl rfl (fun c2194 => ?_) (fun j off c2194 hj => ?_) (by decide)
  · refine WQ_iconst (-1) (-1) dX11_all_89 rfl rfl (fun v2196 hv2196 => ?_)
    exact WP_iret dX11_all_90 rfl ⟨⟨rfl, rfl, rfl⟩, _, rfl⟩
  · have hlt : j < 4 := by have := (Array.getElem?_eq_some_iff.mp hj).1; simpa using this
    have hcs : (j = 0 ∧ off = 31) ∨ (j = 1 ∧ off = 39) ∨ (j = 2 ∧ off = 47) ∨ (j = 3 ∧ off = 80) := by
      match j, hlt, hj with
      | 0, _, hj => exact Or.inl ⟨rfl, (Option.some.inj hj).symm⟩
      | 1, _, hj => exact Or.inr (Or.inl ⟨rfl, (Option.some.inj hj).symm⟩)
      | 2, _, hj => exact Or.inr (Or.inr (Or.inl ⟨rfl, (Option.some.inj hj).symm⟩))
      | 3, _, hj => exact Or.inr (Or.inr (Or.inr (⟨rfl, (Option.some.inj hj).symm⟩)))
    clear hj hlt
    rcases hcs with ⟨rfl, rfl⟩ | ⟨rfl, rfl⟩ | ⟨rfl, rfl⟩ | ⟨rfl, rfl⟩
    · show WP _ _ 32 _ _ _ _ _ _
      refine WP_aload_n dX11_all_32 rfl ?_
      refine WP_getr dX11_all_33 fX11_283 rfl (ly_is hy 0 11 rfl) (rf hr 0 59 38 (by decide)) ?_
      refine WQ_bipush (32) (32) dX11_all_36 rfl rfl (fun v2197 hv2197 => ?_)
      refine WQ_ialdr dX11_all_38 (ly_is hy 38 13 rfl) (ly_n hy 38 35 rfl) (by omega) (by omega) (a := 32) (b := 33) (by omega) (by omega) (fun q hq1 hq2 => BT_get hI.1.1 38 32 33 (0) (23760) (0) (by decide) q hq1 hq2) (fun v2198 av2198 bv2198 => ?_)
      exact WP_iret dX11_all_39 rfl ⟨⟨rfl, rfl, rfl⟩, _, rfl⟩
    · show WP _ _ 40 _ _ _ _ _ _
      refine WP_aload_n dX11_all_40 rfl ?_
      refine WP_getr dX11_all_41 fX11_283 rfl (ly_is hy 0 11 rfl) (rf hr 0 59 38 (by decide)) ?_
      refine WQ_bipush (33) (33) dX11_all_44 rfl rfl (fun v2199 hv2199 => ?_)
      refine WQ_ialdr dX11_all_46 (ly_is hy 38 13 rfl) (ly_n hy 38 35 rfl) (by omega) (by omega) (a := 33) (b := 34) (by omega) (by omega) (fun q hq1 hq2 => BT_get hI.1.1 38 33 34 (0) (1) (0) (by decide) q hq1 hq2) (fun v2200 av2200 bv2200 => ?_)
      exact WP_iret dX11_all_47 rfl ⟨⟨rfl, rfl, rfl⟩, _, rfl⟩
    · show WP _ _ 48 _ _ _ _ _ _
      refine WP_aload_n dX11_all_48 rfl ?_
      refine WQ_getl dX11_all_49 fX11_346 rfl (ly_is hy 0 11 rfl) (fun l2201 el2201 => ?_)
      refine WP_lconst (0) dX11_all_52 rfl ?_
      obtain ⟨l2202, hl2202, el2202⟩ : ∃ v : Int64, v.toInt = 0 ∧ (0 : Int64) = v := ⟨_, rfl, rfl⟩
      rw [el2202]; clear el2202
      refine WQ_lcmp dX11_all_53 (fun v2203 av2203 bv2203 => ?_)
      refine WQ_if_ne 61 dX11_all_54 rfl (fun c2203 => ?_) (fun c2203 => ?_)
      · refine WP_ldc2 (1000) dX11_all_61 klX11_488 ?_
        obtain ⟨l2205, hl2205, el2205⟩ : ∃ v : Int64, v.toInt = (1000) ∧ ((1000) : Int64) = v := ⟨_, rfl, rfl⟩
        rw [el2205]; clear el2205
        refine WP_aload_n dX11_all_64 rfl ?_
        refine WP_aload_n dX11_all_65 rfl ?_
        refine WP_getr dX11_all_66 fX11_283 rfl (ly_is hy 0 11 rfl) (rf hr 0 59 38 (by decide)) ?_
        refine WP_callV1 (k := 11) dX11_all_69 ⟨⟨⟨by decide, by decide⟩, zX11_paidByAll⟩, lX11_490, by decide, rfl, vX11_paidByAll.1, vX11_paidByAll.2⟩ (ly_is hy 0 11 rfl) (sm_paidByAll hy hr hI  ) (Nat.le_of_ble_eq_true rfl) ?_
        intro r Ia Ja Ra hq
        obtain ⟨⟨ea, eb, ec⟩, v2206, rfl⟩ := hq
        show WP _ _ _ _ (.int _ :: _) _ _ _ _
        rw [ea, eb, ec]
        clear ea eb ec Ia Ja Ra
        refine WQ_i2l dX11_all_72 (fun l2207 hl2207 => ?_)
        refine WQ_lmul dX11_all_73 (fun l2208 => ?_)
        refine WP_aload_n dX11_all_74 rfl ?_
        refine WP_getl dX11_all_75 fX11_346 rfl (ly_is hy 0 11 rfl) ?_
        rw [el2201]
        refine WQ_ldiv dX11_all_78 (by omega) (fun l2209 => ?_)
        refine WQ_l2i dX11_all_79 (fun v2210 => ?_)
        exact WP_iret dX11_all_80 rfl ⟨⟨rfl, rfl, rfl⟩, _, rfl⟩
      · refine WQ_iconst (-1) (-1) dX11_all_57 rfl rfl (fun v2211 hv2211 => ?_)
        refine WP_goto 80 dX11_all_58 rfl ?_
        exact WP_iret dX11_all_80 rfl ⟨⟨rfl, rfl, rfl⟩, _, rfl⟩
    · show WP _ _ 81 _ _ _ _ _ _
      refine WP_aload_n dX11_all_81 rfl ?_
      refine WP_getr dX11_all_82 fX11_283 rfl (ly_is hy 0 11 rfl) (rf hr 0 59 38 (by decide)) ?_
      refine WQ_bipush (34) (34) dX11_all_85 rfl rfl (fun v2212 hv2212 => ?_)
      refine WQ_ialdu dX11_all_87 (ly_is hy 38 13 rfl) (ly_n hy 38 35 rfl) (by omega) (by omega) (fun v2213 => ?_)
      exact WP_iret dX11_all_88 rfl ⟨⟨rfl, rfl, rfl⟩, _, rfl⟩
set_option maxHeartbeats 4000000 in
set_option maxRecDepth 100000 in
theorem sm_lend {g : GG} {n : Int} {L : Int32} (hy : Ly g)  {I : pI} {J : pJ} {R : pR} (hr : Rf g R) (hI : MP g n L I) (c : Int32) (w : Int32) (y : Int32) (wh : Int32)  : SP g mX11_lend [.ref (ad g 0), .int c, .int w, .int y, .int wh] I J R (fun r I' J' R' => (I' = I ∧ J' = J ∧ R' = R) ∧ ∃ v : Int32, r = some (.int v)) := by
  refine SP_of ⟨by decide, rfl⟩ (Nat.le_of_ble_eq_true rfl) ?_
  have e2214 : I (ad g 0) 1 = L := hI.1.2
  have b2215 := BT_get hI.1.1 0 1 2 (0) (0) (900) (by decide) 1 (by decide) (by decide)
  rw [e2214] at b2215
  refine WP_iload_n dX11_lend_0 rfl ?_
  refine WQ_i2l dX11_lend_1 (fun l2216 hl2216 => ?_)
  refine WP_lconst (0) dX11_lend_2 rfl ?_
  obtain ⟨l2217, hl2217, el2217⟩ : ∃ v : Int64, v.toInt = 0 ∧ (0 : Int64) = v := ⟨_, rfl, rfl⟩
  rw [el2217]; clear el2217
  refine WP_ldc2 (999) dX11_lend_3 klX11_523 ?_
  obtain ⟨l2218, hl2218, el2218⟩ : ∃ v : Int64, v.toInt = (999) ∧ ((999) : Int64) = v := ⟨_, rfl, rfl⟩
  rw [el2218]; clear el2218
  refine WP_callS3 dX11_lend_6 ⟨⟨⟨by decide, by decide⟩, zX11_in⟩, lX11_52, tX11_in⟩ (sm_in hy hr hI l2216 l2217 l2218 ) (Nat.le_of_ble_eq_true rfl) ?_
  intro r Ia Ja Ra hq
  obtain ⟨⟨ea, eb, ec⟩, v2219, rfl, av2219, bv2219, cv2219⟩ := hq
  show WP _ _ _ _ (.int _ :: _) _ _ _ _
  rw [ea, eb, ec]
  clear ea eb ec Ia Ja Ra
  refine WQ_if_eq 47 dX11_lend_9 rfl (fun c2219 => ?_) (fun c2219 => ?_)
  · refine WQ_bipush (-2) (-2) dX11_lend_47 rfl rfl (fun v2221 hv2221 => ?_)
    exact WP_iret dX11_lend_49 rfl ⟨⟨rfl, rfl, rfl⟩, _, rfl⟩
  · refine WP_iload_n dX11_lend_12 rfl ?_
    refine WQ_i2l dX11_lend_13 (fun l2222 hl2222 => ?_)
    refine WP_lconst (0) dX11_lend_14 rfl ?_
    obtain ⟨l2223, hl2223, el2223⟩ : ∃ v : Int64, v.toInt = 0 ∧ (0 : Int64) = v := ⟨_, rfl, rfl⟩
    rw [el2223]; clear el2223
    refine WP_ldc2 (52) dX11_lend_15 klX11_525 ?_
    obtain ⟨l2224, hl2224, el2224⟩ : ∃ v : Int64, v.toInt = (52) ∧ ((52) : Int64) = v := ⟨_, rfl, rfl⟩
    rw [el2224]; clear el2224
    refine WP_callS3 dX11_lend_18 ⟨⟨⟨by decide, by decide⟩, zX11_in⟩, lX11_52, tX11_in⟩ (sm_in hy hr hI l2222 l2223 l2224 ) (Nat.le_of_ble_eq_true rfl) ?_
    intro r Ia Ja Ra hq
    obtain ⟨⟨ea, eb, ec⟩, v2225, rfl, av2225, bv2225, cv2225⟩ := hq
    show WP _ _ _ _ (.int _ :: _) _ _ _ _
    rw [ea, eb, ec]
    clear ea eb ec Ia Ja Ra
    refine WQ_if_eq 47 dX11_lend_21 rfl (fun c2225 => ?_) (fun c2225 => ?_)
    · refine WQ_bipush (-2) (-2) dX11_lend_47 rfl rfl (fun v2227 hv2227 => ?_)
      exact WP_iret dX11_lend_49 rfl ⟨⟨rfl, rfl, rfl⟩, _, rfl⟩
    · refine WP_iload_n dX11_lend_24 rfl ?_
      refine WQ_i2l dX11_lend_25 (fun l2228 hl2228 => ?_)
      refine WP_lconst (0) dX11_lend_26 rfl ?_
      obtain ⟨l2229, hl2229, el2229⟩ : ∃ v : Int64, v.toInt = 0 ∧ (0 : Int64) = v := ⟨_, rfl, rfl⟩
      rw [el2229]; clear el2229
      refine WP_ldc2 (1000) dX11_lend_27 klX11_488 ?_
      obtain ⟨l2230, hl2230, el2230⟩ : ∃ v : Int64, v.toInt = (1000) ∧ ((1000) : Int64) = v := ⟨_, rfl, rfl⟩
      rw [el2230]; clear el2230
      refine WP_callS3 dX11_lend_30 ⟨⟨⟨by decide, by decide⟩, zX11_in⟩, lX11_52, tX11_in⟩ (sm_in hy hr hI l2228 l2229 l2230 ) (Nat.le_of_ble_eq_true rfl) ?_
      intro r Ia Ja Ra hq
      obtain ⟨⟨ea, eb, ec⟩, v2231, rfl, av2231, bv2231, cv2231⟩ := hq
      show WP _ _ _ _ (.int _ :: _) _ _ _ _
      rw [ea, eb, ec]
      clear ea eb ec Ia Ja Ra
      refine WQ_if_eq 47 dX11_lend_33 rfl (fun c2231 => ?_) (fun c2231 => ?_)
      · refine WQ_bipush (-2) (-2) dX11_lend_47 rfl rfl (fun v2233 hv2233 => ?_)
        exact WP_iret dX11_lend_49 rfl ⟨⟨rfl, rfl, rfl⟩, _, rfl⟩
      · refine WP_iload dX11_lend_36 rfl ?_
        refine WQ_i2l dX11_lend_38 (fun l2234 hl2234 => ?_)
        refine WP_lconst (0) dX11_lend_39 rfl ?_
        obtain ⟨l2235, hl2235, el2235⟩ : ∃ v : Int64, v.toInt = 0 ∧ (0 : Int64) = v := ⟨_, rfl, rfl⟩
        rw [el2235]; clear el2235
        refine WP_lconst (1) dX11_lend_40 rfl ?_
        obtain ⟨l2236, hl2236, el2236⟩ : ∃ v : Int64, v.toInt = 1 ∧ (1 : Int64) = v := ⟨_, rfl, rfl⟩
        rw [el2236]; clear el2236
        refine WP_callS3 dX11_lend_41 ⟨⟨⟨by decide, by decide⟩, zX11_in⟩, lX11_52, tX11_in⟩ (sm_in hy hr hI l2234 l2235 l2236 ) (Nat.le_of_ble_eq_true rfl) ?_
        intro r Ia Ja Ra hq
        obtain ⟨⟨ea, eb, ec⟩, v2237, rfl, av2237, bv2237, cv2237⟩ := hq
        show WP _ _ _ _ (.int _ :: _) _ _ _ _
        rw [ea, eb, ec]
        clear ea eb ec Ia Ja Ra
        refine WQ_if_ne 50 dX11_lend_44 rfl (fun c2237 => ?_) (fun c2237 => ?_)
        · refine WP_iload_n dX11_lend_50 rfl ?_
          refine WP_istore (ls' := [(0, _), (1, _), (2, _), (3, _), (4, _), (5, _)]) dX11_lend_51 (by decide) rfl ?_
          refine WQ_iconst (0) (0) dX11_lend_53 rfl rfl (fun v2239 hv2239 => ?_)
          refine WP_istore (ls' := [(0, _), (1, _), (2, _), (3, _), (4, _), (5, _), (6, _)]) dX11_lend_54 (by decide) rfl ?_
          have lp56_2241 : ∀ (mz : Nat) (i2240 : Int32) (i2241 : Int32), 0 ≤ i2240.toInt → i2240.toInt ≤ 999 → 0 ≤ i2241.toInt → i2241.toInt ≤ 52 → (53 - i2241.toInt).toNat < mz → WP g mX11_lend 56 [(0, .ref (ad g 0)), (1, .int c), (2, .int w), (3, .int y), (4, .int wh), (5, .int i2240), (6, .int i2241)] [] I J R (fun r I' J' R' => (I' = I ∧ J' = J ∧ R' = R) ∧ ∃ v : Int32, r = some (.int v)) := by
            intro mz
            induction mz with
            | zero =>
              intro i2240 i2241 ai2240 bi2240 ai2241 bi2241 hmlp56_2241
              exact absurd hmlp56_2241 (Nat.not_lt_zero _)
            | succ mz ihlp56_2241 =>
              intro i2240 i2241 ai2240 bi2240 ai2241 bi2241 hmlp56_2241
              refine WP_iload dX11_lend_56 rfl ?_
              refine WP_iload_n dX11_lend_58 rfl ?_
              refine WQ_icmp_ge 87 dX11_lend_59 rfl (fun c2242 => ?_) (fun c2242 => ?_)
              · refine WQ_iconst (0) (0) dX11_lend_87 rfl rfl (fun v2244 hv2244 => ?_)
                refine WP_istore (ls' := [(0, _), (1, _), (2, _), (3, _), (4, _), (5, _), (6, _)]) dX11_lend_88 (by decide) rfl ?_
                have lp90_2246 : ∀ (mz : Nat) (i2245 : Int32) (i2246 : Int32), 0 ≤ i2245.toInt → i2245.toInt ≤ 999 → 0 ≤ i2246.toInt → i2246.toInt ≤ 364 → (365 - i2246.toInt).toNat < mz → WP g mX11_lend 90 [(0, .ref (ad g 0)), (1, .int c), (2, .int w), (3, .int y), (4, .int wh), (5, .int i2245), (6, .int i2246)] [] I J R (fun r I' J' R' => (I' = I ∧ J' = J ∧ R' = R) ∧ ∃ v : Int32, r = some (.int v)) := by
                  intro mz
                  induction mz with
                  | zero =>
                    intro i2245 i2246 ai2245 bi2245 ai2246 bi2246 hmlp90_2246
                    exact absurd hmlp90_2246 (Nat.not_lt_zero _)
                  | succ mz ihlp90_2246 =>
                    intro i2245 i2246 ai2245 bi2245 ai2246 bi2246 hmlp90_2246
                    refine WP_iload dX11_lend_90 rfl ?_
                    refine WQ_bipush (7) (7) dX11_lend_92 rfl rfl (fun v2248 hv2248 => ?_)
                    refine WP_iload_n dX11_lend_94 rfl ?_
                    refine WQ_imulK (7) dX11_lend_95 hv2248 (by omega) (by omega) (fun v2249 hv2249 => ?_)
                    refine WQ_icmp_ge 131 dX11_lend_96 rfl (fun c2249 => ?_) (fun c2249 => ?_)
                    · refine WP_iload dX11_lend_131 rfl ?_
                      exact WP_iret dX11_lend_133 rfl ⟨⟨rfl, rfl, rfl⟩, _, rfl⟩
                    · refine WP_iload dX11_lend_99 rfl ?_
                      refine WQ_iconst (1) (1) dX11_lend_101 rfl rfl (fun v2251 hv2251 => ?_)
                      refine WQ_icmp_ne 131 dX11_lend_102 rfl (fun c2251 => ?_) (fun c2251 => ?_)
                      · refine WP_iload dX11_lend_131 rfl ?_
                        exact WP_iret dX11_lend_133 rfl ⟨⟨rfl, rfl, rfl⟩, _, rfl⟩
                      · refine WP_iload dX11_lend_105 rfl ?_
                        refine WP_iload dX11_lend_107 rfl ?_
                        refine WP_aload_n dX11_lend_109 rfl ?_
                        refine WP_getr dX11_lend_110 fX11_233 rfl (ly_is hy 0 11 rfl) (rf hr 0 24 6 (by decide)) ?_
                        refine WP_iload dX11_lend_113 rfl ?_
                        refine WQ_bipush (7) (7) dX11_lend_115 rfl rfl (fun v2253 hv2253 => ?_)
                        refine WQ_iremk (7) dX11_lend_117 hv2253 (by decide) (by omega) (fun v2254 hv2254 => ?_)
                        refine WQ_iald dX11_lend_118 (ly_is hy 6 13 rfl) (ly_n hy 6 7 rfl) (by omega) (by omega) (fun q hq => BT_get hI.1.1 6 0 7 (0) (0) (900) (by decide) q (Nat.zero_le _) hq) (fun v2255 av2255 bv2255 ev2255 => ?_)
                        clear ev2255
                        refine WP_callS2 dX11_lend_119 ⟨⟨⟨by decide, by decide⟩, zX11_stampsOf⟩, lX11_380, tX11_stampsOf⟩ (sm_stampsOf hy hr hI i2245 v2255 (by omega) (by omega) (by omega) (by omega)) (Nat.le_of_ble_eq_true rfl) ?_
                        intro r Ia Ja Ra hq
                        obtain ⟨⟨ea, eb, ec⟩, v2256, rfl, av2256, bv2256, cv2256⟩ := hq
                        show WP _ _ _ _ (.int _ :: _) _ _ _ _
                        rw [ea, eb, ec]
                        clear ea eb ec Ia Ja Ra
                        refine WQ_isub dX11_lend_122 (by omega) (by omega) (fun v2257 hv2257 => ?_)
                        refine WP_istore (ls' := [(0, _), (1, _), (2, _), (3, _), (4, _), (5, _), (6, _)]) dX11_lend_123 (by decide) rfl ?_
                        refine WP_iinc (ls' := [(0, _), (1, _), (2, _), (3, _), (4, _), (5, _), (6, _)]) dX11_lend_125 rfl (by decide) rfl ?_
                        have hv2258 : (i2246 + Int32.ofInt (1)).toInt = i2246.toInt + (1) := ia_n rfl (by omega) (by omega)
                        generalize i2246 + Int32.ofInt (1) = v2258 at hv2258 ⊢
                        refine WP_goto 90 dX11_lend_128 rfl ?_
                        exact WP_sub (fc rfl (fc rfl (fc rfl (fc rfl (fc rfl (fc rfl (fc rfl fn))))))) (ihlp90_2246 v2257 v2258 (by omega) (by omega) (by omega) (by omega) (by omega))
                exact WP_sub (fc rfl (fc rfl (fc rfl (fc rfl (fc rfl (fc rfl (fc rfl fn))))))) (lp90_2246 _ i2240 v2244 (by omega) (by omega) (by omega) (by omega) (Nat.lt_succ_self _))
              · refine WP_iload dX11_lend_62 rfl ?_
                refine WQ_if_ne 87 dX11_lend_64 rfl (fun c2258 => ?_) (fun c2258 => ?_)
                · refine WQ_iconst (0) (0) dX11_lend_87 rfl rfl (fun v2260 hv2260 => ?_)
                  refine WP_istore (ls' := [(0, _), (1, _), (2, _), (3, _), (4, _), (5, _), (6, _)]) dX11_lend_88 (by decide) rfl ?_
                  have lp90_2262 : ∀ (mz : Nat) (i2261 : Int32) (i2262 : Int32), 0 ≤ i2261.toInt → i2261.toInt ≤ 999 → 0 ≤ i2262.toInt → i2262.toInt ≤ 364 → (365 - i2262.toInt).toNat < mz → WP g mX11_lend 90 [(0, .ref (ad g 0)), (1, .int c), (2, .int w), (3, .int y), (4, .int wh), (5, .int i2261), (6, .int i2262)] [] I J R (fun r I' J' R' => (I' = I ∧ J' = J ∧ R' = R) ∧ ∃ v : Int32, r = some (.int v)) := by
                    intro mz
                    induction mz with
                    | zero =>
                      intro i2261 i2262 ai2261 bi2261 ai2262 bi2262 hmlp90_2262
                      exact absurd hmlp90_2262 (Nat.not_lt_zero _)
                    | succ mz ihlp90_2262 =>
                      intro i2261 i2262 ai2261 bi2261 ai2262 bi2262 hmlp90_2262
                      refine WP_iload dX11_lend_90 rfl ?_
                      refine WQ_bipush (7) (7) dX11_lend_92 rfl rfl (fun v2264 hv2264 => ?_)
                      refine WP_iload_n dX11_lend_94 rfl ?_
                      refine WQ_imulK (7) dX11_lend_95 hv2264 (by omega) (by omega) (fun v2265 hv2265 => ?_)
                      refine WQ_icmp_ge 131 dX11_lend_96 rfl (fun c2265 => ?_) (fun c2265 => ?_)
                      · refine WP_iload dX11_lend_131 rfl ?_
                        exact WP_iret dX11_lend_133 rfl ⟨⟨rfl, rfl, rfl⟩, _, rfl⟩
                      · refine WP_iload dX11_lend_99 rfl ?_
                        refine WQ_iconst (1) (1) dX11_lend_101 rfl rfl (fun v2267 hv2267 => ?_)
                        refine WQ_icmp_ne 131 dX11_lend_102 rfl (fun c2267 => False.elim (by omega)) (fun c2267 => ?_)
                        refine WP_iload dX11_lend_105 rfl ?_
                        refine WP_iload dX11_lend_107 rfl ?_
                        refine WP_aload_n dX11_lend_109 rfl ?_
                        refine WP_getr dX11_lend_110 fX11_233 rfl (ly_is hy 0 11 rfl) (rf hr 0 24 6 (by decide)) ?_
                        refine WP_iload dX11_lend_113 rfl ?_
                        refine WQ_bipush (7) (7) dX11_lend_115 rfl rfl (fun v2269 hv2269 => ?_)
                        refine WQ_iremk (7) dX11_lend_117 hv2269 (by decide) (by omega) (fun v2270 hv2270 => ?_)
                        refine WQ_iald dX11_lend_118 (ly_is hy 6 13 rfl) (ly_n hy 6 7 rfl) (by omega) (by omega) (fun q hq => BT_get hI.1.1 6 0 7 (0) (0) (900) (by decide) q (Nat.zero_le _) hq) (fun v2271 av2271 bv2271 ev2271 => ?_)
                        clear ev2271
                        refine WP_callS2 dX11_lend_119 ⟨⟨⟨by decide, by decide⟩, zX11_stampsOf⟩, lX11_380, tX11_stampsOf⟩ (sm_stampsOf hy hr hI i2261 v2271 (by omega) (by omega) (by omega) (by omega)) (Nat.le_of_ble_eq_true rfl) ?_
                        intro r Ia Ja Ra hq
                        obtain ⟨⟨ea, eb, ec⟩, v2272, rfl, av2272, bv2272, cv2272⟩ := hq
                        show WP _ _ _ _ (.int _ :: _) _ _ _ _
                        rw [ea, eb, ec]
                        clear ea eb ec Ia Ja Ra
                        refine WQ_isub dX11_lend_122 (by omega) (by omega) (fun v2273 hv2273 => ?_)
                        refine WP_istore (ls' := [(0, _), (1, _), (2, _), (3, _), (4, _), (5, _), (6, _)]) dX11_lend_123 (by decide) rfl ?_
                        refine WP_iinc (ls' := [(0, _), (1, _), (2, _), (3, _), (4, _), (5, _), (6, _)]) dX11_lend_125 rfl (by decide) rfl ?_
                        have hv2274 : (i2262 + Int32.ofInt (1)).toInt = i2262.toInt + (1) := ia_n rfl (by omega) (by omega)
                        generalize i2262 + Int32.ofInt (1) = v2274 at hv2274 ⊢
                        refine WP_goto 90 dX11_lend_128 rfl ?_
                        exact WP_sub (fc rfl (fc rfl (fc rfl (fc rfl (fc rfl (fc rfl (fc rfl fn))))))) (ihlp90_2262 v2273 v2274 (by omega) (by omega) (by omega) (by omega) (by omega))
                  exact WP_sub (fc rfl (fc rfl (fc rfl (fc rfl (fc rfl (fc rfl (fc rfl fn))))))) (lp90_2262 _ i2240 v2260 (by omega) (by omega) (by omega) (by omega) (Nat.lt_succ_self _))
                · refine WP_iload dX11_lend_67 rfl ?_
                  refine WQ_sipush (1000) (1000) dX11_lend_69 rfl rfl (fun v2275 hv2275 => ?_)
                  refine WP_iload_n dX11_lend_72 rfl ?_
                  refine WQ_isub dX11_lend_73 (by omega) (by omega) (fun v2276 hv2276 => ?_)
                  refine WQ_imulb (999) (1000) dX11_lend_74 ⟨by omega, by omega⟩ ⟨by omega, by omega⟩ (by decide) (fun v2277 pv2277 av2277 bv2277 cv2277 => ?_)
                  refine WQ_sipush (1000) (1000) dX11_lend_75 rfl rfl (fun v2278 hv2278 => ?_)
                  refine WQ_idivk (1000) dX11_lend_78 hv2278 (by decide) (by omega) (fun v2279 hv2279 => ?_)
                  refine WP_istore (ls' := [(0, _), (1, _), (2, _), (3, _), (4, _), (5, _), (6, _)]) dX11_lend_79 (by decide) rfl ?_
                  refine WP_iinc (ls' := [(0, _), (1, _), (2, _), (3, _), (4, _), (5, _), (6, _)]) dX11_lend_81 rfl (by decide) rfl ?_
                  have hv2280 : (i2241 + Int32.ofInt (1)).toInt = i2241.toInt + (1) := ia_n rfl (by omega) (by omega)
                  generalize i2241 + Int32.ofInt (1) = v2280 at hv2280 ⊢
                  refine WP_goto 56 dX11_lend_84 rfl ?_
                  exact WP_sub (fc rfl (fc rfl (fc rfl (fc rfl (fc rfl (fc rfl (fc rfl fn))))))) (ihlp56_2241 v2279 v2280 (by omega) (by omega) (by omega) (by omega) (by omega))
          exact WP_sub (fc rfl (fc rfl (fc rfl (fc rfl (fc rfl (fc rfl (fc rfl fn))))))) (lp56_2241 _ c v2239 (by omega) (by omega) (by omega) (by omega) (Nat.lt_succ_self _))
        · refine WQ_bipush (-2) (-2) dX11_lend_47 rfl rfl (fun v2281 hv2281 => ?_)
          exact WP_iret dX11_lend_49 rfl ⟨⟨rfl, rfl, rfl⟩, _, rfl⟩
set_option maxHeartbeats 4000000 in
set_option maxRecDepth 100000 in
theorem sm_early {g : GG} {n : Int} {L : Int32} (hy : Ly g)  {I : pI} {J : pJ} {R : pR} (hr : Rf g R) (hI : MP g n L I) (c : Int32) (dd : Int32) (da : Int32)  : SP g mX11_early [.ref (ad g 0), .int c, .int dd, .int da] I J R (fun r I' J' R' => (I' = I ∧ J' = J ∧ R' = R) ∧ ∃ v : Int32, r = some (.int v)) := by
  refine SP_of ⟨by decide, rfl⟩ (Nat.le_of_ble_eq_true rfl) ?_
  have e2282 : I (ad g 0) 1 = L := hI.1.2
  have b2283 := BT_get hI.1.1 0 1 2 (0) (0) (900) (by decide) 1 (by decide) (by decide)
  rw [e2282] at b2283
  refine WP_iload_n dX11_early_0 rfl ?_
  refine WQ_i2l dX11_early_1 (fun l2284 hl2284 => ?_)
  refine WP_lconst (0) dX11_early_2 rfl ?_
  obtain ⟨l2285, hl2285, el2285⟩ : ∃ v : Int64, v.toInt = 0 ∧ (0 : Int64) = v := ⟨_, rfl, rfl⟩
  rw [el2285]; clear el2285
  refine WP_ldc2 (999) dX11_early_3 klX11_523 ?_
  obtain ⟨l2286, hl2286, el2286⟩ : ∃ v : Int64, v.toInt = (999) ∧ ((999) : Int64) = v := ⟨_, rfl, rfl⟩
  rw [el2286]; clear el2286
  refine WP_callS3 dX11_early_6 ⟨⟨⟨by decide, by decide⟩, zX11_in⟩, lX11_52, tX11_in⟩ (sm_in hy hr hI l2284 l2285 l2286 ) (Nat.le_of_ble_eq_true rfl) ?_
  intro r Ia Ja Ra hq
  obtain ⟨⟨ea, eb, ec⟩, v2287, rfl, av2287, bv2287, cv2287⟩ := hq
  show WP _ _ _ _ (.int _ :: _) _ _ _ _
  rw [ea, eb, ec]
  clear ea eb ec Ia Ja Ra
  refine WQ_if_eq 31 dX11_early_9 rfl (fun c2287 => ?_) (fun c2287 => ?_)
  · refine WQ_bipush (-2) (-2) dX11_early_31 rfl rfl (fun v2289 hv2289 => ?_)
    exact WP_iret dX11_early_33 rfl ⟨⟨rfl, rfl, rfl⟩, _, rfl⟩
  · refine WP_iload_n dX11_early_12 rfl ?_
    refine WQ_i2l dX11_early_13 (fun l2290 hl2290 => ?_)
    refine WP_lconst (0) dX11_early_14 rfl ?_
    obtain ⟨l2291, hl2291, el2291⟩ : ∃ v : Int64, v.toInt = 0 ∧ (0 : Int64) = v := ⟨_, rfl, rfl⟩
    rw [el2291]; clear el2291
    refine WP_ldc2 (60) dX11_early_15 klX11_361 ?_
    obtain ⟨l2292, hl2292, el2292⟩ : ∃ v : Int64, v.toInt = (60) ∧ ((60) : Int64) = v := ⟨_, rfl, rfl⟩
    rw [el2292]; clear el2292
    refine WP_callS3 dX11_early_18 ⟨⟨⟨by decide, by decide⟩, zX11_in⟩, lX11_52, tX11_in⟩ (sm_in hy hr hI l2290 l2291 l2292 ) (Nat.le_of_ble_eq_true rfl) ?_
    intro r Ia Ja Ra hq
    obtain ⟨⟨ea, eb, ec⟩, v2293, rfl, av2293, bv2293, cv2293⟩ := hq
    show WP _ _ _ _ (.int _ :: _) _ _ _ _
    rw [ea, eb, ec]
    clear ea eb ec Ia Ja Ra
    refine WQ_if_eq 31 dX11_early_21 rfl (fun c2293 => ?_) (fun c2293 => ?_)
    · refine WQ_bipush (-2) (-2) dX11_early_31 rfl rfl (fun v2295 hv2295 => ?_)
      exact WP_iret dX11_early_33 rfl ⟨⟨rfl, rfl, rfl⟩, _, rfl⟩
    · refine WP_iload_n dX11_early_24 rfl ?_
      refine WP_callS1 dX11_early_25 ⟨⟨⟨by decide, by decide⟩, zX11_isDay⟩, lX11_370, tX11_isDay⟩ (sm_isDay hy hr hI da ) (Nat.le_of_ble_eq_true rfl) ?_
      intro r Ia Ja Ra hq
      obtain ⟨⟨ea, eb, ec⟩, v2296, rfl, av2296, bv2296, cv2296⟩ := hq
      show WP _ _ _ _ (.int _ :: _) _ _ _ _
      rw [ea, eb, ec]
      clear ea eb ec Ia Ja Ra
      refine WQ_if_ne 34 dX11_early_28 rfl (fun c2296 => ?_) (fun c2296 => ?_)
      · refine WQ_iconst (0) (0) dX11_early_34 rfl rfl (fun v2298 hv2298 => ?_)
        refine WP_istore (ls' := [(0, _), (1, _), (2, _), (3, _), (4, _)]) dX11_early_35 (by decide) rfl ?_
        have lp37_2299 : ∀ (mz : Nat) (i2299 : Int32), 0 ≤ i2299.toInt → i2299.toInt ≤ 1000 → (1001 - i2299.toInt).toNat < mz → WP g mX11_early 37 [(0, .ref (ad g 0)), (1, .int c), (2, .int dd), (3, .int da), (4, .int i2299)] [] I J R (fun r I' J' R' => (I' = I ∧ J' = J ∧ R' = R) ∧ ∃ v : Int32, r = some (.int v)) := by
          intro mz
          induction mz with
          | zero =>
            intro i2299 ai2299 bi2299 hmlp37_2299
            exact absurd hmlp37_2299 (Nat.not_lt_zero _)
          | succ mz ihlp37_2299 =>
            intro i2299 ai2299 bi2299 hmlp37_2299
            refine WP_iload dX11_early_37 rfl ?_
            refine WQ_sipush (999) (999) dX11_early_39 rfl rfl (fun v2301 hv2301 => ?_)
            refine WQ_icmp_gt 101 dX11_early_42 rfl (fun c2301 => ?_) (fun c2301 => ?_)
            · refine WQ_iconst (-1) (-1) dX11_early_101 rfl rfl (fun v2303 hv2303 => ?_)
              exact WP_iret dX11_early_102 rfl ⟨⟨rfl, rfl, rfl⟩, _, rfl⟩
            · refine WP_iload dX11_early_45 rfl ?_
              refine WP_istore (ls' := [(0, _), (1, _), (2, _), (3, _), (4, _), (5, _)]) dX11_early_47 (by decide) rfl ?_
              refine WQ_iconst (0) (0) dX11_early_49 rfl rfl (fun v2304 hv2304 => ?_)
              refine WP_istore (ls' := [(0, _), (1, _), (2, _), (3, _), (4, _), (5, _), (6, _)]) dX11_early_50 (by decide) rfl ?_
              have lp52_2306 : ∀ (mz : Nat) (i2305 : Int32) (i2306 : Int32), 0 ≤ i2305.toInt → i2305.toInt ≤ 999 → 0 ≤ i2306.toInt → i2306.toInt ≤ 60 → (61 - i2306.toInt).toNat < mz → WP g mX11_early 52 [(0, .ref (ad g 0)), (1, .int c), (2, .int dd), (3, .int da), (4, .int i2299), (5, .int i2305), (6, .int i2306)] [] I J R (fun r I' J' R' => (I' = I ∧ J' = J ∧ R' = R) ∧ ∃ v : Int32, r = some (.int v)) := by
                intro mz
                induction mz with
                | zero =>
                  intro i2305 i2306 ai2305 bi2305 ai2306 bi2306 hmlp52_2306
                  exact absurd hmlp52_2306 (Nat.not_lt_zero _)
                | succ mz ihlp52_2306 =>
                  intro i2305 i2306 ai2305 bi2305 ai2306 bi2306 hmlp52_2306
                  refine WP_iload dX11_early_52 rfl ?_
                  refine WP_iload_n dX11_early_54 rfl ?_
                  refine WQ_icmp_ge 86 dX11_early_55 rfl (fun c2307 => ?_) (fun c2307 => ?_)
                  · refine WP_iload dX11_early_86 rfl ?_
                    refine WP_iload_n dX11_early_88 rfl ?_
                    refine WQ_icmp_lt 95 dX11_early_89 rfl (fun c2308 => ?_) (fun c2308 => ?_)
                    · refine WP_iinc (ls' := [(0, _), (1, _), (2, _), (3, _), (4, _), (5, _), (6, _)]) dX11_early_95 rfl (by decide) rfl ?_
                      have hv2310 : (i2299 + Int32.ofInt (1)).toInt = i2299.toInt + (1) := ia_n rfl (by omega) (by omega)
                      generalize i2299 + Int32.ofInt (1) = v2310 at hv2310 ⊢
                      refine WP_goto 37 dX11_early_98 rfl ?_
                      exact WP_sub (fc rfl (fc rfl (fc rfl (fc rfl (fc rfl fn))))) (ihlp37_2299 v2310 (by omega) (by omega) (by omega))
                    · refine WP_iload dX11_early_92 rfl ?_
                      exact WP_iret dX11_early_94 rfl ⟨⟨rfl, rfl, rfl⟩, _, rfl⟩
                  · refine WP_iload dX11_early_58 rfl ?_
                    refine WP_iload dX11_early_60 rfl ?_
                    refine WP_aload_n dX11_early_62 rfl ?_
                    refine WP_getr dX11_early_63 fX11_233 rfl (ly_is hy 0 11 rfl) (rf hr 0 24 6 (by decide)) ?_
                    refine WP_iload_n dX11_early_66 rfl ?_
                    refine WP_iload dX11_early_67 rfl ?_
                    refine WQ_iadd dX11_early_69 (by omega) (by omega) (fun v2311 hv2311 => ?_)
                    refine WQ_bipush (7) (7) dX11_early_70 rfl rfl (fun v2312 hv2312 => ?_)
                    refine WQ_iremk (7) dX11_early_72 hv2312 (by decide) (by omega) (fun v2313 hv2313 => ?_)
                    refine WQ_iald dX11_early_73 (ly_is hy 6 13 rfl) (ly_n hy 6 7 rfl) (by omega) (by omega) (fun q hq => BT_get hI.1.1 6 0 7 (0) (0) (900) (by decide) q (Nat.zero_le _) hq) (fun v2314 av2314 bv2314 ev2314 => ?_)
                    clear ev2314
                    refine WP_callS2 dX11_early_74 ⟨⟨⟨by decide, by decide⟩, zX11_stampsOf⟩, lX11_380, tX11_stampsOf⟩ (sm_stampsOf hy hr hI i2305 v2314 (by omega) (by omega) (by omega) (by omega)) (Nat.le_of_ble_eq_true rfl) ?_
                    intro r Ia Ja Ra hq
                    obtain ⟨⟨ea, eb, ec⟩, v2315, rfl, av2315, bv2315, cv2315⟩ := hq
                    show WP _ _ _ _ (.int _ :: _) _ _ _ _
                    rw [ea, eb, ec]
                    clear ea eb ec Ia Ja Ra
                    refine WQ_isub dX11_early_77 (by omega) (by omega) (fun v2316 hv2316 => ?_)
                    refine WP_istore (ls' := [(0, _), (1, _), (2, _), (3, _), (4, _), (5, _), (6, _)]) dX11_early_78 (by decide) rfl ?_
                    refine WP_iinc (ls' := [(0, _), (1, _), (2, _), (3, _), (4, _), (5, _), (6, _)]) dX11_early_80 rfl (by decide) rfl ?_
                    have hv2317 : (i2306 + Int32.ofInt (1)).toInt = i2306.toInt + (1) := ia_n rfl (by omega) (by omega)
                    generalize i2306 + Int32.ofInt (1) = v2317 at hv2317 ⊢
                    refine WP_goto 52 dX11_early_83 rfl ?_
                    exact WP_sub (fc rfl (fc rfl (fc rfl (fc rfl (fc rfl (fc rfl (fc rfl fn))))))) (ihlp52_2306 v2316 v2317 (by omega) (by omega) (by omega) (by omega) (by omega))
              exact WP_sub (fc rfl (fc rfl (fc rfl (fc rfl (fc rfl (fc rfl (fc rfl fn))))))) (lp52_2306 _ i2299 v2304 (by omega) (by omega) (by omega) (by omega) (Nat.lt_succ_self _))
        exact WP_sub (fc rfl (fc rfl (fc rfl (fc rfl (fc rfl fn))))) (lp37_2299 _ v2298 (by omega) (by omega) (Nat.lt_succ_self _))
      · refine WQ_bipush (-2) (-2) dX11_early_31 rfl rfl (fun v2318 hv2318 => ?_)
        exact WP_iret dX11_early_33 rfl ⟨⟨rfl, rfl, rfl⟩, _, rfl⟩
set_option maxHeartbeats 4000000 in
set_option maxRecDepth 100000 in
theorem sm_isLost {g : GG} {n : Int} {L : Int32} (hy : Ly g)  {I : pI} {J : pJ} {R : pR} (hr : Rf g R) (hI : MP g n L I) (so : Int32) (th : Int32) (da : Int32) (un : Int32) (co : Int32) (so_lo : 0 ≤ so.toInt) (so_hi : so.toInt ≤ 3) (th_lo : -1 ≤ th.toInt) (th_hi : th.toInt ≤ 3) (da_lo : 0 ≤ da.toInt) (da_hi : da.toInt ≤ 6) (un_lo : 0 ≤ un.toInt) (un_hi : un.toInt ≤ 1000) (co_lo : 0 ≤ co.toInt) (co_hi : co.toInt ≤ 1000) : SP g mX11_isLost [.ref (ad g 0), .int so, .int th, .int da, .int un, .int co] I J R (fun r I' J' R' => (I' = I ∧ J' = J ∧ R' = R) ∧ ∃ v : Int32, r = some (.int v) ∧ 0 ≤ v.toInt ∧ v.toInt ≤ 1) := by
  refine SP_of ⟨by decide, rfl⟩ (Nat.le_of_ble_eq_true rfl) ?_
  have e2319 : I (ad g 0) 1 = L := hI.1.2
  have b2320 := BT_get hI.1.1 0 1 2 (0) (0) (900) (by decide) 1 (by decide) (by decide)
  rw [e2319] at b2320
  refine WQ_bipush (7) (7) dX11_isLost_0 rfl rfl (fun v2321 hv2321 => ?_)
  refine WP_iload_n dX11_isLost_2 rfl ?_
  refine WQ_imulK (7) dX11_isLost_3 hv2321 (by omega) (by omega) (fun v2322 hv2322 => ?_)
  refine WP_iload_n dX11_isLost_4 rfl ?_
  refine WQ_iadd dX11_isLost_5 (by omega) (by omega) (fun v2323 hv2323 => ?_)
  refine WP_istore (ls' := [(0, _), (1, _), (2, _), (3, _), (4, _), (5, _), (6, _)]) dX11_isLost_6 (by decide) rfl ?_
  refine WP_aload_n dX11_isLost_8 rfl ?_
  refine WP_getr dX11_isLost_9 fX11_261 rfl (ly_is hy 0 11 rfl) (rf hr 0 42 24 (by decide)) ?_
  refine WP_iload dX11_isLost_12 rfl ?_
  refine WQ_iald dX11_isLost_14 (ly_is hy 24 13 rfl) (ly_n hy 24 28 rfl) (by omega) (by omega) (fun q hq => BT_get hI.1.1 24 0 28 (-1) (0) (2) (by decide) q (Nat.zero_le _) hq) (fun v2324 av2324 bv2324 ev2324 => ?_)
  clear ev2324
  refine WP_iload_n dX11_isLost_15 rfl ?_
  refine WQ_icmp_ne 31 dX11_isLost_16 rfl (fun c2324 => ?_) (fun c2324 => ?_)
  · refine WQ_iconst (1) (1) dX11_isLost_31 rfl rfl (fun v2326 hv2326 => ?_)
    exact WP_zret dX11_isLost_32 rfl (nar_z (by omega)) ⟨⟨rfl, rfl, rfl⟩, _, rfl, by omega, by omega⟩
  · refine WP_aload_n dX11_isLost_19 rfl ?_
    refine WP_getr dX11_isLost_20 fX11_264 rfl (ly_is hy 0 11 rfl) (rf hr 0 43 25 (by decide)) ?_
    refine WP_iload dX11_isLost_23 rfl ?_
    refine WQ_iald dX11_isLost_25 (ly_is hy 25 13 rfl) (ly_n hy 25 28 rfl) (by omega) (by omega) (fun q hq => BT_get hI.1.1 25 0 28 (0) (0) (3) (by decide) q (Nat.zero_le _) hq) (fun v2327 av2327 bv2327 ev2327 => ?_)
    clear ev2327
    refine WP_iload dX11_isLost_26 rfl ?_
    refine WQ_icmp_ge 33 dX11_isLost_28 rfl (fun c2327 => ?_) (fun c2327 => ?_)
    · refine WP_aload_n dX11_isLost_33 rfl ?_
      refine WP_getr dX11_isLost_34 fX11_267 rfl (ly_is hy 0 11 rfl) (rf hr 0 44 26 (by decide)) ?_
      refine WP_iload dX11_isLost_37 rfl ?_
      refine WQ_iald dX11_isLost_39 (ly_is hy 26 13 rfl) (ly_n hy 26 28 rfl) (by omega) (by omega) (fun q hq => BT_get hI.1.1 26 0 28 (0) (0) (99) (by decide) q (Nat.zero_le _) hq) (fun v2329 av2329 bv2329 ev2329 => ?_)
      clear ev2329
      refine WP_iload dX11_isLost_40 rfl ?_
      have jn86_2344 : ∀ (v2344 : Int32), 0 ≤ v2344.toInt → v2344.toInt ≤ 1 → WP g mX11_isLost 86 [(0, .ref (ad g 0)), (1, .int so), (2, .int th), (3, .int da), (4, .int un), (5, .int co), (6, .int v2323)] [.int v2344] I J R (fun r I' J' R' => (I' = I ∧ J' = J ∧ R' = R) ∧ ∃ v : Int32, r = some (.int v) ∧ 0 ≤ v.toInt ∧ v.toInt ≤ 1) := by
        intro v2344 av2344 bv2344
        exact WP_zret dX11_isLost_86 rfl (nar_z (by omega)) ⟨⟨rfl, rfl, rfl⟩, _, rfl, by omega, by omega⟩
      refine WQ_icmp_ge 85 dX11_isLost_42 rfl (fun c2345 => ?_) (fun c2345 => ?_)
      · refine WQ_iconst (0) (0) dX11_isLost_85 rfl rfl (fun v2347 hv2347 => ?_)
        exact WP_sub (fc rfl (fc rfl (fc rfl (fc rfl (fc rfl (fc rfl (fc rfl fn))))))) (jn86_2344 v2347 (by omega) (by omega))
      · refine WP_aload_n dX11_isLost_45 rfl ?_
        refine WP_getr dX11_isLost_46 fX11_233 rfl (ly_is hy 0 11 rfl) (rf hr 0 24 6 (by decide)) ?_
        refine WP_iload_n dX11_isLost_49 rfl ?_
        refine WQ_iald dX11_isLost_50 (ly_is hy 6 13 rfl) (ly_n hy 6 7 rfl) (by omega) (by omega) (fun q hq => BT_get hI.1.1 6 0 7 (0) (0) (900) (by decide) q (Nat.zero_le _) hq) (fun v2348 av2348 bv2348 ev2348 => ?_)
        clear ev2348
        refine WQ_if_le 81 dX11_isLost_51 rfl (fun c2348 => ?_) (fun c2348 => ?_)
        · refine WQ_iconst (1) (1) dX11_isLost_81 rfl rfl (fun v2350 hv2350 => ?_)
          refine WP_goto 86 dX11_isLost_82 rfl ?_
          exact WP_sub (fc rfl (fc rfl (fc rfl (fc rfl (fc rfl (fc rfl (fc rfl fn))))))) (jn86_2344 v2350 (by omega) (by omega))
        · refine WP_aload_n dX11_isLost_54 rfl ?_
          refine WP_getr dX11_isLost_55 fX11_267 rfl (ly_is hy 0 11 rfl) (rf hr 0 44 26 (by decide)) ?_
          refine WP_iload dX11_isLost_58 rfl ?_
          refine WQ_iald dX11_isLost_60 (ly_is hy 26 13 rfl) (ly_n hy 26 28 rfl) (by omega) (by omega) (fun q hq => BT_get hI.1.1 26 0 28 (0) (0) (99) (by decide) q (Nat.zero_le _) hq) (fun v2351 av2351 bv2351 ev2351 => ?_)
          clear ev2351
          refine WQ_sipush (1000) (1000) dX11_isLost_61 rfl rfl (fun v2352 hv2352 => ?_)
          refine WQ_imulk (1000) dX11_isLost_64 hv2352 (by omega) (by omega) (fun v2353 hv2353 => ?_)
          refine WP_iload dX11_isLost_65 rfl ?_
          refine WQ_sipush (1000) (1000) dX11_isLost_67 rfl rfl (fun v2354 hv2354 => ?_)
          refine WP_aload_n dX11_isLost_70 rfl ?_
          refine WP_getr dX11_isLost_71 fX11_233 rfl (ly_is hy 0 11 rfl) (rf hr 0 24 6 (by decide)) ?_
          refine WP_iload_n dX11_isLost_74 rfl ?_
          refine WQ_iald dX11_isLost_75 (ly_is hy 6 13 rfl) (ly_n hy 6 7 rfl) (by omega) (by omega) (fun q hq => BT_get hI.1.1 6 0 7 (0) (0) (900) (by decide) q (Nat.zero_le _) hq) (fun v2355 av2355 bv2355 ev2355 => ?_)
          clear ev2355
          refine WQ_isub dX11_isLost_76 (by omega) (by omega) (fun v2356 hv2356 => ?_)
          refine WQ_imulb (1000) (1000) dX11_isLost_77 ⟨by omega, by omega⟩ ⟨by omega, by omega⟩ (by decide) (fun v2357 pv2357 av2357 bv2357 cv2357 => ?_)
          refine WQ_icmp_ge 85 dX11_isLost_78 rfl (fun c2357 => ?_) (fun c2357 => ?_)
          · refine WQ_iconst (0) (0) dX11_isLost_85 rfl rfl (fun v2359 hv2359 => ?_)
            exact WP_sub (fc rfl (fc rfl (fc rfl (fc rfl (fc rfl (fc rfl (fc rfl fn))))))) (jn86_2344 v2359 (by omega) (by omega))
          · refine WQ_iconst (1) (1) dX11_isLost_81 rfl rfl (fun v2360 hv2360 => ?_)
            refine WP_goto 86 dX11_isLost_82 rfl ?_
            exact WP_sub (fc rfl (fc rfl (fc rfl (fc rfl (fc rfl (fc rfl (fc rfl fn))))))) (jn86_2344 v2360 (by omega) (by omega))
    · refine WQ_iconst (1) (1) dX11_isLost_31 rfl rfl (fun v2361 hv2361 => ?_)
      exact WP_zret dX11_isLost_32 rfl (nar_z (by omega)) ⟨⟨rfl, rfl, rfl⟩, _, rfl, by omega, by omega⟩
