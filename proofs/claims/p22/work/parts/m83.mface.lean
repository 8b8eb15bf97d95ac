set_option maxHeartbeats 4000000 in
set_option maxRecDepth 100000 in
theorem sm_isDay {g : GG} {n : Int} {L : Int32} (hy : Ly g)  {I : pI} {J : pJ} {R : pR} (hr : Rf g R) (hI : MP g n L I) (a : Int32)  : SP g mX11_isDay [.int a] I J R (fun r I' J' R' => (I' = I ∧ J' = J ∧ R' = R) ∧ ∃ v : Int32, r = some (.int v) ∧ 0 ≤ v.toInt ∧ v.toInt ≤ 1 ∧ (v.toInt = 1 ↔ 0 ≤ a.toInt ∧ a.toInt ≤ 6)) := by
  refine SP_of ⟨by decide, rfl⟩ (Nat.le_of_ble_eq_true rfl) ?_
  have e2002 : I (ad g 0) 1 = L := hI.1.2
  have b2003 := BT_get hI.1.1 0 1 2 (0) (0) (900) (by decide) 1 (by decide) (by decide)
  rw [e2002] at b2003
  refine WP_iload_n dX11_isDay_0 rfl ?_
  refine WQ_i2l dX11_isDay_1 (fun l2004 hl2004 => ?_)
  refine WP_lconst (0) dX11_isDay_2 rfl ?_
  obtain ⟨l2005, hl2005, el2005⟩ : ∃ v : Int64, v.toInt = 0 ∧ (0 : Int64) = v := ⟨_, rfl, rfl⟩
  rw [el2005]; clear el2005
  refine WP_ldc2 (6) dX11_isDay_3 klX11_365 ?_
  obtain ⟨l2006, hl2006, el2006⟩ : ∃ v : Int64, v.toInt = (6) ∧ ((6) : Int64) = v := ⟨_, rfl, rfl⟩
  rw [el2006]; clear el2006
  refine WP_callS3 dX11_isDay_6 ⟨⟨⟨by decide, by decide⟩, zX11_in⟩, lX11_52, tX11_in⟩ (sm_in hy hr hI l2004 l2005 l2006 ) (Nat.le_of_ble_eq_true rfl) ?_
  intro r Ia Ja Ra hq
  obtain ⟨⟨ea, eb, ec⟩, v2007, rfl, av2007, bv2007, cv2007⟩ := hq
  show WP _ _ _ _ (.int _ :: _) _ _ _ _
  rw [ea, eb, ec]
  clear ea eb ec Ia Ja Ra
  exact WP_zret dX11_isDay_9 rfl (nar_z (by omega)) ⟨⟨rfl, rfl, rfl⟩, _, rfl, by omega, by omega, by omega⟩
set_option maxHeartbeats 4000000 in
set_option maxRecDepth 100000 in
theorem sm_areCoins {g : GG} {n : Int} {L : Int32} (hy : Ly g)  {I : pI} {J : pJ} {R : pR} (hr : Rf g R) (hI : MP g n L I) (a : Int32)  : SP g mX11_areCoins [.int a] I J R (fun r I' J' R' => (I' = I ∧ J' = J ∧ R' = R) ∧ ∃ v : Int32, r = some (.int v) ∧ 0 ≤ v.toInt ∧ v.toInt ≤ 1 ∧ (v.toInt = 1 ↔ 0 ≤ a.toInt ∧ a.toInt ≤ 60)) := by
  refine SP_of ⟨by decide, rfl⟩ (Nat.le_of_ble_eq_true rfl) ?_
  have e2008 : I (ad g 0) 1 = L := hI.1.2
  have b2009 := BT_get hI.1.1 0 1 2 (0) (0) (900) (by decide) 1 (by decide) (by decide)
  rw [e2008] at b2009
  refine WP_iload_n dX11_areCoins_0 rfl ?_
  refine WQ_i2l dX11_areCoins_1 (fun l2010 hl2010 => ?_)
  refine WP_lconst (0) dX11_areCoins_2 rfl ?_
  obtain ⟨l2011, hl2011, el2011⟩ : ∃ v : Int64, v.toInt = 0 ∧ (0 : Int64) = v := ⟨_, rfl, rfl⟩
  rw [el2011]; clear el2011
  refine WP_ldc2 (60) dX11_areCoins_3 klX11_361 ?_
  obtain ⟨l2012, hl2012, el2012⟩ : ∃ v : Int64, v.toInt = (60) ∧ ((60) : Int64) = v := ⟨_, rfl, rfl⟩
  rw [el2012]; clear el2012
  refine WP_callS3 dX11_areCoins_6 ⟨⟨⟨by decide, by decide⟩, zX11_in⟩, lX11_52, tX11_in⟩ (sm_in hy hr hI l2010 l2011 l2012 ) (Nat.le_of_ble_eq_true rfl) ?_
  intro r Ia Ja Ra hq
  obtain ⟨⟨ea, eb, ec⟩, v2013, rfl, av2013, bv2013, cv2013⟩ := hq
  show WP _ _ _ _ (.int _ :: _) _ _ _ _
  rw [ea, eb, ec]
  clear ea eb ec Ia Ja Ra
  exact WP_zret dX11_areCoins_9 rfl (nar_z (by omega)) ⟨⟨rfl, rfl, rfl⟩, _, rfl, by omega, by omega, by omega⟩
set_option maxHeartbeats 4000000 in
set_option maxRecDepth 100000 in
theorem sm_isStore {g : GG} {n : Int} {L : Int32} (hy : Ly g)  {I : pI} {J : pJ} {R : pR} (hr : Rf g R) (hI : MP g n L I) (a : Int32)  : SP g mX11_isStore [.int a] I J R (fun r I' J' R' => (I' = I ∧ J' = J ∧ R' = R) ∧ ∃ v : Int32, r = some (.int v) ∧ 0 ≤ v.toInt ∧ v.toInt ≤ 1 ∧ (v.toInt = 1 ↔ 0 ≤ a.toInt ∧ a.toInt ≤ 5)) := by
  refine SP_of ⟨by decide, rfl⟩ (Nat.le_of_ble_eq_true rfl) ?_
  have e2014 : I (ad g 0) 1 = L := hI.1.2
  have b2015 := BT_get hI.1.1 0 1 2 (0) (0) (900) (by decide) 1 (by decide) (by decide)
  rw [e2014] at b2015
  refine WP_iload_n dX11_isStore_0 rfl ?_
  refine WQ_i2l dX11_isStore_1 (fun l2016 hl2016 => ?_)
  refine WP_lconst (0) dX11_isStore_2 rfl ?_
  obtain ⟨l2017, hl2017, el2017⟩ : ∃ v : Int64, v.toInt = 0 ∧ (0 : Int64) = v := ⟨_, rfl, rfl⟩
  rw [el2017]; clear el2017
  refine WP_ldc2 (5) dX11_isStore_3 klX11_378 ?_
  obtain ⟨l2018, hl2018, el2018⟩ : ∃ v : Int64, v.toInt = (5) ∧ ((5) : Int64) = v := ⟨_, rfl, rfl⟩
  rw [el2018]; clear el2018
  refine WP_callS3 dX11_isStore_6 ⟨⟨⟨by decide, by decide⟩, zX11_in⟩, lX11_52, tX11_in⟩ (sm_in hy hr hI l2016 l2017 l2018 ) (Nat.le_of_ble_eq_true rfl) ?_
  intro r Ia Ja Ra hq
  obtain ⟨⟨ea, eb, ec⟩, v2019, rfl, av2019, bv2019, cv2019⟩ := hq
  show WP _ _ _ _ (.int _ :: _) _ _ _ _
  rw [ea, eb, ec]
  clear ea eb ec Ia Ja Ra
  exact WP_zret dX11_isStore_9 rfl (nar_z (by omega)) ⟨⟨rfl, rfl, rfl⟩, _, rfl, by omega, by omega, by omega⟩
set_option maxHeartbeats 4000000 in
set_option maxRecDepth 100000 in
theorem sm_isWay {g : GG} {n : Int} {L : Int32} (hy : Ly g)  {I : pI} {J : pJ} {R : pR} (hr : Rf g R) (hI : MP g n L I) (a : Int32)  : SP g mX11_isWay [.int a] I J R (fun r I' J' R' => (I' = I ∧ J' = J ∧ R' = R) ∧ ∃ v : Int32, r = some (.int v) ∧ 0 ≤ v.toInt ∧ v.toInt ≤ 1 ∧ (v.toInt = 1 ↔ 0 ≤ a.toInt ∧ a.toInt ≤ 4)) := by
  refine SP_of ⟨by decide, rfl⟩ (Nat.le_of_ble_eq_true rfl) ?_
  have e2020 : I (ad g 0) 1 = L := hI.1.2
  have b2021 := BT_get hI.1.1 0 1 2 (0) (0) (900) (by decide) 1 (by decide) (by decide)
  rw [e2020] at b2021
  refine WP_iload_n dX11_isWay_0 rfl ?_
  refine WQ_i2l dX11_isWay_1 (fun l2022 hl2022 => ?_)
  refine WP_lconst (0) dX11_isWay_2 rfl ?_
  obtain ⟨l2023, hl2023, el2023⟩ : ∃ v : Int64, v.toInt = 0 ∧ (0 : Int64) = v := ⟨_, rfl, rfl⟩
  rw [el2023]; clear el2023
  refine WP_ldc2 (4) dX11_isWay_3 klX11_452 ?_
  obtain ⟨l2024, hl2024, el2024⟩ : ∃ v : Int64, v.toInt = (4) ∧ ((4) : Int64) = v := ⟨_, rfl, rfl⟩
  rw [el2024]; clear el2024
  refine WP_callS3 dX11_isWay_6 ⟨⟨⟨by decide, by decide⟩, zX11_in⟩, lX11_52, tX11_in⟩ (sm_in hy hr hI l2022 l2023 l2024 ) (Nat.le_of_ble_eq_true rfl) ?_
  intro r Ia Ja Ra hq
  obtain ⟨⟨ea, eb, ec⟩, v2025, rfl, av2025, bv2025, cv2025⟩ := hq
  show WP _ _ _ _ (.int _ :: _) _ _ _ _
  rw [ea, eb, ec]
  clear ea eb ec Ia Ja Ra
  exact WP_zret dX11_isWay_9 rfl (nar_z (by omega)) ⟨⟨rfl, rfl, rfl⟩, _, rfl, by omega, by omega, by omega⟩
set_option maxHeartbeats 4000000 in
set_option maxRecDepth 100000 in
theorem sm_isSlot {g : GG} {n : Int} {L : Int32} (hy : Ly g)  {I : pI} {J : pJ} {R : pR} (hr : Rf g R) (hI : MP g n L I) (a : Int32)  : SP g mX11_isSlot [.int a] I J R (fun r I' J' R' => (I' = I ∧ J' = J ∧ R' = R) ∧ ∃ v : Int32, r = some (.int v) ∧ 0 ≤ v.toInt ∧ v.toInt ≤ 1 ∧ (v.toInt = 1 ↔ 0 ≤ a.toInt ∧ a.toInt ≤ 2)) := by
  refine SP_of ⟨by decide, rfl⟩ (Nat.le_of_ble_eq_true rfl) ?_
  have e2026 : I (ad g 0) 1 = L := hI.1.2
  have b2027 := BT_get hI.1.1 0 1 2 (0) (0) (900) (by decide) 1 (by decide) (by decide)
  rw [e2026] at b2027
  refine WP_iload_n dX11_isSlot_0 rfl ?_
  refine WQ_i2l dX11_isSlot_1 (fun l2028 hl2028 => ?_)
  refine WP_lconst (0) dX11_isSlot_2 rfl ?_
  obtain ⟨l2029, hl2029, el2029⟩ : ∃ v : Int64, v.toInt = 0 ∧ (0 : Int64) = v := ⟨_, rfl, rfl⟩
  rw [el2029]; clear el2029
  refine WP_ldc2 (2) dX11_isSlot_3 klX11_376 ?_
  obtain ⟨l2030, hl2030, el2030⟩ : ∃ v : Int64, v.toInt = (2) ∧ ((2) : Int64) = v := ⟨_, rfl, rfl⟩
  rw [el2030]; clear el2030
  refine WP_callS3 dX11_isSlot_6 ⟨⟨⟨by decide, by decide⟩, zX11_in⟩, lX11_52, tX11_in⟩ (sm_in hy hr hI l2028 l2029 l2030 ) (Nat.le_of_ble_eq_true rfl) ?_
  intro r Ia Ja Ra hq
  obtain ⟨⟨ea, eb, ec⟩, v2031, rfl, av2031, bv2031, cv2031⟩ := hq
  show WP _ _ _ _ (.int _ :: _) _ _ _ _
  rw [ea, eb, ec]
  clear ea eb ec Ia Ja Ra
  exact WP_zret dX11_isSlot_9 rfl (nar_z (by omega)) ⟨⟨rfl, rfl, rfl⟩, _, rfl, by omega, by omega, by omega⟩
set_option maxHeartbeats 4000000 in
set_option maxRecDepth 100000 in
theorem sm_isMeet {g : GG} {n : Int} {L : Int32} (hy : Ly g)  {I : pI} {J : pJ} {R : pR} (hr : Rf g R) (hI : MP g n L I) (a : Int32) (b : Int32) (c : Int32)  : SP g mX11_isMeet [.int a, .int b, .int c] I J R (fun r I' J' R' => (I' = I ∧ J' = J ∧ R' = R) ∧ ∃ v : Int32, r = some (.int v) ∧ 0 ≤ v.toInt ∧ v.toInt ≤ 1 ∧ (v.toInt = 1 ↔ (0 ≤ a.toInt ∧ a.toInt ≤ 100) ∧ (0 ≤ b.toInt ∧ b.toInt ≤ 900) ∧ (0 ≤ c.toInt ∧ c.toInt ≤ 40))) := by
  refine SP_of ⟨by decide, rfl⟩ (Nat.le_of_ble_eq_true rfl) ?_
  have e2032 : I (ad g 0) 1 = L := hI.1.2
  have b2033 := BT_get hI.1.1 0 1 2 (0) (0) (900) (by decide) 1 (by decide) (by decide)
  rw [e2032] at b2033
  refine WP_iload_n dX11_isMeet_0 rfl ?_
  refine WQ_i2l dX11_isMeet_1 (fun l2034 hl2034 => ?_)
  refine WP_lconst (0) dX11_isMeet_2 rfl ?_
  obtain ⟨l2035, hl2035, el2035⟩ : ∃ v : Int64, v.toInt = 0 ∧ (0 : Int64) = v := ⟨_, rfl, rfl⟩
  rw [el2035]; clear el2035
  refine WP_ldc2 (100) dX11_isMeet_3 klX11_517 ?_
  obtain ⟨l2036, hl2036, el2036⟩ : ∃ v : Int64, v.toInt = (100) ∧ ((100) : Int64) = v := ⟨_, rfl, rfl⟩
  rw [el2036]; clear el2036
  refine WP_callS3 dX11_isMeet_6 ⟨⟨⟨by decide, by decide⟩, zX11_in⟩, lX11_52, tX11_in⟩ (sm_in hy hr hI l2034 l2035 l2036 ) (Nat.le_of_ble_eq_true rfl) ?_
  intro r Ia Ja Ra hq
  obtain ⟨⟨ea, eb, ec⟩, v2037, rfl, av2037, bv2037, cv2037⟩ := hq
  show WP _ _ _ _ (.int _ :: _) _ _ _ _
  rw [ea, eb, ec]
  clear ea eb ec Ia Ja Ra
  refine WQ_if_eq 40 dX11_isMeet_9 rfl (fun c2037 => ?_) (fun c2037 => ?_)
  · refine WQ_iconst (0) (0) dX11_isMeet_40 rfl rfl (fun v2039 hv2039 => ?_)
    exact WP_zret dX11_isMeet_41 rfl (nar_z (by omega)) ⟨⟨rfl, rfl, rfl⟩, _, rfl, by omega, by omega, by omega⟩
  · refine WP_iload_n dX11_isMeet_12 rfl ?_
    refine WQ_i2l dX11_isMeet_13 (fun l2040 hl2040 => ?_)
    refine WP_lconst (0) dX11_isMeet_14 rfl ?_
    obtain ⟨l2041, hl2041, el2041⟩ : ∃ v : Int64, v.toInt = 0 ∧ (0 : Int64) = v := ⟨_, rfl, rfl⟩
    rw [el2041]; clear el2041
    refine WP_ldc2 (900) dX11_isMeet_15 klX11_536 ?_
    obtain ⟨l2042, hl2042, el2042⟩ : ∃ v : Int64, v.toInt = (900) ∧ ((900) : Int64) = v := ⟨_, rfl, rfl⟩
    rw [el2042]; clear el2042
    refine WP_callS3 dX11_isMeet_18 ⟨⟨⟨by decide, by decide⟩, zX11_in⟩, lX11_52, tX11_in⟩ (sm_in hy hr hI l2040 l2041 l2042 ) (Nat.le_of_ble_eq_true rfl) ?_
    intro r Ia Ja Ra hq
    obtain ⟨⟨ea, eb, ec⟩, v2043, rfl, av2043, bv2043, cv2043⟩ := hq
    show WP _ _ _ _ (.int _ :: _) _ _ _ _
    rw [ea, eb, ec]
    clear ea eb ec Ia Ja Ra
    refine WQ_if_eq 40 dX11_isMeet_21 rfl (fun c2043 => ?_) (fun c2043 => ?_)
    · refine WQ_iconst (0) (0) dX11_isMeet_40 rfl rfl (fun v2045 hv2045 => ?_)
      exact WP_zret dX11_isMeet_41 rfl (nar_z (by omega)) ⟨⟨rfl, rfl, rfl⟩, _, rfl, by omega, by omega, by omega⟩
    · refine WP_iload_n dX11_isMeet_24 rfl ?_
      refine WQ_i2l dX11_isMeet_25 (fun l2046 hl2046 => ?_)
      refine WP_lconst (0) dX11_isMeet_26 rfl ?_
      obtain ⟨l2047, hl2047, el2047⟩ : ∃ v : Int64, v.toInt = 0 ∧ (0 : Int64) = v := ⟨_, rfl, rfl⟩
      rw [el2047]; clear el2047
      refine WP_ldc2 (40) dX11_isMeet_27 klX11_538 ?_
      obtain ⟨l2048, hl2048, el2048⟩ : ∃ v : Int64, v.toInt = (40) ∧ ((40) : Int64) = v := ⟨_, rfl, rfl⟩
      rw [el2048]; clear el2048
      refine WP_callS3 dX11_isMeet_30 ⟨⟨⟨by decide, by decide⟩, zX11_in⟩, lX11_52, tX11_in⟩ (sm_in hy hr hI l2046 l2047 l2048 ) (Nat.le_of_ble_eq_true rfl) ?_
      intro r Ia Ja Ra hq
      obtain ⟨⟨ea, eb, ec⟩, v2049, rfl, av2049, bv2049, cv2049⟩ := hq
      show WP _ _ _ _ (.int _ :: _) _ _ _ _
      rw [ea, eb, ec]
      clear ea eb ec Ia Ja Ra
      refine WQ_if_eq 40 dX11_isMeet_33 rfl (fun c2049 => ?_) (fun c2049 => ?_)
      · refine WQ_iconst (0) (0) dX11_isMeet_40 rfl rfl (fun v2051 hv2051 => ?_)
        exact WP_zret dX11_isMeet_41 rfl (nar_z (by omega)) ⟨⟨rfl, rfl, rfl⟩, _, rfl, by omega, by omega, by omega⟩
      · refine WQ_iconst (1) (1) dX11_isMeet_36 rfl rfl (fun v2052 hv2052 => ?_)
        refine WP_goto 41 dX11_isMeet_37 rfl ?_
        exact WP_zret dX11_isMeet_41 rfl (nar_z (by omega)) ⟨⟨rfl, rfl, rfl⟩, _, rfl, by omega, by omega, by omega⟩
set_option maxHeartbeats 4000000 in
set_option maxRecDepth 100000 in
theorem sm_isSort {g : GG} {n : Int} {L : Int32} (hy : Ly g)  {I : pI} {J : pJ} {R : pR} (hr : Rf g R) (hI : MP g n L I) (a : Int32)  : SP g mX11_isSort [.ref (ad g 0), .int a] I J R (fun r I' J' R' => (I' = I ∧ J' = J ∧ R' = R) ∧ ∃ v : Int32, r = some (.int v) ∧ 0 ≤ v.toInt ∧ v.toInt ≤ 1 ∧ (v.toInt = 1 → 0 ≤ a.toInt ∧ a.toInt ≤ 3 ∧ a.toInt < (I (ad g 0) 10).toInt)) := by
  refine SP_of ⟨by decide, rfl⟩ (Nat.le_of_ble_eq_true rfl) ?_
  have e2053 : I (ad g 0) 1 = L := hI.1.2
  have b2054 := BT_get hI.1.1 0 1 2 (0) (0) (900) (by decide) 1 (by decide) (by decide)
  rw [e2053] at b2054
  refine WP_iload_n dX11_isSort_0 rfl ?_
  refine WQ_i2l dX11_isSort_1 (fun l2055 hl2055 => ?_)
  refine WP_lconst (0) dX11_isSort_2 rfl ?_
  obtain ⟨l2056, hl2056, el2056⟩ : ∃ v : Int64, v.toInt = 0 ∧ (0 : Int64) = v := ⟨_, rfl, rfl⟩
  rw [el2056]; clear el2056
  refine WP_aload_n dX11_isSort_3 rfl ?_
  refine WQ_geti dX11_isSort_4 fX11_329 rfl (ly_is hy 0 11 rfl) (BT_get hI.1.1 0 10 11 (0) (0) (4) (by decide) 10 (by decide) (by decide)) (fun v2057 ev2057 av2057 bv2057 => ?_)
  refine WQ_i2l dX11_isSort_7 (fun l2058 hl2058 => ?_)
  refine WP_lconst (1) dX11_isSort_8 rfl ?_
  obtain ⟨l2059, hl2059, el2059⟩ : ∃ v : Int64, v.toInt = 1 ∧ (1 : Int64) = v := ⟨_, rfl, rfl⟩
  rw [el2059]; clear el2059
  refine WQ_lsubi dX11_isSort_9 (by omega) (by omega) (fun l2060 hl2060 => ?_)
  refine WP_callS3 dX11_isSort_10 ⟨⟨⟨by decide, by decide⟩, zX11_in⟩, lX11_52, tX11_in⟩ (sm_in hy hr hI l2055 l2056 l2060 ) (Nat.le_of_ble_eq_true rfl) ?_
  intro r Ia Ja Ra hq
  obtain ⟨⟨ea, eb, ec⟩, v2061, rfl, av2061, bv2061, cv2061⟩ := hq
  show WP _ _ _ _ (.int _ :: _) _ _ _ _
  rw [ea, eb, ec]
  clear ea eb ec Ia Ja Ra
  exact WP_zret dX11_isSort_13 rfl (nar_z (by omega)) ⟨⟨rfl, rfl, rfl⟩, _, rfl, by omega, by omega, by (try rw [ev2057]); omega⟩
set_option maxHeartbeats 4000000 in
set_option maxRecDepth 100000 in
theorem sm_isThing {g : GG} {n : Int} {L : Int32} (hy : Ly g)  {I : pI} {J : pJ} {R : pR} (hr : Rf g R) (hI : MP g n L I) (a : Int32)  : SP g mX11_isThing [.ref (ad g 0), .int a] I J R (fun r I' J' R' => (I' = I ∧ J' = J ∧ R' = R) ∧ ∃ v : Int32, r = some (.int v) ∧ 0 ≤ v.toInt ∧ v.toInt ≤ 1 ∧ (v.toInt = 1 → 0 ≤ a.toInt ∧ a.toInt ≤ 2)) := by
  refine SP_of ⟨by decide, rfl⟩ (Nat.le_of_ble_eq_true rfl) ?_
  have e2062 : I (ad g 0) 1 = L := hI.1.2
  have b2063 := BT_get hI.1.1 0 1 2 (0) (0) (900) (by decide) 1 (by decide) (by decide)
  rw [e2062] at b2063
  refine WP_iload_n dX11_isThing_0 rfl ?_
  refine WQ_i2l dX11_isThing_1 (fun l2064 hl2064 => ?_)
  refine WP_lconst (0) dX11_isThing_2 rfl ?_
  obtain ⟨l2065, hl2065, el2065⟩ : ∃ v : Int64, v.toInt = 0 ∧ (0 : Int64) = v := ⟨_, rfl, rfl⟩
  rw [el2065]; clear el2065
  refine WP_aload_n dX11_isThing_3 rfl ?_
  refine WQ_geti dX11_isThing_4 fX11_332 rfl (ly_is hy 0 11 rfl) (BT_get hI.1.1 0 11 12 (0) (0) (3) (by decide) 11 (by decide) (by decide)) (fun v2066 ev2066 av2066 bv2066 => ?_)
  refine WQ_i2l dX11_isThing_7 (fun l2067 hl2067 => ?_)
  refine WP_lconst (1) dX11_isThing_8 rfl ?_
  obtain ⟨l2068, hl2068, el2068⟩ : ∃ v : Int64, v.toInt = 1 ∧ (1 : Int64) = v := ⟨_, rfl, rfl⟩
  rw [el2068]; clear el2068
  refine WQ_lsubi dX11_isThing_9 (by omega) (by omega) (fun l2069 hl2069 => ?_)
  refine WP_callS3 dX11_isThing_10 ⟨⟨⟨by decide, by decide⟩, zX11_in⟩, lX11_52, tX11_in⟩ (sm_in hy hr hI l2064 l2065 l2069 ) (Nat.le_of_ble_eq_true rfl) ?_
  intro r Ia Ja Ra hq
  obtain ⟨⟨ea, eb, ec⟩, v2070, rfl, av2070, bv2070, cv2070⟩ := hq
  show WP _ _ _ _ (.int _ :: _) _ _ _ _
  rw [ea, eb, ec]
  clear ea eb ec Ia Ja Ra
  exact WP_zret dX11_isThing_13 rfl (nar_z (by omega)) ⟨⟨rfl, rfl, rfl⟩, _, rfl, by omega, by omega, by omega⟩
set_option maxHeartbeats 4000000 in
set_option maxRecDepth 100000 in
theorem sm_fault {g : GG} {n : Int} {L : Int32} (hy : Ly g)  {I : pI} {J : pJ} {R : pR} (hr : Rf g R) (hI : MP g n L I) (a : Int32)  : SP g mX11_fault [.ref (ad g 0), .int a] I J R (fun r I' J' R' => (I' = I ∧ J' = J ∧ R' = R) ∧ ∃ v : Int32, r = some (.int v)) := by
  refine SP_of ⟨by decide, rfl⟩ (Nat.le_of_ble_eq_true rfl) ?_
  have e2071 : I (ad g 0) 1 = L := hI.1.2
  have b2072 := BT_get hI.1.1 0 1 2 (0) (0) (900) (by decide) 1 (by decide) (by decide)
  rw [e2071] at b2072
  refine WP_iload_n dX11_fault_0 rfl ?_
  have jn24_2077 : ∀ (v2077 : Int32), WP g mX11_fault 24 [(0, .ref (ad g 0)), (1, .int a)] [.int v2077] I J R (fun r I' J' R' => (I' = I ∧ J' = J ∧ R' = R) ∧ ∃ v : Int32, r = some (.int v)) := by
    intro v2077 
    exact WP_iret dX11_fault_24 rfl ⟨⟨rfl, rfl, rfl⟩, _, rfl⟩
  refine WX_if_ne 11 dX11_fault_1 rfl ?_ ?_
  · refine WP_iload_n dX11_fault_11 rfl ?_
    refine WQ_iconst (1) (1) dX11_fault_12 rfl rfl (fun v2079 hv2079 => ?_)
    refine WX_icmp_ne 23 dX11_fault_13 rfl ?_ ?_
    · refine WQ_iconst (-1) (-1) dX11_fault_23 rfl rfl (fun v2080 hv2080 => ?_)
      exact WP_sub (fc rfl (fc rfl fn)) (jn24_2077 v2080)
    · refine WP_aload_n dX11_fault_16 rfl ?_
      refine WQ_getiu dX11_fault_17 fX11_10 rfl (ly_is hy 0 11 rfl) (fun v2081 ev2081 => ?_)
      refine WP_goto 24 dX11_fault_20 rfl ?_
      exact WP_sub (fc rfl (fc rfl fn)) (jn24_2077 v2081)
  · refine WP_aload_n dX11_fault_4 rfl ?_
    refine WQ_getiu dX11_fault_5 fX11_3 rfl (ly_is hy 0 11 rfl) (fun v2082 ev2082 => ?_)
    refine WP_goto 24 dX11_fault_8 rfl ?_
    exact WP_sub (fc rfl (fc rfl fn)) (jn24_2077 v2082)
set_option maxHeartbeats 4000000 in
set_option maxRecDepth 100000 in
theorem sm_restTurns {g : GG} {n : Int} {L : Int32} (hy : Ly g)  {I : pI} {J : pJ} {R : pR} (hr : Rf g R) (hI : MP g n L I)   : SP g mX11_restTurns [.ref (ad g 0)] I J R (fun r I' J' R' => (I' = I ∧ J' = J ∧ R' = R) ∧ ∃ v : Int32, r = some (.int v)) := by
  refine SP_of ⟨by decide, rfl⟩ (Nat.le_of_ble_eq_true rfl) ?_
  have e2083 : I (ad g 0) 1 = L := hI.1.2
  have b2084 := BT_get hI.1.1 0 1 2 (0) (0) (900) (by decide) 1 (by decide) (by decide)
  rw [e2083] at b2084
  refine WP_aload_n dX11_restTurns_0 rfl ?_
  refine WQ_getiu dX11_restTurns_1 fX11_304 rfl (ly_is hy 0 11 rfl) (fun v2085 ev2085 => ?_)
  exact WP_iret dX11_restTurns_4 rfl ⟨⟨rfl, rfl, rfl⟩, _, rfl⟩
set_option maxHeartbeats 4000000 in
set_option maxRecDepth 100000 in
theorem sm_count {g : GG} {n : Int} {L : Int32} (hy : Ly g)  {I : pI} {J : pJ} {R : pR} (hr : Rf g R) (hI : MP g n L I) (a : Int32)  : SP g mX11_count [.ref (ad g 0), .int a] I J R (fun r I' J' R' => (I' = I ∧ J' = J ∧ R' = R) ∧ ∃ v : Int32, r = some (.int v)) := by
  refine SP_of ⟨by decide, rfl⟩ (Nat.le_of_ble_eq_true rfl) ?_
  have e2086 : I (ad g 0) 1 = L := hI.1.2
  have b2087 := BT_get hI.1.1 0 1 2 (0) (0) (900) (by decide) 1 (by decide) (by decide)
  rw [e2086] at b2087
  refine WP_iload_n dX11_count_0 rfl ?_
  have jn24_2091 : ∀ (v2091 : Int32), WP g mX11_count 24 [(0, .ref (ad g 0)), (1, .int a)] [.int v2091] I J R (fun r I' J' R' => (I' = I ∧ J' = J ∧ R' = R) ∧ ∃ v : Int32, r = some (.int v)) := by
    intro v2091 
    exact WP_iret dX11_count_24 rfl ⟨⟨rfl, rfl, rfl⟩, _, rfl⟩
  refine WX_if_ne 11 dX11_count_1 rfl ?_ ?_
  · refine WP_iload_n dX11_count_11 rfl ?_
    refine WQ_iconst (1) (1) dX11_count_12 rfl rfl (fun v2093 hv2093 => ?_)
    refine WX_icmp_ne 23 dX11_count_13 rfl ?_ ?_
    · refine WQ_iconst (-1) (-1) dX11_count_23 rfl rfl (fun v2094 hv2094 => ?_)
      exact WP_sub (fc rfl (fc rfl fn)) (jn24_2091 v2094)
    · refine WP_aload_n dX11_count_16 rfl ?_
      refine WQ_getim dX11_count_17 fX11_75 rfl (ly_is hy 0 11 rfl) e2086 ?_
      refine WP_goto 24 dX11_count_20 rfl ?_
      exact WP_sub (fc rfl (fc rfl fn)) (jn24_2091 L)
  · refine WP_aload_n dX11_count_4 rfl ?_
    refine WQ_getiu dX11_count_5 fX11_335 rfl (ly_is hy 0 11 rfl) (fun v2095 ev2095 => ?_)
    refine WP_goto 24 dX11_count_8 rfl ?_
    exact WP_sub (fc rfl (fc rfl fn)) (jn24_2091 v2095)
set_option maxHeartbeats 4000000 in
set_option maxRecDepth 100000 in
theorem sm_earns {g : GG} {n : Int} {L : Int32} (hy : Ly g)  {I : pI} {J : pJ} {R : pR} (hr : Rf g R) (hI : MP g n L I) (a : Int32) (b : Int32)  : SP g mX11_earns [.ref (ad g 0), .int a, .int b] I J R (fun r I' J' R' => (I' = I ∧ J' = J ∧ R' = R) ∧ ∃ v : Int32, r = some (.int v)) := by
  refine SP_of ⟨by decide, rfl⟩ (Nat.le_of_ble_eq_true rfl) ?_
  have e2096 : I (ad g 0) 1 = L := hI.1.2
  have b2097 := BT_get hI.1.1 0 1 2 (0) (0) (900) (by decide) 1 (by decide) (by decide)
  rw [e2096] at b2097
  refine WP_aload_n dX11_earns_0 rfl ?_
  refine WP_iload_n dX11_earns_1 rfl ?_
  refine WP_callV1 (k := 11) dX11_earns_2 ⟨⟨⟨by decide, by decide⟩, zX11_isSort⟩, lX11_367, by decide, rfl, vX11_isSort.1, vX11_isSort.2⟩ (ly_is hy 0 11 rfl) (sm_isSort hy hr hI a ) (Nat.le_of_ble_eq_true rfl) ?_
  intro r Ia Ja Ra hq
  obtain ⟨⟨ea, eb, ec⟩, v2098, rfl, av2098, bv2098, cv2098⟩ := hq
  show WP _ _ _ _ (.int _ :: _) _ _ _ _
  rw [ea, eb, ec]
  clear ea eb ec Ia Ja Ra
  obtain ⟨w2099, ew2099⟩ : ∃ w : Int32, I (ad g 0) 10 = w := ⟨_, rfl⟩
  have bw2099 := BT_get hI.1.1 0 10 11 (0) (0) (4) (by decide) 10 (by decide) (by decide)
  rw [ew2099] at bw2099
  rw [ew2099] at cv2098
  have jn31_2108 : ∀ (v2108 : Int32), -2 ≤ v2108.toInt → v2108.toInt ≤ 20 → WP g mX11_earns 31 [(0, .ref (ad g 0)), (1, .int a), (2, .int b)] [.int v2108] I J R (fun r I' J' R' => (I' = I ∧ J' = J ∧ R' = R) ∧ ∃ v : Int32, r = some (.int v)) := by
    intro v2108 av2108 bv2108
    exact WP_iret dX11_earns_31 rfl ⟨⟨rfl, rfl, rfl⟩, _, rfl⟩
  refine WQ_if_eq 29 dX11_earns_5 rfl (fun c2109 => ?_) (fun c2109 => ?_)
  · refine WQ_bipush (-2) (-2) dX11_earns_29 rfl rfl (fun v2111 hv2111 => ?_)
    exact WP_sub (fc rfl (fc rfl (fc rfl fn))) (jn31_2108 v2111 (by omega) (by omega))
  · refine WP_iload_n dX11_earns_8 rfl ?_
    refine WP_callS1 dX11_earns_9 ⟨⟨⟨by decide, by decide⟩, zX11_isDay⟩, lX11_370, tX11_isDay⟩ (sm_isDay hy hr hI b ) (Nat.le_of_ble_eq_true rfl) ?_
    intro r Ia Ja Ra hq
    obtain ⟨⟨ea, eb, ec⟩, v2112, rfl, av2112, bv2112, cv2112⟩ := hq
    show WP _ _ _ _ (.int _ :: _) _ _ _ _
    rw [ea, eb, ec]
    clear ea eb ec Ia Ja Ra
    refine WQ_if_eq 29 dX11_earns_12 rfl (fun c2112 => ?_) (fun c2112 => ?_)
    · refine WQ_bipush (-2) (-2) dX11_earns_29 rfl rfl (fun v2114 hv2114 => ?_)
      exact WP_sub (fc rfl (fc rfl (fc rfl fn))) (jn31_2108 v2114 (by omega) (by omega))
    · refine WP_aload_n dX11_earns_15 rfl ?_
      refine WP_getr dX11_earns_16 fX11_252 rfl (ly_is hy 0 11 rfl) (rf hr 0 38 20 (by decide)) ?_
      refine WQ_bipush (7) (7) dX11_earns_19 rfl rfl (fun v2115 hv2115 => ?_)
      refine WP_iload_n dX11_earns_21 rfl ?_
      refine WQ_imulK (7) dX11_earns_22 hv2115 (by omega) (by omega) (fun v2116 hv2116 => ?_)
      refine WP_iload_n dX11_earns_23 rfl ?_
      refine WQ_iadd dX11_earns_24 (by omega) (by omega) (fun v2117 hv2117 => ?_)
      refine WQ_iald dX11_earns_25 (ly_is hy 20 13 rfl) (ly_n hy 20 28 rfl) (by omega) (by omega) (fun q hq => BT_get hI.1.1 20 0 28 (0) (0) (20) (by decide) q (Nat.zero_le _) hq) (fun v2118 av2118 bv2118 ev2118 => ?_)
      clear ev2118
      refine WP_goto 31 dX11_earns_26 rfl ?_
      exact WP_sub (fc rfl (fc rfl (fc rfl fn))) (jn31_2108 v2118 (by omega) (by omega))
set_option maxHeartbeats 4000000 in
set_option maxRecDepth 100000 in
theorem sm_price {g : GG} {n : Int} {L : Int32} (hy : Ly g)  {I : pI} {J : pJ} {R : pR} (hr : Rf g R) (hI : MP g n L I) (a : Int32) (b : Int32)  : SP g mX11_price [.ref (ad g 0), .int a, .int b] I J R (fun r I' J' R' => (I' = I ∧ J' = J ∧ R' = R) ∧ ∃ v : Int32, r = some (.int v)) := by
  refine SP_of ⟨by decide, rfl⟩ (Nat.le_of_ble_eq_true rfl) ?_
  have e2119 : I (ad g 0) 1 = L := hI.1.2
  have b2120 := BT_get hI.1.1 0 1 2 (0) (0) (900) (by decide) 1 (by decide) (by decide)
  rw [e2119] at b2120
  refine WP_aload_n dX11_price_0 rfl ?_
  refine WP_iload_n dX11_price_1 rfl ?_
  refine WP_callV1 (k := 11) dX11_price_2 ⟨⟨⟨by decide, by decide⟩, zX11_isThing⟩, lX11_373, by decide, rfl, vX11_isThing.1, vX11_isThing.2⟩ (ly_is hy 0 11 rfl) (sm_isThing hy hr hI a ) (Nat.le_of_ble_eq_true rfl) ?_
  intro r Ia Ja Ra hq
  obtain ⟨⟨ea, eb, ec⟩, v2121, rfl, av2121, bv2121, cv2121⟩ := hq
  show WP _ _ _ _ (.int _ :: _) _ _ _ _
  rw [ea, eb, ec]
  clear ea eb ec Ia Ja Ra
  have jn31_2130 : ∀ (v2130 : Int32), -2 ≤ v2130.toInt → v2130.toInt ≤ 20 → WP g mX11_price 31 [(0, .ref (ad g 0)), (1, .int a), (2, .int b)] [.int v2130] I J R (fun r I' J' R' => (I' = I ∧ J' = J ∧ R' = R) ∧ ∃ v : Int32, r = some (.int v)) := by
    intro v2130 av2130 bv2130
    exact WP_iret dX11_price_31 rfl ⟨⟨rfl, rfl, rfl⟩, _, rfl⟩
  refine WQ_if_eq 29 dX11_price_5 rfl (fun c2131 => ?_) (fun c2131 => ?_)
  · refine WQ_bipush (-2) (-2) dX11_price_29 rfl rfl (fun v2133 hv2133 => ?_)
    exact WP_sub (fc rfl (fc rfl (fc rfl fn))) (jn31_2130 v2133 (by omega) (by omega))
  · refine WP_iload_n dX11_price_8 rfl ?_
    refine WP_callS1 dX11_price_9 ⟨⟨⟨by decide, by decide⟩, zX11_isDay⟩, lX11_370, tX11_isDay⟩ (sm_isDay hy hr hI b ) (Nat.le_of_ble_eq_true rfl) ?_
    intro r Ia Ja Ra hq
    obtain ⟨⟨ea, eb, ec⟩, v2134, rfl, av2134, bv2134, cv2134⟩ := hq
    show WP _ _ _ _ (.int _ :: _) _ _ _ _
    rw [ea, eb, ec]
    clear ea eb ec Ia Ja Ra
    refine WQ_if_eq 29 dX11_price_12 rfl (fun c2134 => ?_) (fun c2134 => ?_)
    · refine WQ_bipush (-2) (-2) dX11_price_29 rfl rfl (fun v2136 hv2136 => ?_)
      exact WP_sub (fc rfl (fc rfl (fc rfl fn))) (jn31_2130 v2136 (by omega) (by omega))
    · refine WP_aload_n dX11_price_15 rfl ?_
      refine WP_getr dX11_price_16 fX11_257 rfl (ly_is hy 0 11 rfl) (rf hr 0 40 22 (by decide)) ?_
      refine WQ_bipush (7) (7) dX11_price_19 rfl rfl (fun v2137 hv2137 => ?_)
      refine WP_iload_n dX11_price_21 rfl ?_
      refine WQ_imulK (7) dX11_price_22 hv2137 (by omega) (by omega) (fun v2138 hv2138 => ?_)
      refine WP_iload_n dX11_price_23 rfl ?_
      refine WQ_iadd dX11_price_24 (by omega) (by omega) (fun v2139 hv2139 => ?_)
      refine WQ_iald dX11_price_25 (ly_is hy 22 13 rfl) (ly_n hy 22 21 rfl) (by omega) (by omega) (fun q hq => BT_get hI.1.1 22 0 21 (0) (0) (20) (by decide) q (Nat.zero_le _) hq) (fun v2140 av2140 bv2140 ev2140 => ?_)
      clear ev2140
      refine WP_goto 31 dX11_price_26 rfl ?_
      exact WP_sub (fc rfl (fc rfl (fc rfl fn))) (jn31_2130 v2140 (by omega) (by omega))
set_option maxHeartbeats 4000000 in
set_option maxRecDepth 100000 in
theorem sm_made {g : GG} {n : Int} {L : Int32} (hy : Ly g)  {I : pI} {J : pJ} {R : pR} (hr : Rf g R) (hI : MP g n L I) (a : Int32) (b : Int32)  : SP g mX11_made [.ref (ad g 0), .int a, .int b] I J R (fun r I' J' R' => (I' = I ∧ J' = J ∧ R' = R) ∧ ∃ v : Int32, r = some (.int v)) := by
  refine SP_of ⟨by decide, rfl⟩ (Nat.le_of_ble_eq_true rfl) ?_
  have e2141 : I (ad g 0) 1 = L := hI.1.2
  have b2142 := BT_get hI.1.1 0 1 2 (0) (0) (900) (by decide) 1 (by decide) (by decide)
  rw [e2141] at b2142
  refine WP_aload_n dX11_made_0 rfl ?_
  refine WP_iload_n dX11_made_1 rfl ?_
  refine WP_callV1 (k := 11) dX11_made_2 ⟨⟨⟨by decide, by decide⟩, zX11_isThing⟩, lX11_373, by decide, rfl, vX11_isThing.1, vX11_isThing.2⟩ (ly_is hy 0 11 rfl) (sm_isThing hy hr hI a ) (Nat.le_of_ble_eq_true rfl) ?_
  intro r Ia Ja Ra hq
  obtain ⟨⟨ea, eb, ec⟩, v2143, rfl, av2143, bv2143, cv2143⟩ := hq
  show WP _ _ _ _ (.int _ :: _) _ _ _ _
  rw [ea, eb, ec]
  clear ea eb ec Ia Ja Ra
  have jn31_2152 : ∀ (v2152 : Int32), -2 ≤ v2152.toInt → v2152.toInt ≤ 999 → WP g mX11_made 31 [(0, .ref (ad g 0)), (1, .int a), (2, .int b)] [.int v2152] I J R (fun r I' J' R' => (I' = I ∧ J' = J ∧ R' = R) ∧ ∃ v : Int32, r = some (.int v)) := by
    intro v2152 av2152 bv2152
    exact WP_iret dX11_made_31 rfl ⟨⟨rfl, rfl, rfl⟩, _, rfl⟩
  refine WQ_if_eq 29 dX11_made_5 rfl (fun c2153 => ?_) (fun c2153 => ?_)
  · refine WQ_bipush (-2) (-2) dX11_made_29 rfl rfl (fun v2155 hv2155 => ?_)
    exact WP_sub (fc rfl (fc rfl (fc rfl fn))) (jn31_2152 v2155 (by omega) (by omega))
  · refine WP_iload_n dX11_made_8 rfl ?_
    refine WP_callS1 dX11_made_9 ⟨⟨⟨by decide, by decide⟩, zX11_isDay⟩, lX11_370, tX11_isDay⟩ (sm_isDay hy hr hI b ) (Nat.le_of_ble_eq_true rfl) ?_
    intro r Ia Ja Ra hq
    obtain ⟨⟨ea, eb, ec⟩, v2156, rfl, av2156, bv2156, cv2156⟩ := hq
    show WP _ _ _ _ (.int _ :: _) _ _ _ _
    rw [ea, eb, ec]
    clear ea eb ec Ia Ja Ra
    refine WQ_if_eq 29 dX11_made_12 rfl (fun c2156 => ?_) (fun c2156 => ?_)
    · refine WQ_bipush (-2) (-2) dX11_made_29 rfl rfl (fun v2158 hv2158 => ?_)
      exact WP_sub (fc rfl (fc rfl (fc rfl fn))) (jn31_2152 v2158 (by omega) (by omega))
    · refine WP_aload_n dX11_made_15 rfl ?_
      refine WP_getr dX11_made_16 fX11_259 rfl (ly_is hy 0 11 rfl) (rf hr 0 41 23 (by decide)) ?_
      refine WQ_bipush (7) (7) dX11_made_19 rfl rfl (fun v2159 hv2159 => ?_)
      refine WP_iload_n dX11_made_21 rfl ?_
      refine WQ_imulK (7) dX11_made_22 hv2159 (by omega) (by omega) (fun v2160 hv2160 => ?_)
      refine WP_iload_n dX11_made_23 rfl ?_
      refine WQ_iadd dX11_made_24 (by omega) (by omega) (fun v2161 hv2161 => ?_)
      refine WQ_iald dX11_made_25 (ly_is hy 23 13 rfl) (ly_n hy 23 21 rfl) (by omega) (by omega) (fun q hq => BT_get hI.1.1 23 0 21 (-1) (0) (999) (by decide) q (Nat.zero_le _) hq) (fun v2162 av2162 bv2162 ev2162 => ?_)
      clear ev2162
      refine WP_goto 31 dX11_made_26 rfl ?_
      exact WP_sub (fc rfl (fc rfl (fc rfl fn))) (jn31_2152 v2162 (by omega) (by omega))
set_option maxHeartbeats 4000000 in
set_option maxRecDepth 100000 in
theorem sm_wants {g : GG} {n : Int} {L : Int32} (hy : Ly g)  {I : pI} {J : pJ} {R : pR} (hr : Rf g R) (hI : MP g n L I) (a : Int32) (b : Int32) (c : Int32)  : SP g mX11_wants [.ref (ad g 0), .int a, .int b, .int c] I J R (fun r I' J' R' => (I' = I ∧ J' = J ∧ R' = R) ∧ ∃ v : Int32, r = some (.int v)) := by
  refine SP_of ⟨by decide, rfl⟩ (Nat.le_of_ble_eq_true rfl) ?_
  have e2163 : I (ad g 0) 1 = L := hI.1.2
  have b2164 := BT_get hI.1.1 0 1 2 (0) (0) (900) (by decide) 1 (by decide) (by decide)
  rw [e2163] at b2164
  refine WP_aload_n dX11_wants_0 rfl ?_
  refine WP_iload_n dX11_wants_1 rfl ?_
  refine WP_callV1 (k := 11) dX11_wants_2 ⟨⟨⟨by decide, by decide⟩, zX11_isSort⟩, lX11_367, by decide, rfl, vX11_isSort.1, vX11_isSort.2⟩ (ly_is hy 0 11 rfl) (sm_isSort hy hr hI a ) (Nat.le_of_ble_eq_true rfl) ?_
  intro r Ia Ja Ra hq
  obtain ⟨⟨ea, eb, ec⟩, v2165, rfl, av2165, bv2165, cv2165⟩ := hq
  show WP _ _ _ _ (.int _ :: _) _ _ _ _
  rw [ea, eb, ec]
  clear ea eb ec Ia Ja Ra
  obtain ⟨w2166, ew2166⟩ : ∃ w : Int32, I (ad g 0) 10 = w := ⟨_, rfl⟩
  have bw2166 := BT_get hI.1.1 0 10 11 (0) (0) (4) (by decide) 10 (by decide) (by decide)
  rw [ew2166] at bw2166
  rw [ew2166] at cv2165
  refine WQ_if_eq 27 dX11_wants_5 rfl (fun c2166 => ?_) (fun c2166 => ?_)
  · refine WQ_bipush (-2) (-2) dX11_wants_27 rfl rfl (fun v2168 hv2168 => ?_)
    exact WP_iret dX11_wants_29 rfl ⟨⟨rfl, rfl, rfl⟩, _, rfl⟩
  · refine WP_iload_n dX11_wants_8 rfl ?_
    refine WP_callS1 dX11_wants_9 ⟨⟨⟨by decide, by decide⟩, zX11_isDay⟩, lX11_370, tX11_isDay⟩ (sm_isDay hy hr hI b ) (Nat.le_of_ble_eq_true rfl) ?_
    intro r Ia Ja Ra hq
    obtain ⟨⟨ea, eb, ec⟩, v2169, rfl, av2169, bv2169, cv2169⟩ := hq
    show WP _ _ _ _ (.int _ :: _) _ _ _ _
    rw [ea, eb, ec]
    clear ea eb ec Ia Ja Ra
    refine WQ_if_eq 27 dX11_wants_12 rfl (fun c2169 => ?_) (fun c2169 => ?_)
    · refine WQ_bipush (-2) (-2) dX11_wants_27 rfl rfl (fun v2171 hv2171 => ?_)
      exact WP_iret dX11_wants_29 rfl ⟨⟨rfl, rfl, rfl⟩, _, rfl⟩
    · refine WP_iload_n dX11_wants_15 rfl ?_
      refine WQ_i2l dX11_wants_16 (fun l2172 hl2172 => ?_)
      refine WP_lconst (0) dX11_wants_17 rfl ?_
      obtain ⟨l2173, hl2173, el2173⟩ : ∃ v : Int64, v.toInt = 0 ∧ (0 : Int64) = v := ⟨_, rfl, rfl⟩
      rw [el2173]; clear el2173
      refine WP_ldc2 (2) dX11_wants_18 klX11_376 ?_
      obtain ⟨l2174, hl2174, el2174⟩ : ∃ v : Int64, v.toInt = (2) ∧ ((2) : Int64) = v := ⟨_, rfl, rfl⟩
      rw [el2174]; clear el2174
      refine WP_callS3 dX11_wants_21 ⟨⟨⟨by decide, by decide⟩, zX11_in⟩, lX11_52, tX11_in⟩ (sm_in hy hr hI l2172 l2173 l2174 ) (Nat.le_of_ble_eq_true rfl) ?_
      intro r Ia Ja Ra hq
      obtain ⟨⟨ea, eb, ec⟩, v2175, rfl, av2175, bv2175, cv2175⟩ := hq
      show WP _ _ _ _ (.int _ :: _) _ _ _ _
      rw [ea, eb, ec]
      clear ea eb ec Ia Ja Ra
      refine WQ_if_ne 30 dX11_wants_24 rfl (fun c2175 => ?_) (fun c2175 => ?_)
      · refine WQ_bipush (7) (7) dX11_wants_30 rfl rfl (fun v2177 hv2177 => ?_)
        refine WP_iload_n dX11_wants_32 rfl ?_
        refine WQ_imulK (7) dX11_wants_33 hv2177 (by omega) (by omega) (fun v2178 hv2178 => ?_)
        refine WP_iload_n dX11_wants_34 rfl ?_
        refine WQ_iadd dX11_wants_35 (by omega) (by omega) (fun v2179 hv2179 => ?_)
        refine WP_istore (ls' := [(0, _), (1, _), (2, _), (3, _), (4, _)]) dX11_wants_36 (by decide) rfl ?_
        refine WP_iload_n dX11_wants_38 rfl ?_
        have jn74_2185 : ∀ (v2185 : Int32), -1 ≤ v2185.toInt → v2185.toInt ≤ 99 → WP g mX11_wants 74 [(0, .ref (ad g 0)), (1, .int a), (2, .int b), (3, .int c), (4, .int v2179)] [.int v2185] I J R (fun r I' J' R' => (I' = I ∧ J' = J ∧ R' = R) ∧ ∃ v : Int32, r = some (.int v)) := by
          intro v2185 av2185 bv2185
          exact WP_iret dX11_wants_74 rfl ⟨⟨rfl, rfl, rfl⟩, _, rfl⟩
        refine WQ_if_ne 52 dX11_wants_39 rfl (fun c2186 => ?_) (fun c2186 => ?_)
        · refine WP_iload_n dX11_wants_52 rfl ?_
          refine WQ_iconst (1) (1) dX11_wants_53 rfl rfl (fun v2188 hv2188 => ?_)
          refine WQ_icmp_ne 67 dX11_wants_54 rfl (fun c2188 => ?_) (fun c2188 => ?_)
          · refine WP_aload_n dX11_wants_67 rfl ?_
            refine WP_getr dX11_wants_68 fX11_267 rfl (ly_is hy 0 11 rfl) (rf hr 0 44 26 (by decide)) ?_
            refine WP_iload dX11_wants_71 rfl ?_
            refine WQ_iald dX11_wants_73 (ly_is hy 26 13 rfl) (ly_n hy 26 28 rfl) (by omega) (by omega) (fun q hq => BT_get hI.1.1 26 0 28 (0) (0) (99) (by decide) q (Nat.zero_le _) hq) (fun v2190 av2190 bv2190 ev2190 => ?_)
            clear ev2190
            exact WP_sub (fc rfl (fc rfl (fc rfl (fc rfl (fc rfl fn))))) (jn74_2185 v2190 (by omega) (by omega))
          · refine WP_aload_n dX11_wants_57 rfl ?_
            refine WP_getr dX11_wants_58 fX11_264 rfl (ly_is hy 0 11 rfl) (rf hr 0 43 25 (by decide)) ?_
            refine WP_iload dX11_wants_61 rfl ?_
            refine WQ_iald dX11_wants_63 (ly_is hy 25 13 rfl) (ly_n hy 25 28 rfl) (by omega) (by omega) (fun q hq => BT_get hI.1.1 25 0 28 (0) (0) (3) (by decide) q (Nat.zero_le _) hq) (fun v2191 av2191 bv2191 ev2191 => ?_)
            clear ev2191
            refine WP_goto 74 dX11_wants_64 rfl ?_
            exact WP_sub (fc rfl (fc rfl (fc rfl (fc rfl (fc rfl fn))))) (jn74_2185 v2191 (by omega) (by omega))
        · refine WP_aload_n dX11_wants_42 rfl ?_
          refine WP_getr dX11_wants_43 fX11_261 rfl (ly_is hy 0 11 rfl) (rf hr 0 42 24 (by decide)) ?_
          refine WP_iload dX11_wants_46 rfl ?_
          refine WQ_iald dX11_wants_48 (ly_is hy 24 13 rfl) (ly_n hy 24 28 rfl) (by omega) (by omega) (fun q hq => BT_get hI.1.1 24 0 28 (-1) (0) (2) (by decide) q (Nat.zero_le _) hq) (fun v2192 av2192 bv2192 ev2192 => ?_)
          clear ev2192
          refine WP_goto 74 dX11_wants_49 rfl ?_
          exact WP_sub (fc rfl (fc rfl (fc rfl (fc rfl (fc rfl fn))))) (jn74_2185 v2192 (by omega) (by omega))
      · refine WQ_bipush (-2) (-2) dX11_wants_27 rfl rfl (fun v2193 hv2193 => ?_)
        exact WP_iret dX11_wants_29 rfl ⟨⟨rfl, rfl, rfl⟩, _, rfl⟩
set_option maxHeartbeats 4000000 in
set_option maxRecDepth 100000 in
theorem sm_stampsOf {g : GG} {n : Int} {L : Int32} (hy : Ly g)  {I : pI} {J : pJ} {R : pR} (hr : Rf g R) (hI : MP g n L I) (co : Int32) (lo : Int32) (co_lo : 0 ≤ co.toInt) (co_hi : co.toInt ≤ 999) (lo_lo : 0 ≤ lo.toInt) (lo_hi : lo.toInt ≤ 900) : SP g mX11_stampsOf [.int co, .int lo] I J R (fun r I' J' R' => (I' = I ∧ J' = J ∧ R' = R) ∧ ∃ v : Int32, r = some (.int v) ∧ 0 ≤ v.toInt ∧ v.toInt ≤ 999 ∧ v.toInt ≤ co.toInt) := by
  refine SP_of ⟨by decide, rfl⟩ (Nat.le_of_ble_eq_true rfl) ?_
  have e2194 : I (ad g 0) 1 = L := hI.1.2
  have b2195 := BT_get hI.1.1 0 1 2 (0) (0) (900) (by decide) 1 (by decide) (by decide)
  rw [e2194] at b2195
  refine WP_iload_n dX11_stampsOf_0 rfl ?_
  refine WP_iload_n dX11_stampsOf_1 rfl ?_
  refine WQ_imulb (999) (900) dX11_stampsOf_2 ⟨by omega, by omega⟩ ⟨by omega, by omega⟩ (by decide) (fun v2196 pv2196 av2196 bv2196 cv2196 => ?_)
  refine WQ_sipush (999) (999) dX11_stampsOf_3 rfl rfl (fun v2197 hv2197 => ?_)
  refine WQ_iadd dX11_stampsOf_6 (by omega) (by omega) (fun v2198 hv2198 => ?_)
  refine WQ_sipush (1000) (1000) dX11_stampsOf_7 rfl rfl (fun v2199 hv2199 => ?_)
  refine WQ_idivk (1000) dX11_stampsOf_10 hv2199 (by decide) (by omega) (fun v2200 hv2200 => ?_)
  exact WP_iret dX11_stampsOf_11 rfl ⟨⟨rfl, rfl, rfl⟩, _, rfl, by omega, by omega, by omega⟩
set_option maxHeartbeats 4000000 in
set_option maxRecDepth 100000 in
theorem sm_costOf {g : GG} {n : Int} {L : Int32} (hy : Ly g)  {I : pI} {J : pJ} {R : pR} (hr : Rf g R) (hI : MP g n L I)   : SP g mX11_costOf [.ref (ad g 0)] I J R (fun r I' J' R' => (I' = I ∧ J' = J ∧ R' = R) ∧ ∃ v : Int32, r = some (.int v) ∧ 0 ≤ v.toInt ∧ v.toInt ≤ 9) := by
  refine SP_of ⟨by decide, rfl⟩ (Nat.le_of_ble_eq_true rfl) ?_
  have e2201 : I (ad g 0) 1 = L := hI.1.2
  have b2202 := BT_get hI.1.1 0 1 2 (0) (0) (900) (by decide) 1 (by decide) (by decide)
  rw [e2201] at b2202
  refine WP_aload_n dX11_costOf_0 rfl ?_
  refine WQ_geti dX11_costOf_1 fX11_224 rfl (ly_is hy 0 11 rfl) (BT_get hI.1.1 0 14 15 (-1) (0) (2) (by decide) 14 (by decide) (by decide)) (fun v2203 ev2203 av2203 bv2203 => ?_)
  refine WQ_iconst (-1) (-1) dX11_costOf_4 rfl rfl (fun v2204 hv2204 => ?_)
  have jn21_2207 : ∀ (v2207 : Int32), 0 ≤ v2207.toInt → v2207.toInt ≤ 9 → WP g mX11_costOf 21 [(0, .ref (ad g 0))] [.int v2207] I J R (fun r I' J' R' => (I' = I ∧ J' = J ∧ R' = R) ∧ ∃ v : Int32, r = some (.int v) ∧ 0 ≤ v.toInt ∧ v.toInt ≤ 9) := by
    intro v2207 av2207 bv2207
    exact WP_iret dX11_costOf_21 rfl ⟨⟨rfl, rfl, rfl⟩, _, rfl, by omega, by omega⟩
  refine WQ_icmp_ne 12 dX11_costOf_5 rfl (fun c2208 => ?_) (fun c2208 => ?_)
  · refine WP_aload_n dX11_costOf_12 rfl ?_
    refine WP_getr dX11_costOf_13 fX11_249 rfl (ly_is hy 0 11 rfl) (rf hr 0 31 13 (by decide)) ?_
    refine WP_aload_n dX11_costOf_16 rfl ?_
    refine WQ_getim dX11_costOf_17 fX11_224 rfl (ly_is hy 0 11 rfl) ev2203 ?_
    refine WQ_iald dX11_costOf_20 (ly_is hy 13 13 rfl) (ly_n hy 13 3 rfl) (by omega) (by omega) (fun q hq => BT_get hI.1.1 13 0 3 (0) (0) (9) (by decide) q (Nat.zero_le _) hq) (fun v2210 av2210 bv2210 ev2210 => ?_)
    clear ev2210
    exact WP_sub (fc rfl fn) (jn21_2207 v2210 (by omega) (by omega))
  · refine WQ_iconst (0) (0) dX11_costOf_8 rfl rfl (fun v2211 hv2211 => ?_)
    refine WP_goto 21 dX11_costOf_9 rfl ?_
    exact WP_sub (fc rfl fn) (jn21_2207 v2211 (by omega) (by omega))
set_option maxHeartbeats 4000000 in
set_option maxRecDepth 100000 in
theorem sm_behindNight {g : GG} {n : Int} {L : Int32} (hy : Ly g)  {I : pI} {J : pJ} {R : pR} (hr : Rf g R) (hI : MP g n L I) (co : Int32) (un : Int32) (lo : Int32) (co_lo : 0 ≤ co.toInt) (co_hi : co.toInt ≤ 60) (un_lo : 0 ≤ un.toInt) (un_hi : un.toInt ≤ 5) (lo_lo : 0 ≤ lo.toInt) (lo_hi : lo.toInt ≤ 900) : SP g mX11_behindNight [.ref (ad g 0), .int co, .int un, .int lo] I J R (fun r I' J' R' => (I' = I ∧ J' = J ∧ R' = R) ∧ ∃ v : Int32, r = some (.int v) ∧ 0 ≤ v.toInt ∧ v.toInt ≤ 60) := by
  refine SP_of ⟨by decide, rfl⟩ (Nat.le_of_ble_eq_true rfl) ?_
  have e2212 : I (ad g 0) 1 = L := hI.1.2
  have b2213 := BT_get hI.1.1 0 1 2 (0) (0) (900) (by decide) 1 (by decide) (by decide)
  rw [e2212] at b2213
  refine WQ_iconst (0) (0) dX11_behindNight_0 rfl rfl (fun v2214 hv2214 => ?_)
  refine WP_iload_n dX11_behindNight_1 rfl ?_
  refine WP_iload_n dX11_behindNight_2 rfl ?_
  refine WP_iload_n dX11_behindNight_3 rfl ?_
  refine WP_callS2 dX11_behindNight_4 ⟨⟨⟨by decide, by decide⟩, zX11_stampsOf⟩, lX11_380, tX11_stampsOf⟩ (sm_stampsOf hy hr hI co lo (by omega) (by omega) (by omega) (by omega)) (Nat.le_of_ble_eq_true rfl) ?_
  intro r Ia Ja Ra hq
  obtain ⟨⟨ea, eb, ec⟩, v2215, rfl, av2215, bv2215, cv2215⟩ := hq
  show WP _ _ _ _ (.int _ :: _) _ _ _ _
  rw [ea, eb, ec]
  clear ea eb ec Ia Ja Ra
  refine WQ_isub dX11_behindNight_7 (by omega) (by omega) (fun v2216 hv2216 => ?_)
  refine WP_aload_n dX11_behindNight_8 rfl ?_
  refine WP_callV0 (k := 11) dX11_behindNight_9 ⟨⟨⟨by decide, by decide⟩, zX11_costOf⟩, lX11_384, by decide, rfl, vX11_costOf.1, vX11_costOf.2⟩ (ly_is hy 0 11 rfl) (sm_costOf hy hr hI  ) (Nat.le_of_ble_eq_true rfl) ?_
  intro r Ia Ja Ra hq
  obtain ⟨⟨ea, eb, ec⟩, v2217, rfl, av2217, bv2217⟩ := hq
  show WP _ _ _ _ (.int _ :: _) _ _ _ _
  rw [ea, eb, ec]
  clear ea eb ec Ia Ja Ra
  refine WP_iload_n dX11_behindNight_12 rfl ?_
  refine WQ_imulb (9) (5) dX11_behindNight_13 ⟨by omega, by omega⟩ ⟨by omega, by omega⟩ (by decide) (fun v2218 pv2218 av2218 bv2218 cv2218 => ?_)
  refine WQ_isub dX11_behindNight_14 (by omega) (by omega) (fun v2219 hv2219 => ?_)
  refine WQ_max dX11_behindNight_15 lX11_387 ⟨by decide, Nat.le_of_ble_eq_true rfl⟩ (fun v2220 av2220 bv2220 cv2220 => ?_)
  exact WP_iret dX11_behindNight_18 rfl ⟨⟨rfl, rfl, rfl⟩, _, rfl, by omega, by omega⟩
set_option maxHeartbeats 4000000 in
set_option maxRecDepth 100000 in
theorem sm_leftOf {g : GG} {n : Int} {L : Int32} (hy : Ly g)  {I : pI} {J : pJ} {R : pR} (hr : Rf g R) (hI : MP g n L I) (un : Int32) (un_lo : 0 ≤ un.toInt) (un_hi : un.toInt ≤ 5) : SP g mX11_leftOf [.ref (ad g 0), .int un] I J R (fun r I' J' R' => (I' = I ∧ J' = J ∧ R' = R) ∧ ∃ v : Int32, r = some (.int v) ∧ 0 ≤ v.toInt ∧ v.toInt ≤ 5) := by
  refine SP_of ⟨by decide, rfl⟩ (Nat.le_of_ble_eq_true rfl) ?_
  have e2221 : I (ad g 0) 1 = L := hI.1.2
  have b2222 := BT_get hI.1.1 0 1 2 (0) (0) (900) (by decide) 1 (by decide) (by decide)
  rw [e2221] at b2222
  refine WP_aload_n dX11_leftOf_0 rfl ?_
  refine WQ_geti dX11_leftOf_1 fX11_224 rfl (ly_is hy 0 11 rfl) (BT_get hI.1.1 0 14 15 (-1) (0) (2) (by decide) 14 (by decide) (by decide)) (fun v2223 ev2223 av2223 bv2223 => ?_)
  refine WQ_iconst (-1) (-1) dX11_leftOf_4 rfl rfl (fun v2224 hv2224 => ?_)
  refine WQ_icmp_ne 12 dX11_leftOf_5 rfl (fun c2224 => ?_) (fun c2224 => ?_)
  · refine WP_iload_n dX11_leftOf_12 rfl ?_
    refine WP_iload_n dX11_leftOf_13 rfl ?_
    refine WP_aload_n dX11_leftOf_14 rfl ?_
    refine WP_getr dX11_leftOf_15 fX11_246 rfl (ly_is hy 0 11 rfl) (rf hr 0 30 12 (by decide)) ?_
    refine WP_aload_n dX11_leftOf_18 rfl ?_
    refine WQ_getim dX11_leftOf_19 fX11_224 rfl (ly_is hy 0 11 rfl) ev2223 ?_
    refine WQ_iald dX11_leftOf_22 (ly_is hy 12 13 rfl) (ly_n hy 12 3 rfl) (by omega) (by omega) (fun q hq => BT_get hI.1.1 12 0 3 (0) (0) (1000) (by decide) q (Nat.zero_le _) hq) (fun v2226 av2226 bv2226 ev2226 => ?_)
    clear ev2226
    refine WQ_imulb (5) (1000) dX11_leftOf_23 ⟨by omega, by omega⟩ ⟨by omega, by omega⟩ (by decide) (fun v2227 pv2227 av2227 bv2227 cv2227 => ?_)
    refine WQ_sipush (1000) (1000) dX11_leftOf_24 rfl rfl (fun v2228 hv2228 => ?_)
    refine WQ_idivk (1000) dX11_leftOf_27 hv2228 (by decide) (by omega) (fun v2229 hv2229 => ?_)
    refine WQ_isub dX11_leftOf_28 (by omega) (by omega) (fun v2230 hv2230 => ?_)
    exact WP_iret dX11_leftOf_29 rfl ⟨⟨rfl, rfl, rfl⟩, _, rfl, by omega, by omega⟩
  · refine WQ_iconst (0) (0) dX11_leftOf_8 rfl rfl (fun v2231 hv2231 => ?_)
    refine WP_goto 29 dX11_leftOf_9 rfl ?_
    exact WP_iret dX11_leftOf_29 rfl ⟨⟨rfl, rfl, rfl⟩, _, rfl, by omega, by omega⟩
set_option maxHeartbeats 4000000 in
set_option maxRecDepth 100000 in
theorem sm_night {g : GG} {n : Int} {L : Int32} (hy : Ly g)  {I : pI} {J : pJ} {R : pR} (hr : Rf g R) (hI : MP g n L I) (a : Int32) (b : Int32) (c : Int32)  : SP g mX11_night [.ref (ad g 0), .int a, .int b, .int c] I J R (fun r I' J' R' => (I' = I ∧ J' = J ∧ R' = R) ∧ ∃ v : Int32, r = some (.int v)) := by
  refine SP_of ⟨by decide, rfl⟩ (Nat.le_of_ble_eq_true rfl) ?_
  have e2232 : I (ad g 0) 1 = L := hI.1.2
  have b2233 := BT_get hI.1.1 0 1 2 (0) (0) (900) (by decide) 1 (by decide) (by decide)
  rw [e2232] at b2233
  refine WP_iload_n dX11_night_0 rfl ?_
  refine WP_callS1 dX11_night_1 ⟨⟨⟨by decide, by decide⟩, zX11_areCoins⟩, lX11_392, tX11_areCoins⟩ (sm_areCoins hy hr hI a ) (Nat.le_of_ble_eq_true rfl) ?_
  intro r Ia Ja Ra hq
  obtain ⟨⟨ea, eb, ec⟩, v2234, rfl, av2234, bv2234, cv2234⟩ := hq
  show WP _ _ _ _ (.int _ :: _) _ _ _ _
  rw [ea, eb, ec]
  clear ea eb ec Ia Ja Ra
  have jn49_2250 : ∀ (v2250 : Int32), -2 ≤ v2250.toInt → v2250.toInt ≤ 60 → WP g mX11_night 49 [(0, .ref (ad g 0)), (1, .int a), (2, .int b), (3, .int c)] [.int v2250] I J R (fun r I' J' R' => (I' = I ∧ J' = J ∧ R' = R) ∧ ∃ v : Int32, r = some (.int v)) := by
    intro v2250 av2250 bv2250
    exact WP_iret dX11_night_49 rfl ⟨⟨rfl, rfl, rfl⟩, _, rfl⟩
  refine WQ_if_eq 47 dX11_night_4 rfl (fun c2251 => ?_) (fun c2251 => ?_)
  · refine WQ_bipush (-2) (-2) dX11_night_47 rfl rfl (fun v2253 hv2253 => ?_)
    exact WP_sub (fc rfl (fc rfl (fc rfl (fc rfl fn)))) (jn49_2250 v2253 (by omega) (by omega))
  · refine WP_iload_n dX11_night_7 rfl ?_
    refine WP_callS1 dX11_night_8 ⟨⟨⟨by decide, by decide⟩, zX11_isStore⟩, lX11_395, tX11_isStore⟩ (sm_isStore hy hr hI b ) (Nat.le_of_ble_eq_true rfl) ?_
    intro r Ia Ja Ra hq
    obtain ⟨⟨ea, eb, ec⟩, v2254, rfl, av2254, bv2254, cv2254⟩ := hq
    show WP _ _ _ _ (.int _ :: _) _ _ _ _
    rw [ea, eb, ec]
    clear ea eb ec Ia Ja Ra
    refine WQ_if_eq 47 dX11_night_11 rfl (fun c2254 => ?_) (fun c2254 => ?_)
    · refine WQ_bipush (-2) (-2) dX11_night_47 rfl rfl (fun v2256 hv2256 => ?_)
      exact WP_sub (fc rfl (fc rfl (fc rfl (fc rfl fn)))) (jn49_2250 v2256 (by omega) (by omega))
    · refine WP_iload_n dX11_night_14 rfl ?_
      refine WP_callS1 dX11_night_15 ⟨⟨⟨by decide, by decide⟩, zX11_isDay⟩, lX11_370, tX11_isDay⟩ (sm_isDay hy hr hI c ) (Nat.le_of_ble_eq_true rfl) ?_
      intro r Ia Ja Ra hq
      obtain ⟨⟨ea, eb, ec⟩, v2257, rfl, av2257, bv2257, cv2257⟩ := hq
      show WP _ _ _ _ (.int _ :: _) _ _ _ _
      rw [ea, eb, ec]
      clear ea eb ec Ia Ja Ra
      refine WQ_if_eq 47 dX11_night_18 rfl (fun c2257 => ?_) (fun c2257 => ?_)
      · refine WQ_bipush (-2) (-2) dX11_night_47 rfl rfl (fun v2259 hv2259 => ?_)
        exact WP_sub (fc rfl (fc rfl (fc rfl (fc rfl fn)))) (jn49_2250 v2259 (by omega) (by omega))
      · refine WP_aload_n dX11_night_21 rfl ?_
        refine WQ_geti dX11_night_22 fX11_332 rfl (ly_is hy 0 11 rfl) (BT_get hI.1.1 0 11 12 (0) (0) (3) (by decide) 11 (by decide) (by decide)) (fun v2260 ev2260 av2260 bv2260 => ?_)
        refine WQ_if_gt 32 dX11_night_25 rfl (fun c2260 => ?_) (fun c2260 => ?_)
        · refine WP_aload_n dX11_night_32 rfl ?_
          refine WP_iload_n dX11_night_33 rfl ?_
          refine WP_iload_n dX11_night_34 rfl ?_
          refine WP_aload_n dX11_night_35 rfl ?_
          refine WP_getr dX11_night_36 fX11_233 rfl (ly_is hy 0 11 rfl) (rf hr 0 24 6 (by decide)) ?_
          refine WP_iload_n dX11_night_39 rfl ?_
          refine WQ_iald dX11_night_40 (ly_is hy 6 13 rfl) (ly_n hy 6 7 rfl) (by omega) (by omega) (fun q hq => BT_get hI.1.1 6 0 7 (0) (0) (900) (by decide) q (Nat.zero_le _) hq) (fun v2262 av2262 bv2262 ev2262 => ?_)
          clear ev2262
          refine WP_callV3 (k := 11) dX11_night_41 ⟨⟨⟨by decide, by decide⟩, zX11_behindNight⟩, lX11_398, by decide, rfl, vX11_behindNight.1, vX11_behindNight.2⟩ (ly_is hy 0 11 rfl) (sm_behindNight hy hr hI a b v2262 (by omega) (by omega) (by omega) (by omega) (by omega) (by omega)) (Nat.le_of_ble_eq_true rfl) ?_
          intro r Ia Ja Ra hq
          obtain ⟨⟨ea, eb, ec⟩, v2263, rfl, av2263, bv2263⟩ := hq
          show WP _ _ _ _ (.int _ :: _) _ _ _ _
          rw [ea, eb, ec]
          clear ea eb ec Ia Ja Ra
          refine WP_goto 49 dX11_night_44 rfl ?_
          exact WP_sub (fc rfl (fc rfl (fc rfl (fc rfl fn)))) (jn49_2250 v2263 (by omega) (by omega))
        · refine WP_iload_n dX11_night_28 rfl ?_
          refine WQ_if_ne 47 dX11_night_29 rfl (fun c2263 => ?_) (fun c2263 => ?_)
          · refine WQ_bipush (-2) (-2) dX11_night_47 rfl rfl (fun v2265 hv2265 => ?_)
            exact WP_sub (fc rfl (fc rfl (fc rfl (fc rfl fn)))) (jn49_2250 v2265 (by omega) (by omega))
          · refine WP_aload_n dX11_night_32 rfl ?_
            refine WP_iload_n dX11_night_33 rfl ?_
            refine WP_iload_n dX11_night_34 rfl ?_
            refine WP_aload_n dX11_night_35 rfl ?_
            refine WP_getr dX11_night_36 fX11_233 rfl (ly_is hy 0 11 rfl) (rf hr 0 24 6 (by decide)) ?_
            refine WP_iload_n dX11_night_39 rfl ?_
            refine WQ_iald dX11_night_40 (ly_is hy 6 13 rfl) (ly_n hy 6 7 rfl) (by omega) (by omega) (fun q hq => BT_get hI.1.1 6 0 7 (0) (0) (900) (by decide) q (Nat.zero_le _) hq) (fun v2266 av2266 bv2266 ev2266 => ?_)
            clear ev2266
            refine WP_callV3 (k := 11) dX11_night_41 ⟨⟨⟨by decide, by decide⟩, zX11_behindNight⟩, lX11_398, by decide, rfl, vX11_behindNight.1, vX11_behindNight.2⟩ (ly_is hy 0 11 rfl) (sm_behindNight hy hr hI a b v2266 (by omega) (by omega) (by omega) (by omega) (by omega) (by omega)) (Nat.le_of_ble_eq_true rfl) ?_
            intro r Ia Ja Ra hq
            obtain ⟨⟨ea, eb, ec⟩, v2267, rfl, av2267, bv2267⟩ := hq
            show WP _ _ _ _ (.int _ :: _) _ _ _ _
            rw [ea, eb, ec]
            clear ea eb ec Ia Ja Ra
            refine WP_goto 49 dX11_night_44 rfl ?_
            exact WP_sub (fc rfl (fc rfl (fc rfl (fc rfl fn)))) (jn49_2250 v2267 (by omega) (by omega))
set_option maxHeartbeats 4000000 in
set_option maxRecDepth 100000 in
theorem sm_costAt {g : GG} {n : Int} {L : Int32} (hy : Ly g)  {I : pI} {J : pJ} {R : pR} (hr : Rf g R) (hI : MP g n L I) (th : Int32) (da : Int32) (th_lo : -1 ≤ th.toInt) (th_hi : th.toInt ≤ 2) (da_lo : 0 ≤ da.toInt) (da_hi : da.toInt ≤ 6) : SP g mX11_costAt [.ref (ad g 0), .int th, .int da] I J R (fun r I' J' R' => (I' = I ∧ J' = J ∧ R' = R) ∧ ∃ v : Int32, r = some (.int v) ∧ 0 ≤ v.toInt ∧ v.toInt ≤ 20) := by
  refine SP_of ⟨by decide, rfl⟩ (Nat.le_of_ble_eq_true rfl) ?_
  have e2268 : I (ad g 0) 1 = L := hI.1.2
  have b2269 := BT_get hI.1.1 0 1 2 (0) (0) (900) (by decide) 1 (by decide) (by decide)
  rw [e2268] at b2269
  refine WP_iload_n dX11_costAt_0 rfl ?_
  refine WQ_iconst (-1) (-1) dX11_costAt_1 rfl rfl (fun v2270 hv2270 => ?_)
  have jn20_2276 : ∀ (v2276 : Int32), 0 ≤ v2276.toInt → v2276.toInt ≤ 20 → WP g mX11_costAt 20 [(0, .ref (ad g 0)), (1, .int th), (2, .int da)] [.int v2276] I J R (fun r I' J' R' => (I' = I ∧ J' = J ∧ R' = R) ∧ ∃ v : Int32, r = some (.int v) ∧ 0 ≤ v.toInt ∧ v.toInt ≤ 20) := by
    intro v2276 av2276 bv2276
    exact WP_iret dX11_costAt_20 rfl ⟨⟨rfl, rfl, rfl⟩, _, rfl, by omega, by omega⟩
  refine WQ_icmp_ne 9 dX11_costAt_2 rfl (fun c2277 => ?_) (fun c2277 => ?_)
  · refine WP_aload_n dX11_costAt_9 rfl ?_
    refine WP_getr dX11_costAt_10 fX11_257 rfl (ly_is hy 0 11 rfl) (rf hr 0 40 22 (by decide)) ?_
    refine WQ_bipush (7) (7) dX11_costAt_13 rfl rfl (fun v2279 hv2279 => ?_)
    refine WP_iload_n dX11_costAt_15 rfl ?_
    refine WQ_imulK (7) dX11_costAt_16 hv2279 (by omega) (by omega) (fun v2280 hv2280 => ?_)
    refine WP_iload_n dX11_costAt_17 rfl ?_
    refine WQ_iadd dX11_costAt_18 (by omega) (by omega) (fun v2281 hv2281 => ?_)
    refine WQ_iald dX11_costAt_19 (ly_is hy 22 13 rfl) (ly_n hy 22 21 rfl) (by omega) (by omega) (fun q hq => BT_get hI.1.1 22 0 21 (0) (0) (20) (by decide) q (Nat.zero_le _) hq) (fun v2282 av2282 bv2282 ev2282 => ?_)
    clear ev2282
    exact WP_sub (fc rfl (fc rfl (fc rfl fn))) (jn20_2276 v2282 (by omega) (by omega))
  · refine WQ_iconst (0) (0) dX11_costAt_5 rfl rfl (fun v2283 hv2283 => ?_)
    refine WP_goto 20 dX11_costAt_6 rfl ?_
    exact WP_sub (fc rfl (fc rfl (fc rfl fn))) (jn20_2276 v2283 (by omega) (by omega))
set_option maxHeartbeats 4000000 in
set_option maxRecDepth 100000 in
theorem sm_paysFor {g : GG} {n : Int} {L : Int32} (hy : Ly g)  {I : pI} {J : pJ} {R : pR} (hr : Rf g R) (hI : MP g n L I) (so : Int32) (da : Int32) (ac : Int32) (so_lo : 0 ≤ so.toInt) (so_hi : so.toInt ≤ 3) (da_lo : 0 ≤ da.toInt) (da_hi : da.toInt ≤ 6) (ac_lo : 0 ≤ ac.toInt) (ac_hi : ac.toInt ≤ 47) : SP g mX11_paysFor [.ref (ad g 0), .int so, .int da, .int ac] I J R (fun r I' J' R' => (I' = I ∧ J' = J ∧ R' = R) ∧ ∃ v : Int32, r = some (.int v) ∧ 0 ≤ v.toInt ∧ v.toInt ≤ 120) := by
  refine SP_of ⟨by decide, rfl⟩ (Nat.le_of_ble_eq_true rfl) ?_
  have e2284 : I (ad g 0) 1 = L := hI.1.2
  have b2285 := BT_get hI.1.1 0 1 2 (0) (0) (900) (by decide) 1 (by decide) (by decide)
  rw [e2284] at b2285
  refine WP_iload_n dX11_paysFor_0 rfl ?_
  refine WQ_iconst (4) (4) dX11_paysFor_1 rfl rfl (fun v2286 hv2286 => ?_)
  refine WQ_iremk (4) dX11_paysFor_2 hv2286 (by decide) (by omega) (fun v2287 hv2287 => ?_)
  refine WP_aload_n dX11_paysFor_3 rfl ?_
  refine WP_aload_n dX11_paysFor_4 rfl ?_
  refine WP_getr dX11_paysFor_5 fX11_261 rfl (ly_is hy 0 11 rfl) (rf hr 0 42 24 (by decide)) ?_
  refine WQ_bipush (7) (7) dX11_paysFor_8 rfl rfl (fun v2288 hv2288 => ?_)
  refine WP_iload_n dX11_paysFor_10 rfl ?_
  refine WQ_imulK (7) dX11_paysFor_11 hv2288 (by omega) (by omega) (fun v2289 hv2289 => ?_)
  refine WP_iload_n dX11_paysFor_12 rfl ?_
  refine WQ_iadd dX11_paysFor_13 (by omega) (by omega) (fun v2290 hv2290 => ?_)
  refine WQ_iald dX11_paysFor_14 (ly_is hy 24 13 rfl) (ly_n hy 24 28 rfl) (by omega) (by omega) (fun q hq => BT_get hI.1.1 24 0 28 (-1) (0) (2) (by decide) q (Nat.zero_le _) hq) (fun v2291 av2291 bv2291 ev2291 => ?_)
  clear ev2291
  refine WP_iload_n dX11_paysFor_15 rfl ?_
  refine WP_callV2 (k := 11) dX11_paysFor_16 ⟨⟨⟨by decide, by decide⟩, zX11_costAt⟩, lX11_402, by decide, rfl, vX11_costAt.1, vX11_costAt.2⟩ (ly_is hy 0 11 rfl) (sm_costAt hy hr hI v2291 da (by omega) (by omega) (by omega) (by omega)) (Nat.le_of_ble_eq_true rfl) ?_
  intro r Ia Ja Ra hq
  obtain ⟨⟨ea, eb, ec⟩, v2292, rfl, av2292, bv2292⟩ := hq
  show WP _ _ _ _ (.int _ :: _) _ _ _ _
  rw [ea, eb, ec]
  clear ea eb ec Ia Ja Ra
  refine WQ_imulb (3) (20) dX11_paysFor_19 ⟨by omega, by omega⟩ ⟨by omega, by omega⟩ (by decide) (fun v2293 pv2293 av2293 bv2293 cv2293 => ?_)
  refine WP_iload_n dX11_paysFor_20 rfl ?_
  refine WQ_bipush (16) (16) dX11_paysFor_21 rfl rfl (fun v2294 hv2294 => ?_)
  refine WQ_idivk (16) dX11_paysFor_23 hv2294 (by decide) (by omega) (fun v2295 hv2295 => ?_)
  refine WP_aload_n dX11_paysFor_24 rfl ?_
  refine WP_aload_n dX11_paysFor_25 rfl ?_
  refine WQ_geti dX11_paysFor_26 fX11_224 rfl (ly_is hy 0 11 rfl) (BT_get hI.1.1 0 14 15 (-1) (0) (2) (by decide) 14 (by decide) (by decide)) (fun v2296 ev2296 av2296 bv2296 => ?_)
  refine WP_iload_n dX11_paysFor_29 rfl ?_
  refine WP_callV2 (k := 11) dX11_paysFor_30 ⟨⟨⟨by decide, by decide⟩, zX11_costAt⟩, lX11_402, by decide, rfl, vX11_costAt.1, vX11_costAt.2⟩ (ly_is hy 0 11 rfl) (sm_costAt hy hr hI v2296 da (by omega) (by omega) (by omega) (by omega)) (Nat.le_of_ble_eq_true rfl) ?_
  intro r Ia Ja Ra hq
  obtain ⟨⟨ea, eb, ec⟩, v2297, rfl, av2297, bv2297⟩ := hq
  show WP _ _ _ _ (.int _ :: _) _ _ _ _
  rw [ea, eb, ec]
  clear ea eb ec Ia Ja Ra
  refine WQ_imulb (2) (20) dX11_paysFor_33 ⟨by omega, by omega⟩ ⟨by omega, by omega⟩ (by decide) (fun v2298 pv2298 av2298 bv2298 cv2298 => ?_)
  refine WQ_iadd dX11_paysFor_34 (by omega) (by omega) (fun v2299 hv2299 => ?_)
  exact WP_iret dX11_paysFor_35 rfl ⟨⟨rfl, rfl, rfl⟩, _, rfl, by omega, by omega⟩
set_option maxHeartbeats 4000000 in
set_option maxRecDepth 100000 in
theorem sm_mayDo {g : GG} {n : Int} {L : Int32} (hy : Ly g)  {I : pI} {J : pJ} {R : pR} (hr : Rf g R) (hI : MP g n L I) (so : Int32) (da : Int32) (co : Int32) (st : Int32) (ac : Int32) (so_lo : 0 ≤ so.toInt) (so_hi : so.toInt ≤ 3) (da_lo : 0 ≤ da.toInt) (da_hi : da.toInt ≤ 6) (co_lo : 0 ≤ co.toInt) (co_hi : co.toInt ≤ 60) (st_lo : 0 ≤ st.toInt) (st_hi : st.toInt ≤ 5) (ac_lo : 0 ≤ ac.toInt) (ac_hi : ac.toInt ≤ 47) : SP g mX11_mayDo [.ref (ad g 0), .int so, .int da, .int co, .int st, .int ac] I J R (fun r I' J' R' => (I' = I ∧ J' = J ∧ R' = R) ∧ ∃ v : Int32, r = some (.int v) ∧ 0 ≤ v.toInt ∧ v.toInt ≤ 1) := by
  refine SP_of ⟨by decide, rfl⟩ (Nat.le_of_ble_eq_true rfl) ?_
  have e2300 : I (ad g 0) 1 = L := hI.1.2
  have b2301 := BT_get hI.1.1 0 1 2 (0) (0) (900) (by decide) 1 (by decide) (by decide)
  rw [e2300] at b2301
  refine WP_iload dX11_mayDo_0 rfl ?_
  refine WQ_iconst (4) (4) dX11_mayDo_2 rfl rfl (fun v2302 hv2302 => ?_)
  refine WQ_iremk (4) dX11_mayDo_3 hv2302 (by decide) (by omega) (fun v2303 hv2303 => ?_)
  refine WP_istore (ls' := [(0, _), (1, _), (2, _), (3, _), (4, _), (5, _), (6, _)]) dX11_mayDo_4 (by decide) rfl ?_
  refine WP_iload dX11_mayDo_6 rfl ?_
  refine WQ_iconst (4) (4) dX11_mayDo_8 rfl rfl (fun v2304 hv2304 => ?_)
  refine WQ_idivk (4) dX11_mayDo_9 hv2304 (by decide) (by omega) (fun v2305 hv2305 => ?_)
  refine WQ_iconst (4) (4) dX11_mayDo_10 rfl rfl (fun v2306 hv2306 => ?_)
  refine WQ_iremk (4) dX11_mayDo_11 hv2306 (by decide) (by omega) (fun v2307 hv2307 => ?_)
  refine WP_istore (ls' := [(0, _), (1, _), (2, _), (3, _), (4, _), (5, _), (6, _), (7, _)]) dX11_mayDo_12 (by decide) rfl ?_
  refine WP_iload dX11_mayDo_14 rfl ?_
  refine WQ_bipush (16) (16) dX11_mayDo_16 rfl rfl (fun v2308 hv2308 => ?_)
  refine WQ_idivk (16) dX11_mayDo_18 hv2308 (by decide) (by omega) (fun v2309 hv2309 => ?_)
  refine WP_istore (ls' := [(0, _), (1, _), (2, _), (3, _), (4, _), (5, _), (6, _), (7, _), (8, _)]) dX11_mayDo_19 (by decide) rfl ?_
  refine WQ_bipush (7) (7) dX11_mayDo_21 rfl rfl (fun v2310 hv2310 => ?_)
  refine WP_iload_n dX11_mayDo_23 rfl ?_
  refine WQ_imulK (7) dX11_mayDo_24 hv2310 (by omega) (by omega) (fun v2311 hv2311 => ?_)
  refine WP_iload_n dX11_mayDo_25 rfl ?_
  refine WQ_iadd dX11_mayDo_26 (by omega) (by omega) (fun v2312 hv2312 => ?_)
  refine WP_istore (ls' := [(0, _), (1, _), (2, _), (3, _), (4, _), (5, _), (6, _), (7, _), (8, _), (9, _)]) dX11_mayDo_27 (by decide) rfl ?_
  refine WP_iload dX11_mayDo_29 rfl ?_
  refine WP_iload dX11_mayDo_31 rfl ?_
  refine WQ_iadd dX11_mayDo_33 (by omega) (by omega) (fun v2313 hv2313 => ?_)
  refine WP_aload_n dX11_mayDo_34 rfl ?_
  refine WP_getr dX11_mayDo_35 fX11_264 rfl (ly_is hy 0 11 rfl) (rf hr 0 43 25 (by decide)) ?_
  refine WP_iload dX11_mayDo_38 rfl ?_
  refine WQ_iald dX11_mayDo_40 (ly_is hy 25 13 rfl) (ly_n hy 25 28 rfl) (by omega) (by omega) (fun q hq => BT_get hI.1.1 25 0 28 (0) (0) (3) (by decide) q (Nat.zero_le _) hq) (fun v2314 av2314 bv2314 ev2314 => ?_)
  clear ev2314
  refine WQ_icmp_gt 63 dX11_mayDo_41 rfl (fun c2314 => ?_) (fun c2314 => ?_)
  · refine WQ_iconst (0) (0) dX11_mayDo_63 rfl rfl (fun v2316 hv2316 => ?_)
    exact WP_zret dX11_mayDo_64 rfl (nar_z (by omega)) ⟨⟨rfl, rfl, rfl⟩, _, rfl, by omega, by omega⟩
  · refine WP_iload dX11_mayDo_44 rfl ?_
    refine WP_iload dX11_mayDo_46 rfl ?_
    refine WQ_icmp_gt 63 dX11_mayDo_48 rfl (fun c2316 => ?_) (fun c2316 => ?_)
    · refine WQ_iconst (0) (0) dX11_mayDo_63 rfl rfl (fun v2318 hv2318 => ?_)
      exact WP_zret dX11_mayDo_64 rfl (nar_z (by omega)) ⟨⟨rfl, rfl, rfl⟩, _, rfl, by omega, by omega⟩
    · refine WP_iload dX11_mayDo_51 rfl ?_
      refine WP_iload dX11_mayDo_53 rfl ?_
      refine WQ_isub dX11_mayDo_55 (by omega) (by omega) (fun v2319 hv2319 => ?_)
      refine WP_iload dX11_mayDo_56 rfl ?_
      refine WQ_iadd dX11_mayDo_58 (by omega) (by omega) (fun v2320 hv2320 => ?_)
      refine WQ_iconst (5) (5) dX11_mayDo_59 rfl rfl (fun v2321 hv2321 => ?_)
      refine WQ_icmp_le 65 dX11_mayDo_60 rfl (fun c2321 => ?_) (fun c2321 => ?_)
      · refine WP_iload dX11_mayDo_65 rfl ?_
        refine WQ_if_le 84 dX11_mayDo_67 rfl (fun c2322 => ?_) (fun c2322 => ?_)
        · refine WP_iload dX11_mayDo_84 rfl ?_
          refine WQ_if_le 99 dX11_mayDo_86 rfl (fun c2323 => ?_) (fun c2323 => ?_)
          · refine WP_aload_n dX11_mayDo_99 rfl ?_
            refine WP_getr dX11_mayDo_100 fX11_244 rfl (ly_is hy 0 11 rfl) (rf hr 0 29 11 (by decide)) ?_
            refine WP_iload_n dX11_mayDo_103 rfl ?_
            refine WQ_iald dX11_mayDo_104 (ly_is hy 11 13 rfl) (ly_n hy 11 4 rfl) (by omega) (by omega) (fun q hq => BT_get hI.1.1 11 0 4 (0) (0) (127) (by decide) q (Nat.zero_le _) hq) (fun v2325 av2325 bv2325 ev2325 => ?_)
            clear ev2325
            refine WP_iload_n dX11_mayDo_105 rfl ?_
            refine WQ_ishru dX11_mayDo_106 (fun v2326 => ?_)
            refine WQ_iconst (1) (1) dX11_mayDo_107 rfl rfl (fun v2327 hv2327 => ?_)
            refine WQ_iandu dX11_mayDo_108 (fun v2328 => ?_)
            refine WQ_iconst (1) (1) dX11_mayDo_109 rfl rfl (fun v2329 hv2329 => ?_)
            refine WX_icmp_ne 123 dX11_mayDo_110 rfl ?_ ?_
            · refine WP_aload_n dX11_mayDo_123 rfl ?_
              refine WP_iload_n dX11_mayDo_124 rfl ?_
              refine WP_iload_n dX11_mayDo_125 rfl ?_
              refine WP_iload dX11_mayDo_126 rfl ?_
              refine WP_callV3 (k := 11) dX11_mayDo_128 ⟨⟨⟨by decide, by decide⟩, zX11_paysFor⟩, lX11_405, by decide, rfl, vX11_paysFor.1, vX11_paysFor.2⟩ (ly_is hy 0 11 rfl) (sm_paysFor hy hr hI so da ac (by omega) (by omega) (by omega) (by omega) (by omega) (by omega)) (Nat.le_of_ble_eq_true rfl) ?_
              intro r Ia Ja Ra hq
              obtain ⟨⟨ea, eb, ec⟩, v2330, rfl, av2330, bv2330⟩ := hq
              show WP _ _ _ _ (.int _ :: _) _ _ _ _
              rw [ea, eb, ec]
              clear ea eb ec Ia Ja Ra
              refine WP_iload_n dX11_mayDo_131 rfl ?_
              have jn140_2333 : ∀ (v2333 : Int32), 0 ≤ v2333.toInt → v2333.toInt ≤ 1 → WP g mX11_mayDo 140 [(0, .ref (ad g 0)), (1, .int so), (2, .int da), (3, .int co), (4, .int st), (5, .int ac), (6, .int v2303), (7, .int v2307), (8, .int v2309), (9, .int v2312)] [.int v2333] I J R (fun r I' J' R' => (I' = I ∧ J' = J ∧ R' = R) ∧ ∃ v : Int32, r = some (.int v) ∧ 0 ≤ v.toInt ∧ v.toInt ≤ 1) := by
                intro v2333 av2333 bv2333
                exact WP_zret dX11_mayDo_140 rfl (nar_z (by omega)) ⟨⟨rfl, rfl, rfl⟩, _, rfl, by omega, by omega⟩
              refine WQ_icmp_gt 139 dX11_mayDo_132 rfl (fun c2334 => ?_) (fun c2334 => ?_)
              · refine WQ_iconst (0) (0) dX11_mayDo_139 rfl rfl (fun v2336 hv2336 => ?_)
                exact WP_sub (fc rfl (fc rfl (fc rfl (fc rfl (fc rfl (fc rfl (fc rfl (fc rfl (fc rfl (fc rfl fn)))))))))) (jn140_2333 v2336 (by omega) (by omega))
              · refine WQ_iconst (1) (1) dX11_mayDo_135 rfl rfl (fun v2337 hv2337 => ?_)
                refine WP_goto 140 dX11_mayDo_136 rfl ?_
                exact WP_sub (fc rfl (fc rfl (fc rfl (fc rfl (fc rfl (fc rfl (fc rfl (fc rfl (fc rfl (fc rfl fn)))))))))) (jn140_2333 v2337 (by omega) (by omega))
            · refine WP_iload dX11_mayDo_113 rfl ?_
              refine WP_iload dX11_mayDo_115 rfl ?_
              refine WQ_iadd dX11_mayDo_117 (by omega) (by omega) (fun v2338 hv2338 => ?_)
              refine WQ_if_le 123 dX11_mayDo_118 rfl (fun c2338 => ?_) (fun c2338 => ?_)
              · refine WP_aload_n dX11_mayDo_123 rfl ?_
                refine WP_iload_n dX11_mayDo_124 rfl ?_
                refine WP_iload_n dX11_mayDo_125 rfl ?_
                refine WP_iload dX11_mayDo_126 rfl ?_
                refine WP_callV3 (k := 11) dX11_mayDo_128 ⟨⟨⟨by decide, by decide⟩, zX11_paysFor⟩, lX11_405, by decide, rfl, vX11_paysFor.1, vX11_paysFor.2⟩ (ly_is hy 0 11 rfl) (sm_paysFor hy hr hI so da ac (by omega) (by omega) (by omega) (by omega) (by omega) (by omega)) (Nat.le_of_ble_eq_true rfl) ?_
                intro r Ia Ja Ra hq
                obtain ⟨⟨ea, eb, ec⟩, v2340, rfl, av2340, bv2340⟩ := hq
                show WP _ _ _ _ (.int _ :: _) _ _ _ _
                rw [ea, eb, ec]
                clear ea eb ec Ia Ja Ra
                refine WP_iload_n dX11_mayDo_131 rfl ?_
                have jn140_2343 : ∀ (v2343 : Int32), 0 ≤ v2343.toInt → v2343.toInt ≤ 1 → WP g mX11_mayDo 140 [(0, .ref (ad g 0)), (1, .int so), (2, .int da), (3, .int co), (4, .int st), (5, .int ac), (6, .int v2303), (7, .int v2307), (8, .int v2309), (9, .int v2312)] [.int v2343] I J R (fun r I' J' R' => (I' = I ∧ J' = J ∧ R' = R) ∧ ∃ v : Int32, r = some (.int v) ∧ 0 ≤ v.toInt ∧ v.toInt ≤ 1) := by
                  intro v2343 av2343 bv2343
                  exact WP_zret dX11_mayDo_140 rfl (nar_z (by omega)) ⟨⟨rfl, rfl, rfl⟩, _, rfl, by omega, by omega⟩
                refine WQ_icmp_gt 139 dX11_mayDo_132 rfl (fun c2344 => ?_) (fun c2344 => ?_)
                · refine WQ_iconst (0) (0) dX11_mayDo_139 rfl rfl (fun v2346 hv2346 => ?_)
                  exact WP_sub (fc rfl (fc rfl (fc rfl (fc rfl (fc rfl (fc rfl (fc rfl (fc rfl (fc rfl (fc rfl fn)))))))))) (jn140_2343 v2346 (by omega) (by omega))
                · refine WQ_iconst (1) (1) dX11_mayDo_135 rfl rfl (fun v2347 hv2347 => ?_)
                  refine WP_goto 140 dX11_mayDo_136 rfl ?_
                  exact WP_sub (fc rfl (fc rfl (fc rfl (fc rfl (fc rfl (fc rfl (fc rfl (fc rfl (fc rfl (fc rfl fn)))))))))) (jn140_2343 v2347 (by omega) (by omega))
              · refine WQ_iconst (0) (0) dX11_mayDo_121 rfl rfl (fun v2348 hv2348 => ?_)
                exact WP_zret dX11_mayDo_122 rfl (nar_z (by omega)) ⟨⟨rfl, rfl, rfl⟩, _, rfl, by omega, by omega⟩
          · refine WP_aload_n dX11_mayDo_89 rfl ?_
            refine WQ_geti dX11_mayDo_90 fX11_224 rfl (ly_is hy 0 11 rfl) (BT_get hI.1.1 0 14 15 (-1) (0) (2) (by decide) 14 (by decide) (by decide)) (fun v2349 ev2349 av2349 bv2349 => ?_)
            refine WQ_iconst (-1) (-1) dX11_mayDo_93 rfl rfl (fun v2350 hv2350 => ?_)
            refine WQ_icmp_ne 99 dX11_mayDo_94 rfl (fun c2350 => ?_) (fun c2350 => ?_)
            · refine WP_aload_n dX11_mayDo_99 rfl ?_
              refine WP_getr dX11_mayDo_100 fX11_244 rfl (ly_is hy 0 11 rfl) (rf hr 0 29 11 (by decide)) ?_
              refine WP_iload_n dX11_mayDo_103 rfl ?_
              refine WQ_iald dX11_mayDo_104 (ly_is hy 11 13 rfl) (ly_n hy 11 4 rfl) (by omega) (by omega) (fun q hq => BT_get hI.1.1 11 0 4 (0) (0) (127) (by decide) q (Nat.zero_le _) hq) (fun v2352 av2352 bv2352 ev2352 => ?_)
              clear ev2352
              refine WP_iload_n dX11_mayDo_105 rfl ?_
              refine WQ_ishru dX11_mayDo_106 (fun v2353 => ?_)
              refine WQ_iconst (1) (1) dX11_mayDo_107 rfl rfl (fun v2354 hv2354 => ?_)
              refine WQ_iandu dX11_mayDo_108 (fun v2355 => ?_)
              refine WQ_iconst (1) (1) dX11_mayDo_109 rfl rfl (fun v2356 hv2356 => ?_)
              refine WX_icmp_ne 123 dX11_mayDo_110 rfl ?_ ?_
              · refine WP_aload_n dX11_mayDo_123 rfl ?_
                refine WP_iload_n dX11_mayDo_124 rfl ?_
                refine WP_iload_n dX11_mayDo_125 rfl ?_
                refine WP_iload dX11_mayDo_126 rfl ?_
                refine WP_callV3 (k := 11) dX11_mayDo_128 ⟨⟨⟨by decide, by decide⟩, zX11_paysFor⟩, lX11_405, by decide, rfl, vX11_paysFor.1, vX11_paysFor.2⟩ (ly_is hy 0 11 rfl) (sm_paysFor hy hr hI so da ac (by omega) (by omega) (by omega) (by omega) (by omega) (by omega)) (Nat.le_of_ble_eq_true rfl) ?_
                intro r Ia Ja Ra hq
                obtain ⟨⟨ea, eb, ec⟩, v2357, rfl, av2357, bv2357⟩ := hq
                show WP _ _ _ _ (.int _ :: _) _ _ _ _
                rw [ea, eb, ec]
                clear ea eb ec Ia Ja Ra
                refine WP_iload_n dX11_mayDo_131 rfl ?_
                have jn140_2360 : ∀ (v2360 : Int32), 0 ≤ v2360.toInt → v2360.toInt ≤ 1 → WP g mX11_mayDo 140 [(0, .ref (ad g 0)), (1, .int so), (2, .int da), (3, .int co), (4, .int st), (5, .int ac), (6, .int v2303), (7, .int v2307), (8, .int v2309), (9, .int v2312)] [.int v2360] I J R (fun r I' J' R' => (I' = I ∧ J' = J ∧ R' = R) ∧ ∃ v : Int32, r = some (.int v) ∧ 0 ≤ v.toInt ∧ v.toInt ≤ 1) := by
                  intro v2360 av2360 bv2360
                  exact WP_zret dX11_mayDo_140 rfl (nar_z (by omega)) ⟨⟨rfl, rfl, rfl⟩, _, rfl, by omega, by omega⟩
                refine WQ_icmp_gt 139 dX11_mayDo_132 rfl (fun c2361 => ?_) (fun c2361 => ?_)
                · refine WQ_iconst (0) (0) dX11_mayDo_139 rfl rfl (fun v2363 hv2363 => ?_)
                  exact WP_sub (fc rfl (fc rfl (fc rfl (fc rfl (fc rfl (fc rfl (fc rfl (fc rfl (fc rfl (fc rfl fn)))))))))) (jn140_2360 v2363 (by omega) (by omega))
                · refine WQ_iconst (1) (1) dX11_mayDo_135 rfl rfl (fun v2364 hv2364 => ?_)
                  refine WP_goto 140 dX11_mayDo_136 rfl ?_
                  exact WP_sub (fc rfl (fc rfl (fc rfl (fc rfl (fc rfl (fc rfl (fc rfl (fc rfl (fc rfl (fc rfl fn)))))))))) (jn140_2360 v2364 (by omega) (by omega))
              · refine WP_iload dX11_mayDo_113 rfl ?_
                refine WP_iload dX11_mayDo_115 rfl ?_
                refine WQ_iadd dX11_mayDo_117 (by omega) (by omega) (fun v2365 hv2365 => ?_)
                refine WQ_if_le 123 dX11_mayDo_118 rfl (fun c2365 => False.elim (by omega)) (fun c2365 => ?_)
                refine WQ_iconst (0) (0) dX11_mayDo_121 rfl rfl (fun v2367 hv2367 => ?_)
                exact WP_zret dX11_mayDo_122 rfl (nar_z (by omega)) ⟨⟨rfl, rfl, rfl⟩, _, rfl, by omega, by omega⟩
            · refine WQ_iconst (0) (0) dX11_mayDo_97 rfl rfl (fun v2368 hv2368 => ?_)
              exact WP_zret dX11_mayDo_98 rfl (nar_z (by omega)) ⟨⟨rfl, rfl, rfl⟩, _, rfl, by omega, by omega⟩
        · refine WP_aload_n dX11_mayDo_70 rfl ?_
          refine WP_getr dX11_mayDo_71 fX11_261 rfl (ly_is hy 0 11 rfl) (rf hr 0 42 24 (by decide)) ?_
          refine WP_iload dX11_mayDo_74 rfl ?_
          refine WQ_iald dX11_mayDo_76 (ly_is hy 24 13 rfl) (ly_n hy 24 28 rfl) (by omega) (by omega) (fun q hq => BT_get hI.1.1 24 0 28 (-1) (0) (2) (by decide) q (Nat.zero_le _) hq) (fun v2369 av2369 bv2369 ev2369 => ?_)
          clear ev2369
          refine WP_aload_n dX11_mayDo_77 rfl ?_
          refine WQ_geti dX11_mayDo_78 fX11_224 rfl (ly_is hy 0 11 rfl) (BT_get hI.1.1 0 14 15 (-1) (0) (2) (by decide) 14 (by decide) (by decide)) (fun v2370 ev2370 av2370 bv2370 => ?_)
          refine WQ_icmp_ne 97 dX11_mayDo_81 rfl (fun c2370 => ?_) (fun c2370 => ?_)
          · refine WQ_iconst (0) (0) dX11_mayDo_97 rfl rfl (fun v2372 hv2372 => ?_)
            exact WP_zret dX11_mayDo_98 rfl (nar_z (by omega)) ⟨⟨rfl, rfl, rfl⟩, _, rfl, by omega, by omega⟩
          · refine WP_iload dX11_mayDo_84 rfl ?_
            refine WQ_if_le 99 dX11_mayDo_86 rfl (fun c2372 => ?_) (fun c2372 => ?_)
            · refine WP_aload_n dX11_mayDo_99 rfl ?_
              refine WP_getr dX11_mayDo_100 fX11_244 rfl (ly_is hy 0 11 rfl) (rf hr 0 29 11 (by decide)) ?_
              refine WP_iload_n dX11_mayDo_103 rfl ?_
              refine WQ_iald dX11_mayDo_104 (ly_is hy 11 13 rfl) (ly_n hy 11 4 rfl) (by omega) (by omega) (fun q hq => BT_get hI.1.1 11 0 4 (0) (0) (127) (by decide) q (Nat.zero_le _) hq) (fun v2374 av2374 bv2374 ev2374 => ?_)
              clear ev2374
              refine WP_iload_n dX11_mayDo_105 rfl ?_
              refine WQ_ishru dX11_mayDo_106 (fun v2375 => ?_)
              refine WQ_iconst (1) (1) dX11_mayDo_107 rfl rfl (fun v2376 hv2376 => ?_)
              refine WQ_iandu dX11_mayDo_108 (fun v2377 => ?_)
              refine WQ_iconst (1) (1) dX11_mayDo_109 rfl rfl (fun v2378 hv2378 => ?_)
              refine WX_icmp_ne 123 dX11_mayDo_110 rfl ?_ ?_
              · refine WP_aload_n dX11_mayDo_123 rfl ?_
                refine WP_iload_n dX11_mayDo_124 rfl ?_
                refine WP_iload_n dX11_mayDo_125 rfl ?_
                refine WP_iload dX11_mayDo_126 rfl ?_
                refine WP_callV3 (k := 11) dX11_mayDo_128 ⟨⟨⟨by decide, by decide⟩, zX11_paysFor⟩, lX11_405, by decide, rfl, vX11_paysFor.1, vX11_paysFor.2⟩ (ly_is hy 0 11 rfl) (sm_paysFor hy hr hI so da ac (by omega) (by omega) (by omega) (by omega) (by omega) (by omega)) (Nat.le_of_ble_eq_true rfl) ?_
                intro r Ia Ja Ra hq
                obtain ⟨⟨ea, eb, ec⟩, v2379, rfl, av2379, bv2379⟩ := hq
                show WP _ _ _ _ (.int _ :: _) _ _ _ _
                rw [ea, eb, ec]
                clear ea eb ec Ia Ja Ra
                refine WP_iload_n dX11_mayDo_131 rfl ?_
                have jn140_2382 : ∀ (v2382 : Int32), 0 ≤ v2382.toInt → v2382.toInt ≤ 1 → WP g mX11_mayDo 140 [(0, .ref (ad g 0)), (1, .int so), (2, .int da), (3, .int co), (4, .int st), (5, .int ac), (6, .int v2303), (7, .int v2307), (8, .int v2309), (9, .int v2312)] [.int v2382] I J R (fun r I' J' R' => (I' = I ∧ J' = J ∧ R' = R) ∧ ∃ v : Int32, r = some (.int v) ∧ 0 ≤ v.toInt ∧ v.toInt ≤ 1) := by
                  intro v2382 av2382 bv2382
                  exact WP_zret dX11_mayDo_140 rfl (nar_z (by omega)) ⟨⟨rfl, rfl, rfl⟩, _, rfl, by omega, by omega⟩
                refine WQ_icmp_gt 139 dX11_mayDo_132 rfl (fun c2383 => ?_) (fun c2383 => ?_)
                · refine WQ_iconst (0) (0) dX11_mayDo_139 rfl rfl (fun v2385 hv2385 => ?_)
                  exact WP_sub (fc rfl (fc rfl (fc rfl (fc rfl (fc rfl (fc rfl (fc rfl (fc rfl (fc rfl (fc rfl fn)))))))))) (jn140_2382 v2385 (by omega) (by omega))
                · refine WQ_iconst (1) (1) dX11_mayDo_135 rfl rfl (fun v2386 hv2386 => ?_)
                  refine WP_goto 140 dX11_mayDo_136 rfl ?_
                  exact WP_sub (fc rfl (fc rfl (fc rfl (fc rfl (fc rfl (fc rfl (fc rfl (fc rfl (fc rfl (fc rfl fn)))))))))) (jn140_2382 v2386 (by omega) (by omega))
              · refine WP_iload dX11_mayDo_113 rfl ?_
                refine WP_iload dX11_mayDo_115 rfl ?_
                refine WQ_iadd dX11_mayDo_117 (by omega) (by omega) (fun v2387 hv2387 => ?_)
                refine WQ_if_le 123 dX11_mayDo_118 rfl (fun c2387 => ?_) (fun c2387 => ?_)
                · refine WP_aload_n dX11_mayDo_123 rfl ?_
                  refine WP_iload_n dX11_mayDo_124 rfl ?_
                  refine WP_iload_n dX11_mayDo_125 rfl ?_
                  refine WP_iload dX11_mayDo_126 rfl ?_
                  refine WP_callV3 (k := 11) dX11_mayDo_128 ⟨⟨⟨by decide, by decide⟩, zX11_paysFor⟩, lX11_405, by decide, rfl, vX11_paysFor.1, vX11_paysFor.2⟩ (ly_is hy 0 11 rfl) (sm_paysFor hy hr hI so da ac (by omega) (by omega) (by omega) (by omega) (by omega) (by omega)) (Nat.le_of_ble_eq_true rfl) ?_
                  intro r Ia Ja Ra hq
                  obtain ⟨⟨ea, eb, ec⟩, v2389, rfl, av2389, bv2389⟩ := hq
                  show WP _ _ _ _ (.int _ :: _) _ _ _ _
                  rw [ea, eb, ec]
                  clear ea eb ec Ia Ja Ra
                  refine WP_iload_n dX11_mayDo_131 rfl ?_
                  have jn140_2392 : ∀ (v2392 : Int32), 0 ≤ v2392.toInt → v2392.toInt ≤ 1 → WP g mX11_mayDo 140 [(0, .ref (ad g 0)), (1, .int so), (2, .int da), (3, .int co), (4, .int st), (5, .int ac), (6, .int v2303), (7, .int v2307), (8, .int v2309), (9, .int v2312)] [.int v2392] I J R (fun r I' J' R' => (I' = I ∧ J' = J ∧ R' = R) ∧ ∃ v : Int32, r = some (.int v) ∧ 0 ≤ v.toInt ∧ v.toInt ≤ 1) := by
                    intro v2392 av2392 bv2392
                    exact WP_zret dX11_mayDo_140 rfl (nar_z (by omega)) ⟨⟨rfl, rfl, rfl⟩, _, rfl, by omega, by omega⟩
                  refine WQ_icmp_gt 139 dX11_mayDo_132 rfl (fun c2393 => ?_) (fun c2393 => ?_)
                  · refine WQ_iconst (0) (0) dX11_mayDo_139 rfl rfl (fun v2395 hv2395 => ?_)
                    exact WP_sub (fc rfl (fc rfl (fc rfl (fc rfl (fc rfl (fc rfl (fc rfl (fc rfl (fc rfl (fc rfl fn)))))))))) (jn140_2392 v2395 (by omega) (by omega))
                  · refine WQ_iconst (1) (1) dX11_mayDo_135 rfl rfl (fun v2396 hv2396 => ?_)
                    refine WP_goto 140 dX11_mayDo_136 rfl ?_
                    exact WP_sub (fc rfl (fc rfl (fc rfl (fc rfl (fc rfl (fc rfl (fc rfl (fc rfl (fc rfl (fc rfl fn)))))))))) (jn140_2392 v2396 (by omega) (by omega))
                · refine WQ_iconst (0) (0) dX11_mayDo_121 rfl rfl (fun v2397 hv2397 => ?_)
                  exact WP_zret dX11_mayDo_122 rfl (nar_z (by omega)) ⟨⟨rfl, rfl, rfl⟩, _, rfl, by omega, by omega⟩
            · refine WP_aload_n dX11_mayDo_89 rfl ?_
              refine WQ_getim dX11_mayDo_90 fX11_224 rfl (ly_is hy 0 11 rfl) ev2370 ?_
              refine WQ_iconst (-1) (-1) dX11_mayDo_93 rfl rfl (fun v2398 hv2398 => ?_)
              refine WQ_icmp_ne 99 dX11_mayDo_94 rfl (fun c2398 => ?_) (fun c2398 => ?_)
              · refine WP_aload_n dX11_mayDo_99 rfl ?_
                refine WP_getr dX11_mayDo_100 fX11_244 rfl (ly_is hy 0 11 rfl) (rf hr 0 29 11 (by decide)) ?_
                refine WP_iload_n dX11_mayDo_103 rfl ?_
                refine WQ_iald dX11_mayDo_104 (ly_is hy 11 13 rfl) (ly_n hy 11 4 rfl) (by omega) (by omega) (fun q hq => BT_get hI.1.1 11 0 4 (0) (0) (127) (by decide) q (Nat.zero_le _) hq) (fun v2400 av2400 bv2400 ev2400 => ?_)
                clear ev2400
                refine WP_iload_n dX11_mayDo_105 rfl ?_
                refine WQ_ishru dX11_mayDo_106 (fun v2401 => ?_)
                refine WQ_iconst (1) (1) dX11_mayDo_107 rfl rfl (fun v2402 hv2402 => ?_)
                refine WQ_iandu dX11_mayDo_108 (fun v2403 => ?_)
                refine WQ_iconst (1) (1) dX11_mayDo_109 rfl rfl (fun v2404 hv2404 => ?_)
                refine WX_icmp_ne 123 dX11_mayDo_110 rfl ?_ ?_
                · refine WP_aload_n dX11_mayDo_123 rfl ?_
                  refine WP_iload_n dX11_mayDo_124 rfl ?_
                  refine WP_iload_n dX11_mayDo_125 rfl ?_
                  refine WP_iload dX11_mayDo_126 rfl ?_
                  refine WP_callV3 (k := 11) dX11_mayDo_128 ⟨⟨⟨by decide, by decide⟩, zX11_paysFor⟩, lX11_405, by decide, rfl, vX11_paysFor.1, vX11_paysFor.2⟩ (ly_is hy 0 11 rfl) (sm_paysFor hy hr hI so da ac (by omega) (by omega) (by omega) (by omega) (by omega) (by omega)) (Nat.le_of_ble_eq_true rfl) ?_
                  intro r Ia Ja Ra hq
                  obtain ⟨⟨ea, eb, ec⟩, v2405, rfl, av2405, bv2405⟩ := hq
                  show WP _ _ _ _ (.int _ :: _) _ _ _ _
                  rw [ea, eb, ec]
                  clear ea eb ec Ia Ja Ra
                  refine WP_iload_n dX11_mayDo_131 rfl ?_
                  have jn140_2408 : ∀ (v2408 : Int32), 0 ≤ v2408.toInt → v2408.toInt ≤ 1 → WP g mX11_mayDo 140 [(0, .ref (ad g 0)), (1, .int so), (2, .int da), (3, .int co), (4, .int st), (5, .int ac), (6, .int v2303), (7, .int v2307), (8, .int v2309), (9, .int v2312)] [.int v2408] I J R (fun r I' J' R' => (I' = I ∧ J' = J ∧ R' = R) ∧ ∃ v : Int32, r = some (.int v) ∧ 0 ≤ v.toInt ∧ v.toInt ≤ 1) := by
                    intro v2408 av2408 bv2408
                    exact WP_zret dX11_mayDo_140 rfl (nar_z (by omega)) ⟨⟨rfl, rfl, rfl⟩, _, rfl, by omega, by omega⟩
                  refine WQ_icmp_gt 139 dX11_mayDo_132 rfl (fun c2409 => ?_) (fun c2409 => ?_)
                  · refine WQ_iconst (0) (0) dX11_mayDo_139 rfl rfl (fun v2411 hv2411 => ?_)
                    exact WP_sub (fc rfl (fc rfl (fc rfl (fc rfl (fc rfl (fc rfl (fc rfl (fc rfl (fc rfl (fc rfl fn)))))))))) (jn140_2408 v2411 (by omega) (by omega))
                  · refine WQ_iconst (1) (1) dX11_mayDo_135 rfl rfl (fun v2412 hv2412 => ?_)
                    refine WP_goto 140 dX11_mayDo_136 rfl ?_
                    exact WP_sub (fc rfl (fc rfl (fc rfl (fc rfl (fc rfl (fc rfl (fc rfl (fc rfl (fc rfl (fc rfl fn)))))))))) (jn140_2408 v2412 (by omega) (by omega))
                · refine WP_iload dX11_mayDo_113 rfl ?_
                  refine WP_iload dX11_mayDo_115 rfl ?_
                  refine WQ_iadd dX11_mayDo_117 (by omega) (by omega) (fun v2413 hv2413 => ?_)
                  refine WQ_if_le 123 dX11_mayDo_118 rfl (fun c2413 => False.elim (by omega)) (fun c2413 => ?_)
                  refine WQ_iconst (0) (0) dX11_mayDo_121 rfl rfl (fun v2415 hv2415 => ?_)
                  exact WP_zret dX11_mayDo_122 rfl (nar_z (by omega)) ⟨⟨rfl, rfl, rfl⟩, _, rfl, by omega, by omega⟩
              · refine WQ_iconst (0) (0) dX11_mayDo_97 rfl rfl (fun v2416 hv2416 => ?_)
                exact WP_zret dX11_mayDo_98 rfl (nar_z (by omega)) ⟨⟨rfl, rfl, rfl⟩, _, rfl, by omega, by omega⟩
      · refine WQ_iconst (0) (0) dX11_mayDo_63 rfl rfl (fun v2417 hv2417 => ?_)
        exact WP_zret dX11_mayDo_64 rfl (nar_z (by omega)) ⟨⟨rfl, rfl, rfl⟩, _, rfl, by omega, by omega⟩
set_option maxHeartbeats 4000000 in
set_option maxRecDepth 100000 in
theorem sm_may {g : GG} {n : Int} {L : Int32} (hy : Ly g)  {I : pI} {J : pJ} {R : pR} (hr : Rf g R) (hI : MP g n L I) (a : Int32) (b : Int32) (c : Int32) (e : Int32) (f : Int32)  : SP g mX11_may [.ref (ad g 0), .int a, .int b, .int c, .int e, .int f] I J R (fun r I' J' R' => (I' = I ∧ J' = J ∧ R' = R) ∧ ∃ v : Int32, r = some (.int v)) := by
  refine SP_of ⟨by decide, rfl⟩ (Nat.le_of_ble_eq_true rfl) ?_
  have e2418 : I (ad g 0) 1 = L := hI.1.2
  have b2419 := BT_get hI.1.1 0 1 2 (0) (0) (900) (by decide) 1 (by decide) (by decide)
  rw [e2418] at b2419
  refine WP_aload_n dX11_may_0 rfl ?_
  refine WP_iload_n dX11_may_1 rfl ?_
  refine WP_callV1 (k := 11) dX11_may_2 ⟨⟨⟨by decide, by decide⟩, zX11_isSort⟩, lX11_367, by decide, rfl, vX11_isSort.1, vX11_isSort.2⟩ (ly_is hy 0 11 rfl) (sm_isSort hy hr hI a ) (Nat.le_of_ble_eq_true rfl) ?_
  intro r Ia Ja Ra hq
  obtain ⟨⟨ea, eb, ec⟩, v2420, rfl, av2420, bv2420, cv2420⟩ := hq
  show WP _ _ _ _ (.int _ :: _) _ _ _ _
  rw [ea, eb, ec]
  clear ea eb ec Ia Ja Ra
  obtain ⟨w2421, ew2421⟩ : ∃ w : Int32, I (ad g 0) 10 = w := ⟨_, rfl⟩
  have bw2421 := BT_get hI.1.1 0 10 11 (0) (0) (4) (by decide) 10 (by decide) (by decide)
  rw [ew2421] at bw2421
  rw [ew2421] at cv2420
  have jn67_2442 : ∀ (v2442 : Int32), -2 ≤ v2442.toInt → v2442.toInt ≤ 1 → WP g mX11_may 67 [(0, .ref (ad g 0)), (1, .int a), (2, .int b), (3, .int c), (4, .int e), (5, .int f)] [.int v2442] I J R (fun r I' J' R' => (I' = I ∧ J' = J ∧ R' = R) ∧ ∃ v : Int32, r = some (.int v)) := by
    intro v2442 av2442 bv2442
    exact WP_iret dX11_may_67 rfl ⟨⟨rfl, rfl, rfl⟩, _, rfl⟩
  refine WQ_if_eq 43 dX11_may_5 rfl (fun c2443 => ?_) (fun c2443 => ?_)
  · refine WQ_bipush (-2) (-2) dX11_may_43 rfl rfl (fun v2445 hv2445 => ?_)
    refine WP_goto 67 dX11_may_45 rfl ?_
    exact WP_sub (fc rfl (fc rfl (fc rfl (fc rfl (fc rfl (fc rfl fn)))))) (jn67_2442 v2445 (by omega) (by omega))
  · refine WP_iload_n dX11_may_8 rfl ?_
    refine WP_callS1 dX11_may_9 ⟨⟨⟨by decide, by decide⟩, zX11_isDay⟩, lX11_370, tX11_isDay⟩ (sm_isDay hy hr hI b ) (Nat.le_of_ble_eq_true rfl) ?_
    intro r Ia Ja Ra hq
    obtain ⟨⟨ea, eb, ec⟩, v2446, rfl, av2446, bv2446, cv2446⟩ := hq
    show WP _ _ _ _ (.int _ :: _) _ _ _ _
    rw [ea, eb, ec]
    clear ea eb ec Ia Ja Ra
    refine WQ_if_eq 43 dX11_may_12 rfl (fun c2446 => ?_) (fun c2446 => ?_)
    · refine WQ_bipush (-2) (-2) dX11_may_43 rfl rfl (fun v2448 hv2448 => ?_)
      refine WP_goto 67 dX11_may_45 rfl ?_
      exact WP_sub (fc rfl (fc rfl (fc rfl (fc rfl (fc rfl (fc rfl fn)))))) (jn67_2442 v2448 (by omega) (by omega))
    · refine WP_iload_n dX11_may_15 rfl ?_
      refine WP_callS1 dX11_may_16 ⟨⟨⟨by decide, by decide⟩, zX11_areCoins⟩, lX11_392, tX11_areCoins⟩ (sm_areCoins hy hr hI c ) (Nat.le_of_ble_eq_true rfl) ?_
      intro r Ia Ja Ra hq
      obtain ⟨⟨ea, eb, ec⟩, v2449, rfl, av2449, bv2449, cv2449⟩ := hq
      show WP _ _ _ _ (.int _ :: _) _ _ _ _
      rw [ea, eb, ec]
      clear ea eb ec Ia Ja Ra
      refine WQ_if_eq 43 dX11_may_19 rfl (fun c2449 => ?_) (fun c2449 => ?_)
      · refine WQ_bipush (-2) (-2) dX11_may_43 rfl rfl (fun v2451 hv2451 => ?_)
        refine WP_goto 67 dX11_may_45 rfl ?_
        exact WP_sub (fc rfl (fc rfl (fc rfl (fc rfl (fc rfl (fc rfl fn)))))) (jn67_2442 v2451 (by omega) (by omega))
      · refine WP_iload dX11_may_22 rfl ?_
        refine WP_callS1 dX11_may_24 ⟨⟨⟨by decide, by decide⟩, zX11_isStore⟩, lX11_395, tX11_isStore⟩ (sm_isStore hy hr hI e ) (Nat.le_of_ble_eq_true rfl) ?_
        intro r Ia Ja Ra hq
        obtain ⟨⟨ea, eb, ec⟩, v2452, rfl, av2452, bv2452, cv2452⟩ := hq
        show WP _ _ _ _ (.int _ :: _) _ _ _ _
        rw [ea, eb, ec]
        clear ea eb ec Ia Ja Ra
        refine WQ_if_eq 43 dX11_may_27 rfl (fun c2452 => ?_) (fun c2452 => ?_)
        · refine WQ_bipush (-2) (-2) dX11_may_43 rfl rfl (fun v2454 hv2454 => ?_)
          refine WP_goto 67 dX11_may_45 rfl ?_
          exact WP_sub (fc rfl (fc rfl (fc rfl (fc rfl (fc rfl (fc rfl fn)))))) (jn67_2442 v2454 (by omega) (by omega))
        · refine WP_iload dX11_may_30 rfl ?_
          refine WQ_i2l dX11_may_32 (fun l2455 hl2455 => ?_)
          refine WP_lconst (0) dX11_may_33 rfl ?_
          obtain ⟨l2456, hl2456, el2456⟩ : ∃ v : Int64, v.toInt = 0 ∧ (0 : Int64) = v := ⟨_, rfl, rfl⟩
          rw [el2456]; clear el2456
          refine WP_ldc2 (47) dX11_may_34 klX11_408 ?_
          obtain ⟨l2457, hl2457, el2457⟩ : ∃ v : Int64, v.toInt = (47) ∧ ((47) : Int64) = v := ⟨_, rfl, rfl⟩
          rw [el2457]; clear el2457
          refine WP_callS3 dX11_may_37 ⟨⟨⟨by decide, by decide⟩, zX11_in⟩, lX11_52, tX11_in⟩ (sm_in hy hr hI l2455 l2456 l2457 ) (Nat.le_of_ble_eq_true rfl) ?_
          intro r Ia Ja Ra hq
          obtain ⟨⟨ea, eb, ec⟩, v2458, rfl, av2458, bv2458, cv2458⟩ := hq
          show WP _ _ _ _ (.int _ :: _) _ _ _ _
          rw [ea, eb, ec]
          clear ea eb ec Ia Ja Ra
          refine WQ_if_ne 48 dX11_may_40 rfl (fun c2458 => ?_) (fun c2458 => ?_)
          · refine WP_aload_n dX11_may_48 rfl ?_
            refine WP_iload_n dX11_may_49 rfl ?_
            refine WP_iload_n dX11_may_50 rfl ?_
            refine WP_iload_n dX11_may_51 rfl ?_
            refine WP_iload dX11_may_52 rfl ?_
            refine WP_iload dX11_may_54 rfl ?_
            refine WP_callV5 (k := 11) dX11_may_56 ⟨⟨⟨by decide, by decide⟩, zX11_mayDo⟩, lX11_410, by decide, rfl, vX11_mayDo.1, vX11_mayDo.2⟩ (ly_is hy 0 11 rfl) (sm_mayDo hy hr hI a b c e f (by omega) (by omega) (by omega) (by omega) (by omega) (by omega) (by omega) (by omega) (by omega) (by omega)) (Nat.le_of_ble_eq_true rfl) ?_
            intro r Ia Ja Ra hq
            obtain ⟨⟨ea, eb, ec⟩, v2460, rfl, av2460, bv2460⟩ := hq
            show WP _ _ _ _ (.int _ :: _) _ _ _ _
            rw [ea, eb, ec]
            clear ea eb ec Ia Ja Ra
            refine WQ_if_eq 66 dX11_may_59 rfl (fun c2460 => ?_) (fun c2460 => ?_)
            · refine WQ_iconst (0) (0) dX11_may_66 rfl rfl (fun v2462 hv2462 => ?_)
              exact WP_sub (fc rfl (fc rfl (fc rfl (fc rfl (fc rfl (fc rfl fn)))))) (jn67_2442 v2462 (by omega) (by omega))
            · refine WQ_iconst (1) (1) dX11_may_62 rfl rfl (fun v2463 hv2463 => ?_)
              refine WP_goto 67 dX11_may_63 rfl ?_
              exact WP_sub (fc rfl (fc rfl (fc rfl (fc rfl (fc rfl (fc rfl fn)))))) (jn67_2442 v2463 (by omega) (by omega))
          · refine WQ_bipush (-2) (-2) dX11_may_43 rfl rfl (fun v2464 hv2464 => ?_)
            refine WP_goto 67 dX11_may_45 rfl ?_
            exact WP_sub (fc rfl (fc rfl (fc rfl (fc rfl (fc rfl (fc rfl fn)))))) (jn67_2442 v2464 (by omega) (by omega))
set_option maxHeartbeats 4000000 in
set_option maxRecDepth 100000 in
theorem sm_way {g : GG} {n : Int} {L : Int32} (hy : Ly g)  {I : pI} {J : pJ} {R : pR} (hr : Rf g R) (hI : MP g n L I) (a : Int32) (b : Int32)  : SP g mX11_way [.ref (ad g 0), .int a, .int b] I J R (fun r I' J' R' => (MP g n L I' ∧ R' = R ∧ fz 49 g [38] I I' ∧ fz 49 g [] J J' ∧ fs g [] I I') ∧ ∃ v : Int32, r = some (.int v)) := by
  refine SP_of ⟨by decide, rfl⟩ (Nat.le_of_ble_eq_true rfl) ?_
  have e2498 : I (ad g 0) 1 = L := hI.1.2
  have b2499 := BT_get hI.1.1 0 1 2 (0) (0) (900) (by decide) 1 (by decide) (by decide)
  rw [e2498] at b2499
  have fr0 : fz 49 g [38] I I := fz_rf
  have frj0 : fz 49 g [] J J := fz_rf
  have frq0 : fs g [] I I := fs_rf
  refine WP_aload_n dX11_way_0 rfl ?_
  refine WP_iload_n dX11_way_1 rfl ?_
  refine WP_callV1 (k := 11) dX11_way_2 ⟨⟨⟨by decide, by decide⟩, zX11_isSort⟩, lX11_367, by decide, rfl, vX11_isSort.1, vX11_isSort.2⟩ (ly_is hy 0 11 rfl) (sm_isSort hy hr hI a ) (Nat.le_of_ble_eq_true rfl) ?_
  intro r Ia Ja Ra hq
  obtain ⟨⟨ea, eb, ec⟩, v2500, rfl, av2500, bv2500, cv2500⟩ := hq
  show WP _ _ _ _ (.int _ :: _) _ _ _ _
  rw [ea, eb, ec]
  clear ea eb ec Ia Ja Ra
  obtain ⟨w2501, ew2501⟩ : ∃ w : Int32, I (ad g 0) 10 = w := ⟨_, rfl⟩
  have bw2501 := BT_get hI.1.1 0 10 11 (0) (0) (4) (by decide) 10 (by decide) (by decide)
  rw [ew2501] at bw2501
  rw [ew2501] at cv2500
  refine WQ_if_eq 15 dX11_way_5 rfl (fun c2501 => ?_) (fun c2501 => ?_)
  · refine WQ_bipush (-2) (-2) dX11_way_15 rfl rfl (fun v2503 hv2503 => ?_)
    exact WP_iret dX11_way_17 rfl ⟨⟨hI, rfl, fr0, frj0, frq0⟩, _, rfl⟩
  · refine WP_iload_n dX11_way_8 rfl ?_
    refine WP_callS1 dX11_way_9 ⟨⟨⟨by decide, by decide⟩, zX11_isWay⟩, lX11_454, tX11_isWay⟩ (sm_isWay hy hr hI b ) (Nat.le_of_ble_eq_true rfl) ?_
    intro r Ia Ja Ra hq
    obtain ⟨⟨ea, eb, ec⟩, v2504, rfl, av2504, bv2504, cv2504⟩ := hq
    show WP _ _ _ _ (.int _ :: _) _ _ _ _
    rw [ea, eb, ec]
    clear ea eb ec Ia Ja Ra
    refine WQ_if_ne 18 dX11_way_12 rfl (fun c2504 => ?_) (fun c2504 => ?_)
    · refine WP_aload_n dX11_way_18 rfl ?_
      refine WP_getr dX11_way_19 fX11_283 rfl (ly_is hy 0 11 rfl) (rf hr 0 59 38 (by decide)) ?_
      refine WQ_bipush (28) (28) dX11_way_22 rfl rfl (fun v2506 hv2506 => ?_)
      refine WP_iload_n dX11_way_24 rfl ?_
      refine WQ_iadd dX11_way_25 (by omega) (by omega) (fun v2507 hv2507 => ?_)
      refine WQ_ialdu dX11_way_26 (ly_is hy 38 13 rfl) (ly_n hy 38 35 rfl) (by omega) (by omega) (fun v2508 => ?_)
      refine WP_istore_n (ls' := [(0, _), (1, _), (2, _), (3, _)]) dX11_way_27 (by decide) rfl ?_
      refine WP_aload_n dX11_way_28 rfl ?_
      refine WP_getr dX11_way_29 fX11_283 rfl (ly_is hy 0 11 rfl) (rf hr 0 59 38 (by decide)) ?_
      refine WQ_bipush (28) (28) dX11_way_32 rfl rfl (fun v2509 hv2509 => ?_)
      refine WP_iload_n dX11_way_34 rfl ?_
      refine WQ_iadd dX11_way_35 (by omega) (by omega) (fun v2510 hv2510 => ?_)
      refine WP_iload_n dX11_way_36 rfl ?_
      refine WQ_iast dX11_way_37 (ly_is hy 38 13 rfl) (ly_n hy 38 35 rfl) (by omega) (by omega) (fun I2511 eI2511 => ?_)
      have hI2511 : MP g n L I2511 := by rw [eI2511]; exact (mp_w hy hI (c := 38) (mi_rr hy hI.1 (c := 38) (28) (31) (0) (0) (0) (by decide) (Or.inl (by decide)) (by rw [cl (n := v2510.toInt.toNat) (by omega)]; omega) (by decide) (fun h => absurd h (by decide))) (by decide) (by decide) (Or.inl (by decide)))
      have e2512 : I2511 (ad g 0) 1 = L := by rw [eI2511, pp_ne _ _ (Or.inl (ly_ne hy (by decide) (by decide) (by decide)))]; exact e2498
      have e2513 : I2511 (ad g 0) 10 = w2501 := by rw [eI2511, pp_ne _ _ (Or.inl (ly_ne hy (by decide) (by decide) (by decide)))]; exact ew2501
      have fr2514 : fs g [] I I2511 := by rw [eI2511]; exact fs_ppn hy frq0 (by decide) (by decide)
      have fr2515 : fz 49 g [38] I I2511 := by rw [eI2511]; exact fzm_pp hy fr0 (by decide) (by decide)
      clear eI2511
      refine WP_iload_n dX11_way_38 rfl ?_
      exact WP_iret dX11_way_39 rfl ⟨⟨hI2511, rfl, fr2515, frj0, fr2514⟩, _, rfl⟩
    · refine WQ_bipush (-2) (-2) dX11_way_15 rfl rfl (fun v2516 hv2516 => ?_)
      exact WP_iret dX11_way_17 rfl ⟨⟨hI, rfl, fr0, frj0, frq0⟩, _, rfl⟩
set_option maxHeartbeats 4000000 in
set_option maxRecDepth 100000 in
theorem sm_paidByAll {g : GG} {n : Int} {L : Int32} (hy : Ly g)  {I : pI} {J : pJ} {R : pR} (hr : Rf g R) (hI : MP g n L I)   : SP g mX11_paidByAll [.ref (ad g 0), .ref (ad g 38)] I J R (fun r I' J' R' => (I' = I ∧ J' = J ∧ R' = R) ∧ ∃ v : Int32, r = some (.int v)) := by
  refine SP_of ⟨by decide, rfl⟩ (Nat.le_of_ble_eq_true rfl) ?_
  have e2517 : I (ad g 0) 1 = L := hI.1.2
  have b2518 := BT_get hI.1.1 0 1 2 (0) (0) (900) (by decide) 1 (by decide) (by decide)
  rw [e2517] at b2518
  refine WQ_iconst (0) (0) dX11_paidByAll_0 rfl rfl (fun v2519 hv2519 => ?_)
  refine WP_istore_n (ls' := [(0, _), (1, _), (2, _)]) dX11_paidByAll_1 (by decide) rfl ?_
  refine WQ_iconst (0) (0) dX11_paidByAll_2 rfl rfl (fun v2520 hv2520 => ?_)
  refine WP_istore_n (ls' := [(0, _), (1, _), (2, _), (3, _)]) dX11_paidByAll_3 (by decide) rfl ?_
  have lp4_2522 : ∀ (mz : Nat) (i2521 : Int32) (i2522 : Int32), 0 ≤ i2522.toInt → i2522.toInt ≤ 4 → (5 - i2522.toInt).toNat < mz → WP g mX11_paidByAll 4 [(0, .ref (ad g 0)), (1, .ref (ad g 38)), (2, .int i2521), (3, .int i2522)] [] I J R (fun r I' J' R' => (I' = I ∧ J' = J ∧ R' = R) ∧ ∃ v : Int32, r = some (.int v)) := by
    intro mz
    induction mz with
    | zero =>
      intro i2521 i2522 ai2522 bi2522 hmlp4_2522
      exact absurd hmlp4_2522 (Nat.not_lt_zero _)
    | succ mz ihlp4_2522 =>
      intro i2521 i2522 ai2522 bi2522 hmlp4_2522
      refine WP_iload_n dX11_paidByAll_4 rfl ?_
      refine WP_aload_n dX11_paidByAll_5 rfl ?_
      refine WQ_geti dX11_paidByAll_6 fX11_329 rfl (ly_is hy 0 11 rfl) (BT_get hI.1.1 0 10 11 (0) (0) (4) (by decide) 10 (by decide) (by decide)) (fun v2524 ev2524 av2524 bv2524 => ?_)
      refine WQ_icmp_ge 27 dX11_paidByAll_9 rfl (fun c2524 => ?_) (fun c2524 => ?_)
      · refine WP_iload_n dX11_paidByAll_27 rfl ?_
        exact WP_iret dX11_paidByAll_28 rfl ⟨⟨rfl, rfl, rfl⟩, _, rfl⟩
      · refine WP_iload_n dX11_paidByAll_12 rfl ?_
        refine WP_aload_n dX11_paidByAll_13 rfl ?_
        refine WQ_bipush (8) (8) dX11_paidByAll_14 rfl rfl (fun v2526 hv2526 => ?_)
        refine WP_iload_n dX11_paidByAll_16 rfl ?_
        refine WQ_iadd dX11_paidByAll_17 (by omega) (by omega) (fun v2527 hv2527 => ?_)
        refine WQ_ialdu dX11_paidByAll_18 (ly_is hy 38 13 rfl) (ly_n hy 38 35 rfl) (by omega) (by omega) (fun v2528 => ?_)
        refine WQ_iaddu dX11_paidByAll_19 (fun v2529 => ?_)
        refine WP_istore_n (ls' := [(0, _), (1, _), (2, _), (3, _)]) dX11_paidByAll_20 (by decide) rfl ?_
        refine WP_iinc (ls' := [(0, _), (1, _), (2, _), (3, _)]) dX11_paidByAll_21 rfl (by decide) rfl ?_
        have hv2530 : (i2522 + Int32.ofInt (1)).toInt = i2522.toInt + (1) := ia_n rfl (by omega) (by omega)
        generalize i2522 + Int32.ofInt (1) = v2530 at hv2530 ⊢
        refine WP_goto 4 dX11_paidByAll_24 rfl ?_
        exact WP_sub (fc rfl (fc rfl (fc rfl (fc rfl fn)))) (ihlp4_2522 v2529 v2530 (by omega) (by omega) (by omega))
  exact WP_sub (fc rfl (fc rfl (fc rfl (fc rfl fn)))) (lp4_2522 _ v2519 v2520 (by omega) (by omega) (Nat.lt_succ_self _))
set_option maxHeartbeats 4000000 in
set_option maxRecDepth 100000 in
theorem sm_all {g : GG} {n : Int} {L : Int32} (hy : Ly g)  {I : pI} {J : pJ} {R : pR} (hr : Rf g R) (hI : MP g n L I) (a : Int32)  : SP g mX11_all [.ref (ad g 0), .int a] I J R (fun r I' J' R' => (I' = I ∧ J' = J ∧ R' = R) ∧ ∃ v : Int32, r = some (.int v)) := by
  refine SP_of ⟨by decide, rfl⟩ (Nat.le_of_ble_eq_true rfl) ?_
  have e2531 : I (ad g 0) 1 = L := hI.1.2
  have b2532 := BT_get hI.1.1 0 1 2 (0) (0) (900) (by decide) 1 (by decide) (by decide)
  rw [e2531] at b2532
  refine WP_iload_n dX11_all_0 rfl ?_
  refine WP_tab 89 dX11_all_1 rfl rfl (fun c2532 => ?_) (fun j off c2532 hj => ?_) (by decide)
  · refine WQ_iconst (-1) (-1) dX11_all_89 rfl rfl (fun v2534 hv2534 => ?_)
    exact WP_iret dX11_all_90 rfl ⟨⟨rfl, rfl, rfl⟩, _, rfl⟩
  · have hlt : j < 4 := by have := (Array.getElem?_eq_some_iff.mp hj).1; simpa using this
    have hcs : (j = 0 ∧ off = 31) ∨ (j = 1 ∧ off = 39) ∨ (j = 2 ∧ off = 47) ∨ (j = 3 ∧ off = 80) := by
      match j, hlt, hj with
      | 0, _, hj => exact Or.inl ⟨rfl, (Option.some.inj hj).symm⟩
      | 1, _, hj => exact Or.inr (Or.inl ⟨rfl, (Option.some.inj hj).symm⟩)
      | 2, _, hj => exact Or.inr (Or.inr (Or.inl ⟨rfl, (Option.some.inj hj).symm⟩))
      | 3, _, hj => exact Or.inr (Or.inr (Or.inr (⟨rfl, (Option.some.inj hj).symm⟩)))
    clear hj hlt
    rcases hcs with ⟨rfl, rfl⟩ | ⟨rfl, rfl⟩ | ⟨rfl, rfl⟩ | ⟨rfl, rfl⟩
    · show WP _ _ 32 _ _ _ _ _ _
      refine WP_aload_n dX11_all_32 rfl ?_
      refine WP_getr dX11_all_33 fX11_283 rfl (ly_is hy 0 11 rfl) (rf hr 0 59 38 (by decide)) ?_
      refine WQ_bipush (32) (32) dX11_all_36 rfl rfl (fun v2535 hv2535 => ?_)
      refine WQ_ialdr dX11_all_38 (ly_is hy 38 13 rfl) (ly_n hy 38 35 rfl) (by omega) (by omega) (a := 32) (b := 33) (by omega) (by omega) (fun q hq1 hq2 => BT_get hI.1.1 38 32 33 (0) (23760) (0) (by decide) q hq1 hq2) (fun v2536 av2536 bv2536 => ?_)
      exact WP_iret dX11_all_39 rfl ⟨⟨rfl, rfl, rfl⟩, _, rfl⟩
    · show WP _ _ 40 _ _ _ _ _ _
      refine WP_aload_n dX11_all_40 rfl ?_
      refine WP_getr dX11_all_41 fX11_283 rfl (ly_is hy 0 11 rfl) (rf hr 0 59 38 (by decide)) ?_
      refine WQ_bipush (33) (33) dX11_all_44 rfl rfl (fun v2537 hv2537 => ?_)
      refine WQ_ialdr dX11_all_46 (ly_is hy 38 13 rfl) (ly_n hy 38 35 rfl) (by omega) (by omega) (a := 33) (b := 34) (by omega) (by omega) (fun q hq1 hq2 => BT_get hI.1.1 38 33 34 (0) (1) (0) (by decide) q hq1 hq2) (fun v2538 av2538 bv2538 => ?_)
      exact WP_iret dX11_all_47 rfl ⟨⟨rfl, rfl, rfl⟩, _, rfl⟩
    · show WP _ _ 48 _ _ _ _ _ _
      refine WP_aload_n dX11_all_48 rfl ?_
      refine WQ_getl dX11_all_49 fX11_346 rfl (ly_is hy 0 11 rfl) (fun l2539 el2539 => ?_)
      refine WP_lconst (0) dX11_all_52 rfl ?_
      obtain ⟨l2540, hl2540, el2540⟩ : ∃ v : Int64, v.toInt = 0 ∧ (0 : Int64) = v := ⟨_, rfl, rfl⟩
      rw [el2540]; clear el2540
      refine WQ_lcmp dX11_all_53 (fun v2541 av2541 bv2541 => ?_)
      refine WQ_if_ne 61 dX11_all_54 rfl (fun c2541 => ?_) (fun c2541 => ?_)
      · refine WP_ldc2 (1000) dX11_all_61 klX11_488 ?_
        obtain ⟨l2543, hl2543, el2543⟩ : ∃ v : Int64, v.toInt = (1000) ∧ ((1000) : Int64) = v := ⟨_, rfl, rfl⟩
        rw [el2543]; clear el2543
        refine WP_aload_n dX11_all_64 rfl ?_
        refine WP_aload_n dX11_all_65 rfl ?_
        refine WP_getr dX11_all_66 fX11_283 rfl (ly_is hy 0 11 rfl) (rf hr 0 59 38 (by decide)) ?_
        refine WP_callV1 (k := 11) dX11_all_69 ⟨⟨⟨by decide, by decide⟩, zX11_paidByAll⟩, lX11_490, by decide, rfl, vX11_paidByAll.1, vX11_paidByAll.2⟩ (ly_is hy 0 11 rfl) (sm_paidByAll hy hr hI  ) (Nat.le_of_ble_eq_true rfl) ?_
        intro r Ia Ja Ra hq
        obtain ⟨⟨ea, eb, ec⟩, v2544, rfl⟩ := hq
        show WP _ _ _ _ (.int _ :: _) _ _ _ _
        rw [ea, eb, ec]
        clear ea eb ec Ia Ja Ra
        refine WQ_i2l dX11_all_72 (fun l2545 hl2545 => ?_)
        refine WQ_lmul dX11_all_73 (fun l2546 => ?_)
        refine WP_aload_n dX11_all_74 rfl ?_
        refine WP_getl dX11_all_75 fX11_346 rfl (ly_is hy 0 11 rfl) ?_
        rw [el2539]
        refine WQ_ldiv dX11_all_78 (by omega) (fun l2547 => ?_)
        refine WQ_l2i dX11_all_79 (fun v2548 => ?_)
        exact WP_iret dX11_all_80 rfl ⟨⟨rfl, rfl, rfl⟩, _, rfl⟩
      · refine WQ_iconst (-1) (-1) dX11_all_57 rfl rfl (fun v2549 hv2549 => ?_)
        refine WP_goto 80 dX11_all_58 rfl ?_
        exact WP_iret dX11_all_80 rfl ⟨⟨rfl, rfl, rfl⟩, _, rfl⟩
    · show WP _ _ 81 _ _ _ _ _ _
      refine WP_aload_n dX11_all_81 rfl ?_
      refine WP_getr dX11_all_82 fX11_283 rfl (ly_is hy 0 11 rfl) (rf hr 0 59 38 (by decide)) ?_
      refine WQ_bipush (34) (34) dX11_all_85 rfl rfl (fun v2550 hv2550 => ?_)
      refine WQ_ialdu dX11_all_87 (ly_is hy 38 13 rfl) (ly_n hy 38 35 rfl) (by omega) (by omega) (fun v2551 => ?_)
      exact WP_iret dX11_all_88 rfl ⟨⟨rfl, rfl, rfl⟩, _, rfl⟩
set_option maxHeartbeats 4000000 in
set_option maxRecDepth 100000 in
theorem sm_lend {g : GG} {n : Int} {L : Int32} (hy : Ly g)  {I : pI} {J : pJ} {R : pR} (hr : Rf g R) (hI : MP g n L I) (c : Int32) (w : Int32) (y : Int32) (wh : Int32)  : SP g mX11_lend [.ref (ad g 0), .int c, .int w, .int y, .int wh] I J R (fun r I' J' R' => (I' = I ∧ J' = J ∧ R' = R) ∧ ∃ v : Int32, r = some (.int v)) := by
  refine SP_of ⟨by decide, rfl⟩ (Nat.le_of_ble_eq_true rfl) ?_
  have e2552 : I (ad g 0) 1 = L := hI.1.2
  have b2553 := BT_get hI.1.1 0 1 2 (0) (0) (900) (by decide) 1 (by decide) (by decide)
  rw [e2552] at b2553
  refine WP_iload_n dX11_lend_0 rfl ?_
  refine WQ_i2l dX11_lend_1 (fun l2554 hl2554 => ?_)
  refine WP_lconst (0) dX11_lend_2 rfl ?_
  obtain ⟨l2555, hl2555, el2555⟩ : ∃ v : Int64, v.toInt = 0 ∧ (0 : Int64) = v := ⟨_, rfl, rfl⟩
  rw [el2555]; clear el2555
  refine WP_ldc2 (999) dX11_lend_3 klX11_523 ?_
  obtain ⟨l2556, hl2556, el2556⟩ : ∃ v : Int64, v.toInt = (999) ∧ ((999) : Int64) = v := ⟨_, rfl, rfl⟩
  rw [el2556]; clear el2556
  refine WP_callS3 dX11_lend_6 ⟨⟨⟨by decide, by decide⟩, zX11_in⟩, lX11_52, tX11_in⟩ (sm_in hy hr hI l2554 l2555 l2556 ) (Nat.le_of_ble_eq_true rfl) ?_
  intro r Ia Ja Ra hq
  obtain ⟨⟨ea, eb, ec⟩, v2557, rfl, av2557, bv2557, cv2557⟩ := hq
  show WP _ _ _ _ (.int _ :: _) _ _ _ _
  rw [ea, eb, ec]
  clear ea eb ec Ia Ja Ra
  refine WQ_if_eq 47 dX11_lend_9 rfl (fun c2557 => ?_) (fun c2557 => ?_)
  · refine WQ_bipush (-2) (-2) dX11_lend_47 rfl rfl (fun v2559 hv2559 => ?_)
    exact WP_iret dX11_lend_49 rfl ⟨⟨rfl, rfl, rfl⟩, _, rfl⟩
  · refine WP_iload_n dX11_lend_12 rfl ?_
    refine WQ_i2l dX11_lend_13 (fun l2560 hl2560 => ?_)
    refine WP_lconst (0) dX11_lend_14 rfl ?_
    obtain ⟨l2561, hl2561, el2561⟩ : ∃ v : Int64, v.toInt = 0 ∧ (0 : Int64) = v := ⟨_, rfl, rfl⟩
    rw [el2561]; clear el2561
    refine WP_ldc2 (52) dX11_lend_15 klX11_525 ?_
    obtain ⟨l2562, hl2562, el2562⟩ : ∃ v : Int64, v.toInt = (52) ∧ ((52) : Int64) = v := ⟨_, rfl, rfl⟩
    rw [el2562]; clear el2562
    refine WP_callS3 dX11_lend_18 ⟨⟨⟨by decide, by decide⟩, zX11_in⟩, lX11_52, tX11_in⟩ (sm_in hy hr hI l2560 l2561 l2562 ) (Nat.le_of_ble_eq_true rfl) ?_
    intro r Ia Ja Ra hq
    obtain ⟨⟨ea, eb, ec⟩, v2563, rfl, av2563, bv2563, cv2563⟩ := hq
    show WP _ _ _ _ (.int _ :: _) _ _ _ _
    rw [ea, eb, ec]
    clear ea eb ec Ia Ja Ra
    refine WQ_if_eq 47 dX11_lend_21 rfl (fun c2563 => ?_) (fun c2563 => ?_)
    · refine WQ_bipush (-2) (-2) dX11_lend_47 rfl rfl (fun v2565 hv2565 => ?_)
      exact WP_iret dX11_lend_49 rfl ⟨⟨rfl, rfl, rfl⟩, _, rfl⟩
    · refine WP_iload_n dX11_lend_24 rfl ?_
      refine WQ_i2l dX11_lend_25 (fun l2566 hl2566 => ?_)
      refine WP_lconst (0) dX11_lend_26 rfl ?_
      obtain ⟨l2567, hl2567, el2567⟩ : ∃ v : Int64, v.toInt = 0 ∧ (0 : Int64) = v := ⟨_, rfl, rfl⟩
      rw [el2567]; clear el2567
      refine WP_ldc2 (1000) dX11_lend_27 klX11_488 ?_
      obtain ⟨l2568, hl2568, el2568⟩ : ∃ v : Int64, v.toInt = (1000) ∧ ((1000) : Int64) = v := ⟨_, rfl, rfl⟩
      rw [el2568]; clear el2568
      refine WP_callS3 dX11_lend_30 ⟨⟨⟨by decide, by decide⟩, zX11_in⟩, lX11_52, tX11_in⟩ (sm_in hy hr hI l2566 l2567 l2568 ) (Nat.le_of_ble_eq_true rfl) ?_
      intro r Ia Ja Ra hq
      obtain ⟨⟨ea, eb, ec⟩, v2569, rfl, av2569, bv2569, cv2569⟩ := hq
      show WP _ _ _ _ (.int _ :: _) _ _ _ _
      rw [ea, eb, ec]
      clear ea eb ec Ia Ja Ra
      refine WQ_if_eq 47 dX11_lend_33 rfl (fun c2569 => ?_) (fun c2569 => ?_)
      · refine WQ_bipush (-2) (-2) dX11_lend_47 rfl rfl (fun v2571 hv2571 => ?_)
        exact WP_iret dX11_lend_49 rfl ⟨⟨rfl, rfl, rfl⟩, _, rfl⟩
      · refine WP_iload dX11_lend_36 rfl ?_
        refine WQ_i2l dX11_lend_38 (fun l2572 hl2572 => ?_)
        refine WP_lconst (0) dX11_lend_39 rfl ?_
        obtain ⟨l2573, hl2573, el2573⟩ : ∃ v : Int64, v.toInt = 0 ∧ (0 : Int64) = v := ⟨_, rfl, rfl⟩
        rw [el2573]; clear el2573
        refine WP_lconst (1) dX11_lend_40 rfl ?_
        obtain ⟨l2574, hl2574, el2574⟩ : ∃ v : Int64, v.toInt = 1 ∧ (1 : Int64) = v := ⟨_, rfl, rfl⟩
        rw [el2574]; clear el2574
        refine WP_callS3 dX11_lend_41 ⟨⟨⟨by decide, by decide⟩, zX11_in⟩, lX11_52, tX11_in⟩ (sm_in hy hr hI l2572 l2573 l2574 ) (Nat.le_of_ble_eq_true rfl) ?_
        intro r Ia Ja Ra hq
        obtain ⟨⟨ea, eb, ec⟩, v2575, rfl, av2575, bv2575, cv2575⟩ := hq
        show WP _ _ _ _ (.int _ :: _) _ _ _ _
        rw [ea, eb, ec]
        clear ea eb ec Ia Ja Ra
        refine WQ_if_ne 50 dX11_lend_44 rfl (fun c2575 => ?_) (fun c2575 => ?_)
        · refine WP_iload_n dX11_lend_50 rfl ?_
          refine WP_istore (ls' := [(0, _), (1, _), (2, _), (3, _), (4, _), (5, _)]) dX11_lend_51 (by decide) rfl ?_
          refine WQ_iconst (0) (0) dX11_lend_53 rfl rfl (fun v2577 hv2577 => ?_)
          refine WP_istore (ls' := [(0, _), (1, _), (2, _), (3, _), (4, _), (5, _), (6, _)]) dX11_lend_54 (by decide) rfl ?_
          have lp56_2579 : ∀ (mz : Nat) (i2578 : Int32) (i2579 : Int32), 0 ≤ i2578.toInt → i2578.toInt ≤ 999 → 0 ≤ i2579.toInt → i2579.toInt ≤ 52 → (53 - i2579.toInt).toNat < mz → WP g mX11_lend 56 [(0, .ref (ad g 0)), (1, .int c), (2, .int w), (3, .int y), (4, .int wh), (5, .int i2578), (6, .int i2579)] [] I J R (fun r I' J' R' => (I' = I ∧ J' = J ∧ R' = R) ∧ ∃ v : Int32, r = some (.int v)) := by
            intro mz
            induction mz with
            | zero =>
              intro i2578 i2579 ai2578 bi2578 ai2579 bi2579 hmlp56_2579
              exact absurd hmlp56_2579 (Nat.not_lt_zero _)
            | succ mz ihlp56_2579 =>
              intro i2578 i2579 ai2578 bi2578 ai2579 bi2579 hmlp56_2579
              refine WP_iload dX11_lend_56 rfl ?_
              refine WP_iload_n dX11_lend_58 rfl ?_
              refine WQ_icmp_ge 87 dX11_lend_59 rfl (fun c2580 => ?_) (fun c2580 => ?_)
              · refine WQ_iconst (0) (0) dX11_lend_87 rfl rfl (fun v2582 hv2582 => ?_)
                refine WP_istore (ls' := [(0, _), (1, _), (2, _), (3, _), (4, _), (5, _), (6, _)]) dX11_lend_88 (by decide) rfl ?_
                have lp90_2584 : ∀ (mz : Nat) (i2583 : Int32) (i2584 : Int32), 0 ≤ i2583.toInt → i2583.toInt ≤ 999 → 0 ≤ i2584.toInt → i2584.toInt ≤ 364 → (365 - i2584.toInt).toNat < mz → WP g mX11_lend 90 [(0, .ref (ad g 0)), (1, .int c), (2, .int w), (3, .int y), (4, .int wh), (5, .int i2583), (6, .int i2584)] [] I J R (fun r I' J' R' => (I' = I ∧ J' = J ∧ R' = R) ∧ ∃ v : Int32, r = some (.int v)) := by
                  intro mz
                  induction mz with
                  | zero =>
                    intro i2583 i2584 ai2583 bi2583 ai2584 bi2584 hmlp90_2584
                    exact absurd hmlp90_2584 (Nat.not_lt_zero _)
                  | succ mz ihlp90_2584 =>
                    intro i2583 i2584 ai2583 bi2583 ai2584 bi2584 hmlp90_2584
                    refine WP_iload dX11_lend_90 rfl ?_
                    refine WQ_bipush (7) (7) dX11_lend_92 rfl rfl (fun v2586 hv2586 => ?_)
                    refine WP_iload_n dX11_lend_94 rfl ?_
                    refine WQ_imulK (7) dX11_lend_95 hv2586 (by omega) (by omega) (fun v2587 hv2587 => ?_)
                    refine WQ_icmp_ge 131 dX11_lend_96 rfl (fun c2587 => ?_) (fun c2587 => ?_)
                    · refine WP_iload dX11_lend_131 rfl ?_
                      exact WP_iret dX11_lend_133 rfl ⟨⟨rfl, rfl, rfl⟩, _, rfl⟩
                    · refine WP_iload dX11_lend_99 rfl ?_
                      refine WQ_iconst (1) (1) dX11_lend_101 rfl rfl (fun v2589 hv2589 => ?_)
                      refine WQ_icmp_ne 131 dX11_lend_102 rfl (fun c2589 => ?_) (fun c2589 => ?_)
                      · refine WP_iload dX11_lend_131 rfl ?_
                        exact WP_iret dX11_lend_133 rfl ⟨⟨rfl, rfl, rfl⟩, _, rfl⟩
                      · refine WP_iload dX11_lend_105 rfl ?_
                        refine WP_iload dX11_lend_107 rfl ?_
                        refine WP_aload_n dX11_lend_109 rfl ?_
                        refine WP_getr dX11_lend_110 fX11_233 rfl (ly_is hy 0 11 rfl) (rf hr 0 24 6 (by decide)) ?_
                        refine WP_iload dX11_lend_113 rfl ?_
                        refine WQ_bipush (7) (7) dX11_lend_115 rfl rfl (fun v2591 hv2591 => ?_)
                        refine WQ_iremk (7) dX11_lend_117 hv2591 (by decide) (by omega) (fun v2592 hv2592 => ?_)
                        refine WQ_iald dX11_lend_118 (ly_is hy 6 13 rfl) (ly_n hy 6 7 rfl) (by omega) (by omega) (fun q hq => BT_get hI.1.1 6 0 7 (0) (0) (900) (by decide) q (Nat.zero_le _) hq) (fun v2593 av2593 bv2593 ev2593 => ?_)
                        clear ev2593
                        refine WP_callS2 dX11_lend_119 ⟨⟨⟨by decide, by decide⟩, zX11_stampsOf⟩, lX11_380, tX11_stampsOf⟩ (sm_stampsOf hy hr hI i2583 v2593 (by omega) (by omega) (by omega) (by omega)) (Nat.le_of_ble_eq_true rfl) ?_
                        intro r Ia Ja Ra hq
                        obtain ⟨⟨ea, eb, ec⟩, v2594, rfl, av2594, bv2594, cv2594⟩ := hq
                        show WP _ _ _ _ (.int _ :: _) _ _ _ _
                        rw [ea, eb, ec]
                        clear ea eb ec Ia Ja Ra
                        refine WQ_isub dX11_lend_122 (by omega) (by omega) (fun v2595 hv2595 => ?_)
                        refine WP_istore (ls' := [(0, _), (1, _), (2, _), (3, _), (4, _), (5, _), (6, _)]) dX11_lend_123 (by decide) rfl ?_
                        refine WP_iinc (ls' := [(0, _), (1, _), (2, _), (3, _), (4, _), (5, _), (6, _)]) dX11_lend_125 rfl (by decide) rfl ?_
                        have hv2596 : (i2584 + Int32.ofInt (1)).toInt = i2584.toInt + (1) := ia_n rfl (by omega) (by omega)
                        generalize i2584 + Int32.ofInt (1) = v2596 at hv2596 ⊢
                        refine WP_goto 90 dX11_lend_128 rfl ?_
                        exact WP_sub (fc rfl (fc rfl (fc rfl (fc rfl (fc rfl (fc rfl (fc rfl fn))))))) (ihlp90_2584 v2595 v2596 (by omega) (by omega) (by omega) (by omega) (by omega))
                exact WP_sub (fc rfl (fc rfl (fc rfl (fc rfl (fc rfl (fc rfl (fc rfl fn))))))) (lp90_2584 _ i2578 v2582 (by omega) (by omega) (by omega) (by omega) (Nat.lt_succ_self _))
              · refine WP_iload dX11_lend_62 rfl ?_
                refine WQ_if_ne 87 dX11_lend_64 rfl (fun c2596 => ?_) (fun c2596 => ?_)
                · refine WQ_iconst (0) (0) dX11_lend_87 rfl rfl (fun v2598 hv2598 => ?_)
                  refine WP_istore (ls' := [(0, _), (1, _), (2, _), (3, _), (4, _), (5, _), (6, _)]) dX11_lend_88 (by decide) rfl ?_
                  have lp90_2600 : ∀ (mz : Nat) (i2599 : Int32) (i2600 : Int32), 0 ≤ i2599.toInt → i2599.toInt ≤ 999 → 0 ≤ i2600.toInt → i2600.toInt ≤ 364 → (365 - i2600.toInt).toNat < mz → WP g mX11_lend 90 [(0, .ref (ad g 0)), (1, .int c), (2, .int w), (3, .int y), (4, .int wh), (5, .int i2599), (6, .int i2600)] [] I J R (fun r I' J' R' => (I' = I ∧ J' = J ∧ R' = R) ∧ ∃ v : Int32, r = some (.int v)) := by
                    intro mz
                    induction mz with
                    | zero =>
                      intro i2599 i2600 ai2599 bi2599 ai2600 bi2600 hmlp90_2600
                      exact absurd hmlp90_2600 (Nat.not_lt_zero _)
                    | succ mz ihlp90_2600 =>
                      intro i2599 i2600 ai2599 bi2599 ai2600 bi2600 hmlp90_2600
                      refine WP_iload dX11_lend_90 rfl ?_
                      refine WQ_bipush (7) (7) dX11_lend_92 rfl rfl (fun v2602 hv2602 => ?_)
                      refine WP_iload_n dX11_lend_94 rfl ?_
                      refine WQ_imulK (7) dX11_lend_95 hv2602 (by omega) (by omega) (fun v2603 hv2603 => ?_)
                      refine WQ_icmp_ge 131 dX11_lend_96 rfl (fun c2603 => ?_) (fun c2603 => ?_)
                      · refine WP_iload dX11_lend_131 rfl ?_
                        exact WP_iret dX11_lend_133 rfl ⟨⟨rfl, rfl, rfl⟩, _, rfl⟩
                      · refine WP_iload dX11_lend_99 rfl ?_
                        refine WQ_iconst (1) (1) dX11_lend_101 rfl rfl (fun v2605 hv2605 => ?_)
                        refine WQ_icmp_ne 131 dX11_lend_102 rfl (fun c2605 => False.elim (by omega)) (fun c2605 => ?_)
                        refine WP_iload dX11_lend_105 rfl ?_
                        refine WP_iload dX11_lend_107 rfl ?_
                        refine WP_aload_n dX11_lend_109 rfl ?_
                        refine WP_getr dX11_lend_110 fX11_233 rfl (ly_is hy 0 11 rfl) (rf hr 0 24 6 (by decide)) ?_
                        refine WP_iload dX11_lend_113 rfl ?_
                        refine WQ_bipush (7) (7) dX11_lend_115 rfl rfl (fun v2607 hv2607 => ?_)
                        refine WQ_iremk (7) dX11_lend_117 hv2607 (by decide) (by omega) (fun v2608 hv2608 => ?_)
                        refine WQ_iald dX11_lend_118 (ly_is hy 6 13 rfl) (ly_n hy 6 7 rfl) (by omega) (by omega) (fun q hq => BT_get hI.1.1 6 0 7 (0) (0) (900) (by decide) q (Nat.zero_le _) hq) (fun v2609 av2609 bv2609 ev2609 => ?_)
                        clear ev2609
                        refine WP_callS2 dX11_lend_119 ⟨⟨⟨by decide, by decide⟩, zX11_stampsOf⟩, lX11_380, tX11_stampsOf⟩ (sm_stampsOf hy hr hI i2599 v2609 (by omega) (by omega) (by omega) (by omega)) (Nat.le_of_ble_eq_true rfl) ?_
                        intro r Ia Ja Ra hq
                        obtain ⟨⟨ea, eb, ec⟩, v2610, rfl, av2610, bv2610, cv2610⟩ := hq
                        show WP _ _ _ _ (.int _ :: _) _ _ _ _
                        rw [ea, eb, ec]
                        clear ea eb ec Ia Ja Ra
                        refine WQ_isub dX11_lend_122 (by omega) (by omega) (fun v2611 hv2611 => ?_)
                        refine WP_istore (ls' := [(0, _), (1, _), (2, _), (3, _), (4, _), (5, _), (6, _)]) dX11_lend_123 (by decide) rfl ?_
                        refine WP_iinc (ls' := [(0, _), (1, _), (2, _), (3, _), (4, _), (5, _), (6, _)]) dX11_lend_125 rfl (by decide) rfl ?_
                        have hv2612 : (i2600 + Int32.ofInt (1)).toInt = i2600.toInt + (1) := ia_n rfl (by omega) (by omega)
                        generalize i2600 + Int32.ofInt (1) = v2612 at hv2612 ⊢
                        refine WP_goto 90 dX11_lend_128 rfl ?_
                        exact WP_sub (fc rfl (fc rfl (fc rfl (fc rfl (fc rfl (fc rfl (fc rfl fn))))))) (ihlp90_2600 v2611 v2612 (by omega) (by omega) (by omega) (by omega) (by omega))
                  exact WP_sub (fc rfl (fc rfl (fc rfl (fc rfl (fc rfl (fc rfl (fc rfl fn))))))) (lp90_2600 _ i2578 v2598 (by omega) (by omega) (by omega) (by omega) (Nat.lt_succ_self _))
                · refine WP_iload dX11_lend_67 rfl ?_
                  refine WQ_sipush (1000) (1000) dX11_lend_69 rfl rfl (fun v2613 hv2613 => ?_)
                  refine WP_iload_n dX11_lend_72 rfl ?_
                  refine WQ_isub dX11_lend_73 (by omega) (by omega) (fun v2614 hv2614 => ?_)
                  refine WQ_imulb (999) (1000) dX11_lend_74 ⟨by omega, by omega⟩ ⟨by omega, by omega⟩ (by decide) (fun v2615 pv2615 av2615 bv2615 cv2615 => ?_)
                  refine WQ_sipush (1000) (1000) dX11_lend_75 rfl rfl (fun v2616 hv2616 => ?_)
                  refine WQ_idivk (1000) dX11_lend_78 hv2616 (by decide) (by omega) (fun v2617 hv2617 => ?_)
                  refine WP_istore (ls' := [(0, _), (1, _), (2, _), (3, _), (4, _), (5, _), (6, _)]) dX11_lend_79 (by decide) rfl ?_
                  refine WP_iinc (ls' := [(0, _), (1, _), (2, _), (3, _), (4, _), (5, _), (6, _)]) dX11_lend_81 rfl (by decide) rfl ?_
                  have hv2618 : (i2579 + Int32.ofInt (1)).toInt = i2579.toInt + (1) := ia_n rfl (by omega) (by omega)
                  generalize i2579 + Int32.ofInt (1) = v2618 at hv2618 ⊢
                  refine WP_goto 56 dX11_lend_84 rfl ?_
                  exact WP_sub (fc rfl (fc rfl (fc rfl (fc rfl (fc rfl (fc rfl (fc rfl fn))))))) (ihlp56_2579 v2617 v2618 (by omega) (by omega) (by omega) (by omega) (by omega))
          exact WP_sub (fc rfl (fc rfl (fc rfl (fc rfl (fc rfl (fc rfl (fc rfl fn))))))) (lp56_2579 _ c v2577 (by omega) (by omega) (by omega) (by omega) (Nat.lt_succ_self _))
        · refine WQ_bipush (-2) (-2) dX11_lend_47 rfl rfl (fun v2619 hv2619 => ?_)
          exact WP_iret dX11_lend_49 rfl ⟨⟨rfl, rfl, rfl⟩, _, rfl⟩
set_option maxHeartbeats 4000000 in
set_option maxRecDepth 100000 in
theorem sm_early {g : GG} {n : Int} {L : Int32} (hy : Ly g)  {I : pI} {J : pJ} {R : pR} (hr : Rf g R) (hI : MP g n L I) (c : Int32) (dd : Int32) (da : Int32)  : SP g mX11_early [.ref (ad g 0), .int c, .int dd, .int da] I J R (fun r I' J' R' => (I' = I ∧ J' = J ∧ R' = R) ∧ ∃ v : Int32, r = some (.int v)) := by
  refine SP_of ⟨by decide, rfl⟩ (Nat.le_of_ble_eq_true rfl) ?_
  have e2620 : I (ad g 0) 1 = L := hI.1.2
  have b2621 := BT_get hI.1.1 0 1 2 (0) (0) (900) (by decide) 1 (by decide) (by decide)
  rw [e2620] at b2621
  refine WP_iload_n dX11_early_0 rfl ?_
  refine WQ_i2l dX11_early_1 (fun l2622 hl2622 => ?_)
  refine WP_lconst (0) dX11_early_2 rfl ?_
  obtain ⟨l2623, hl2623, el2623⟩ : ∃ v : Int64, v.toInt = 0 ∧ (0 : Int64) = v := ⟨_, rfl, rfl⟩
  rw [el2623]; clear el2623
  refine WP_ldc2 (999) dX11_early_3 klX11_523 ?_
  obtain ⟨l2624, hl2624, el2624⟩ : ∃ v : Int64, v.toInt = (999) ∧ ((999) : Int64) = v := ⟨_, rfl, rfl⟩
  rw [el2624]; clear el2624
  refine WP_callS3 dX11_early_6 ⟨⟨⟨by decide, by decide⟩, zX11_in⟩, lX11_52, tX11_in⟩ (sm_in hy hr hI l2622 l2623 l2624 ) (Nat.le_of_ble_eq_true rfl) ?_
  intro r Ia Ja Ra hq
  obtain ⟨⟨ea, eb, ec⟩, v2625, rfl, av2625, bv2625, cv2625⟩ := hq
  show WP _ _ _ _ (.int _ :: _) _ _ _ _
  rw [ea, eb, ec]
  clear ea eb ec Ia Ja Ra
  refine WQ_if_eq 31 dX11_early_9 rfl (fun c2625 => ?_) (fun c2625 => ?_)
  · refine WQ_bipush (-2) (-2) dX11_early_31 rfl rfl (fun v2627 hv2627 => ?_)
    exact WP_iret dX11_early_33 rfl ⟨⟨rfl, rfl, rfl⟩, _, rfl⟩
  · refine WP_iload_n dX11_early_12 rfl ?_
    refine WQ_i2l dX11_early_13 (fun l2628 hl2628 => ?_)
    refine WP_lconst (0) dX11_early_14 rfl ?_
    obtain ⟨l2629, hl2629, el2629⟩ : ∃ v : Int64, v.toInt = 0 ∧ (0 : Int64) = v := ⟨_, rfl, rfl⟩
    rw [el2629]; clear el2629
    refine WP_ldc2 (60) dX11_early_15 klX11_361 ?_
    obtain ⟨l2630, hl2630, el2630⟩ : ∃ v : Int64, v.toInt = (60) ∧ ((60) : Int64) = v := ⟨_, rfl, rfl⟩
    rw [el2630]; clear el2630
    refine WP_callS3 dX11_early_18 ⟨⟨⟨by decide, by decide⟩, zX11_in⟩, lX11_52, tX11_in⟩ (sm_in hy hr hI l2628 l2629 l2630 ) (Nat.le_of_ble_eq_true rfl) ?_
    intro r Ia Ja Ra hq
    obtain ⟨⟨ea, eb, ec⟩, v2631, rfl, av2631, bv2631, cv2631⟩ := hq
    show WP _ _ _ _ (.int _ :: _) _ _ _ _
    rw [ea, eb, ec]
    clear ea eb ec Ia Ja Ra
    refine WQ_if_eq 31 dX11_early_21 rfl (fun c2631 => ?_) (fun c2631 => ?_)
    · refine WQ_bipush (-2) (-2) dX11_early_31 rfl rfl (fun v2633 hv2633 => ?_)
      exact WP_iret dX11_early_33 rfl ⟨⟨rfl, rfl, rfl⟩, _, rfl⟩
    · refine WP_iload_n dX11_early_24 rfl ?_
      refine WP_callS1 dX11_early_25 ⟨⟨⟨by decide, by decide⟩, zX11_isDay⟩, lX11_370, tX11_isDay⟩ (sm_isDay hy hr hI da ) (Nat.le_of_ble_eq_true rfl) ?_
      intro r Ia Ja Ra hq
      obtain ⟨⟨ea, eb, ec⟩, v2634, rfl, av2634, bv2634, cv2634⟩ := hq
      show WP _ _ _ _ (.int _ :: _) _ _ _ _
      rw [ea, eb, ec]
      clear ea eb ec Ia Ja Ra
      refine WQ_if_ne 34 dX11_early_28 rfl (fun c2634 => ?_) (fun c2634 => ?_)
      · refine WQ_iconst (0) (0) dX11_early_34 rfl rfl (fun v2636 hv2636 => ?_)
        refine WP_istore (ls' := [(0, _), (1, _), (2, _), (3, _), (4, _)]) dX11_early_35 (by decide) rfl ?_
        have lp37_2637 : ∀ (mz : Nat) (i2637 : Int32), 0 ≤ i2637.toInt → i2637.toInt ≤ 1000 → (1001 - i2637.toInt).toNat < mz → WP g mX11_early 37 [(0, .ref (ad g 0)), (1, .int c), (2, .int dd), (3, .int da), (4, .int i2637)] [] I J R (fun r I' J' R' => (I' = I ∧ J' = J ∧ R' = R) ∧ ∃ v : Int32, r = some (.int v)) := by
          intro mz
          induction mz with
          | zero =>
            intro i2637 ai2637 bi2637 hmlp37_2637
            exact absurd hmlp37_2637 (Nat.not_lt_zero _)
          | succ mz ihlp37_2637 =>
            intro i2637 ai2637 bi2637 hmlp37_2637
            refine WP_iload dX11_early_37 rfl ?_
            refine WQ_sipush (999) (999) dX11_early_39 rfl rfl (fun v2639 hv2639 => ?_)
            refine WQ_icmp_gt 101 dX11_early_42 rfl (fun c2639 => ?_) (fun c2639 => ?_)
            · refine WQ_iconst (-1) (-1) dX11_early_101 rfl rfl (fun v2641 hv2641 => ?_)
              exact WP_iret dX11_early_102 rfl ⟨⟨rfl, rfl, rfl⟩, _, rfl⟩
            · refine WP_iload dX11_early_45 rfl ?_
              refine WP_istore (ls' := [(0, _), (1, _), (2, _), (3, _), (4, _), (5, _)]) dX11_early_47 (by decide) rfl ?_
              refine WQ_iconst (0) (0) dX11_early_49 rfl rfl (fun v2642 hv2642 => ?_)
              refine WP_istore (ls' := [(0, _), (1, _), (2, _), (3, _), (4, _), (5, _), (6, _)]) dX11_early_50 (by decide) rfl ?_
              have lp52_2644 : ∀ (mz : Nat) (i2643 : Int32) (i2644 : Int32), 0 ≤ i2643.toInt → i2643.toInt ≤ 999 → 0 ≤ i2644.toInt → i2644.toInt ≤ 60 → (61 - i2644.toInt).toNat < mz → WP g mX11_early 52 [(0, .ref (ad g 0)), (1, .int c), (2, .int dd), (3, .int da), (4, .int i2637), (5, .int i2643), (6, .int i2644)] [] I J R (fun r I' J' R' => (I' = I ∧ J' = J ∧ R' = R) ∧ ∃ v : Int32, r = some (.int v)) := by
                intro mz
                induction mz with
                | zero =>
                  intro i2643 i2644 ai2643 bi2643 ai2644 bi2644 hmlp52_2644
                  exact absurd hmlp52_2644 (Nat.not_lt_zero _)
                | succ mz ihlp52_2644 =>
                  intro i2643 i2644 ai2643 bi2643 ai2644 bi2644 hmlp52_2644
                  refine WP_iload dX11_early_52 rfl ?_
                  refine WP_iload_n dX11_early_54 rfl ?_
                  refine WQ_icmp_ge 86 dX11_early_55 rfl (fun c2645 => ?_) (fun c2645 => ?_)
                  · refine WP_iload dX11_early_86 rfl ?_
                    refine WP_iload_n dX11_early_88 rfl ?_
                    refine WQ_icmp_lt 95 dX11_early_89 rfl (fun c2646 => ?_) (fun c2646 => ?_)
                    · refine WP_iinc (ls' := [(0, _), (1, _), (2, _), (3, _), (4, _), (5, _), (6, _)]) dX11_early_95 rfl (by decide) rfl ?_
                      have hv2648 : (i2637 + Int32.ofInt (1)).toInt = i2637.toInt + (1) := ia_n rfl (by omega) (by omega)
                      generalize i2637 + Int32.ofInt (1) = v2648 at hv2648 ⊢
                      refine WP_goto 37 dX11_early_98 rfl ?_
                      exact WP_sub (fc rfl (fc rfl (fc rfl (fc rfl (fc rfl fn))))) (ihlp37_2637 v2648 (by omega) (by omega) (by omega))
                    · refine WP_iload dX11_early_92 rfl ?_
                      exact WP_iret dX11_early_94 rfl ⟨⟨rfl, rfl, rfl⟩, _, rfl⟩
                  · refine WP_iload dX11_early_58 rfl ?_
                    refine WP_iload dX11_early_60 rfl ?_
                    refine WP_aload_n dX11_early_62 rfl ?_
                    refine WP_getr dX11_early_63 fX11_233 rfl (ly_is hy 0 11 rfl) (rf hr 0 24 6 (by decide)) ?_
                    refine WP_iload_n dX11_early_66 rfl ?_
                    refine WP_iload dX11_early_67 rfl ?_
                    refine WQ_iadd dX11_early_69 (by omega) (by omega) (fun v2649 hv2649 => ?_)
                    refine WQ_bipush (7) (7) dX11_early_70 rfl rfl (fun v2650 hv2650 => ?_)
                    refine WQ_iremk (7) dX11_early_72 hv2650 (by decide) (by omega) (fun v2651 hv2651 => ?_)
                    refine WQ_iald dX11_early_73 (ly_is hy 6 13 rfl) (ly_n hy 6 7 rfl) (by omega) (by omega) (fun q hq => BT_get hI.1.1 6 0 7 (0) (0) (900) (by decide) q (Nat.zero_le _) hq) (fun v2652 av2652 bv2652 ev2652 => ?_)
                    clear ev2652
                    refine WP_callS2 dX11_early_74 ⟨⟨⟨by decide, by decide⟩, zX11_stampsOf⟩, lX11_380, tX11_stampsOf⟩ (sm_stampsOf hy hr hI i2643 v2652 (by omega) (by omega) (by omega) (by omega)) (Nat.le_of_ble_eq_true rfl) ?_
                    intro r Ia Ja Ra hq
                    obtain ⟨⟨ea, eb, ec⟩, v2653, rfl, av2653, bv2653, cv2653⟩ := hq
                    show WP _ _ _ _ (.int _ :: _) _ _ _ _
                    rw [ea, eb, ec]
                    clear ea eb ec Ia Ja Ra
                    refine WQ_isub dX11_early_77 (by omega) (by omega) (fun v2654 hv2654 => ?_)
                    refine WP_istore (ls' := [(0, _), (1, _), (2, _), (3, _), (4, _), (5, _), (6, _)]) dX11_early_78 (by decide) rfl ?_
                    refine WP_iinc (ls' := [(0, _), (1, _), (2, _), (3, _), (4, _), (5, _), (6, _)]) dX11_early_80 rfl (by decide) rfl ?_
                    have hv2655 : (i2644 + Int32.ofInt (1)).toInt = i2644.toInt + (1) := ia_n rfl (by omega) (by omega)
                    generalize i2644 + Int32.ofInt (1) = v2655 at hv2655 ⊢
                    refine WP_goto 52 dX11_early_83 rfl ?_
                    exact WP_sub (fc rfl (fc rfl (fc rfl (fc rfl (fc rfl (fc rfl (fc rfl fn))))))) (ihlp52_2644 v2654 v2655 (by omega) (by omega) (by omega) (by omega) (by omega))
              exact WP_sub (fc rfl (fc rfl (fc rfl (fc rfl (fc rfl (fc rfl (fc rfl fn))))))) (lp52_2644 _ i2637 v2642 (by omega) (by omega) (by omega) (by omega) (Nat.lt_succ_self _))
        exact WP_sub (fc rfl (fc rfl (fc rfl (fc rfl (fc rfl fn))))) (lp37_2637 _ v2636 (by omega) (by omega) (Nat.lt_succ_self _))
      · refine WQ_bipush (-2) (-2) dX11_early_31 rfl rfl (fun v2656 hv2656 => ?_)
        exact WP_iret dX11_early_33 rfl ⟨⟨rfl, rfl, rfl⟩, _, rfl⟩
set_option maxHeartbeats 4000000 in
set_option maxRecDepth 100000 in
theorem sm_isLost {g : GG} {n : Int} {L : Int32} (hy : Ly g)  {I : pI} {J : pJ} {R : pR} (hr : Rf g R) (hI : MP g n L I) (so : Int32) (th : Int32) (da : Int32) (un : Int32) (co : Int32) (so_lo : 0 ≤ so.toInt) (so_hi : so.toInt ≤ 3) (th_lo : -1 ≤ th.toInt) (th_hi : th.toInt ≤ 3) (da_lo : 0 ≤ da.toInt) (da_hi : da.toInt ≤ 6) (un_lo : 0 ≤ un.toInt) (un_hi : un.toInt ≤ 1000) (co_lo : 0 ≤ co.toInt) (co_hi : co.toInt ≤ 1000) : SP g mX11_isLost [.ref (ad g 0), .int so, .int th, .int da, .int un, .int co] I J R (fun r I' J' R' => (I' = I ∧ J' = J ∧ R' = R) ∧ ∃ v : Int32, r = some (.int v) ∧ 0 ≤ v.toInt ∧ v.toInt ≤ 1) := by
  refine SP_of ⟨by decide, rfl⟩ (Nat.le_of_ble_eq_true rfl) ?_
  have e2657 : I (ad g 0) 1 = L := hI.1.2
  have b2658 := BT_get hI.1.1 0 1 2 (0) (0) (900) (by decide) 1 (by decide) (by decide)
  rw [e2657] at b2658
  refine WQ_bipush (7) (7) dX11_isLost_0 rfl rfl (fun v2659 hv2659 => ?_)
  refine WP_iload_n dX11_isLost_2 rfl ?_
  refine WQ_imulK (7) dX11_isLost_3 hv2659 (by omega) (by omega) (fun v2660 hv2660 => ?_)
  refine WP_iload_n dX11_isLost_4 rfl ?_
  refine WQ_iadd dX11_isLost_5 (by omega) (by omega) (fun v2661 hv2661 => ?_)
  refine WP_istore (ls' := [(0, _), (1, _), (2, _), (3, _), (4, _), (5, _), (6, _)]) dX11_isLost_6 (by decide) rfl ?_
  refine WP_aload_n dX11_isLost_8 rfl ?_
  refine WP_getr dX11_isLost_9 fX11_261 rfl (ly_is hy 0 11 rfl) (rf hr 0 42 24 (by decide)) ?_
  refine WP_iload dX11_isLost_12 rfl ?_
  refine WQ_iald dX11_isLost_14 (ly_is hy 24 13 rfl) (ly_n hy 24 28 rfl) (by omega) (by omega) (fun q hq => BT_get hI.1.1 24 0 28 (-1) (0) (2) (by decide) q (Nat.zero_le _) hq) (fun v2662 av2662 bv2662 ev2662 => ?_)
  clear ev2662
  refine WP_iload_n dX11_isLost_15 rfl ?_
  refine WQ_icmp_ne 31 dX11_isLost_16 rfl (fun c2662 => ?_) (fun c2662 => ?_)
  · refine WQ_iconst (1) (1) dX11_isLost_31 rfl rfl (fun v2664 hv2664 => ?_)
    exact WP_zret dX11_isLost_32 rfl (nar_z (by omega)) ⟨⟨rfl, rfl, rfl⟩, _, rfl, by omega, by omega⟩
  · refine WP_aload_n dX11_isLost_19 rfl ?_
    refine WP_getr dX11_isLost_20 fX11_264 rfl (ly_is hy 0 11 rfl) (rf hr 0 43 25 (by decide)) ?_
    refine WP_iload dX11_isLost_23 rfl ?_
    refine WQ_iald dX11_isLost_25 (ly_is hy 25 13 rfl) (ly_n hy 25 28 rfl) (by omega) (by omega) (fun q hq => BT_get hI.1.1 25 0 28 (0) (0) (3) (by decide) q (Nat.zero_le _) hq) (fun v2665 av2665 bv2665 ev2665 => ?_)
    clear ev2665
    refine WP_iload dX11_isLost_26 rfl ?_
    refine WQ_icmp_ge 33 dX11_isLost_28 rfl (fun c2665 => ?_) (fun c2665 => ?_)
    · refine WP_aload_n dX11_isLost_33 rfl ?_
      refine WP_getr dX11_isLost_34 fX11_267 rfl (ly_is hy 0 11 rfl) (rf hr 0 44 26 (by decide)) ?_
      refine WP_iload dX11_isLost_37 rfl ?_
      refine WQ_iald dX11_isLost_39 (ly_is hy 26 13 rfl) (ly_n hy 26 28 rfl) (by omega) (by omega) (fun q hq => BT_get hI.1.1 26 0 28 (0) (0) (99) (by decide) q (Nat.zero_le _) hq) (fun v2667 av2667 bv2667 ev2667 => ?_)
      clear ev2667
      refine WP_iload dX11_isLost_40 rfl ?_
      have jn86_2682 : ∀ (v2682 : Int32), 0 ≤ v2682.toInt → v2682.toInt ≤ 1 → WP g mX11_isLost 86 [(0, .ref (ad g 0)), (1, .int so), (2, .int th), (3, .int da), (4, .int un), (5, .int co), (6, .int v2661)] [.int v2682] I J R (fun r I' J' R' => (I' = I ∧ J' = J ∧ R' = R) ∧ ∃ v : Int32, r = some (.int v) ∧ 0 ≤ v.toInt ∧ v.toInt ≤ 1) := by
        intro v2682 av2682 bv2682
        exact WP_zret dX11_isLost_86 rfl (nar_z (by omega)) ⟨⟨rfl, rfl, rfl⟩, _, rfl, by omega, by omega⟩
      refine WQ_icmp_ge 85 dX11_isLost_42 rfl (fun c2683 => ?_) (fun c2683 => ?_)
      · refine WQ_iconst (0) (0) dX11_isLost_85 rfl rfl (fun v2685 hv2685 => ?_)
        exact WP_sub (fc rfl (fc rfl (fc rfl (fc rfl (fc rfl (fc rfl (fc rfl fn))))))) (jn86_2682 v2685 (by omega) (by omega))
      · refine WP_aload_n dX11_isLost_45 rfl ?_
        refine WP_getr dX11_isLost_46 fX11_233 rfl (ly_is hy 0 11 rfl) (rf hr 0 24 6 (by decide)) ?_
        refine WP_iload_n dX11_isLost_49 rfl ?_
        refine WQ_iald dX11_isLost_50 (ly_is hy 6 13 rfl) (ly_n hy 6 7 rfl) (by omega) (by omega) (fun q hq => BT_get hI.1.1 6 0 7 (0) (0) (900) (by decide) q (Nat.zero_le _) hq) (fun v2686 av2686 bv2686 ev2686 => ?_)
        clear ev2686
        refine WQ_if_le 81 dX11_isLost_51 rfl (fun c2686 => ?_) (fun c2686 => ?_)
        · refine WQ_iconst (1) (1) dX11_isLost_81 rfl rfl (fun v2688 hv2688 => ?_)
          refine WP_goto 86 dX11_isLost_82 rfl ?_
          exact WP_sub (fc rfl (fc rfl (fc rfl (fc rfl (fc rfl (fc rfl (fc rfl fn))))))) (jn86_2682 v2688 (by omega) (by omega))
        · refine WP_aload_n dX11_isLost_54 rfl ?_
          refine WP_getr dX11_isLost_55 fX11_267 rfl (ly_is hy 0 11 rfl) (rf hr 0 44 26 (by decide)) ?_
          refine WP_iload dX11_isLost_58 rfl ?_
          refine WQ_iald dX11_isLost_60 (ly_is hy 26 13 rfl) (ly_n hy 26 28 rfl) (by omega) (by omega) (fun q hq => BT_get hI.1.1 26 0 28 (0) (0) (99) (by decide) q (Nat.zero_le _) hq) (fun v2689 av2689 bv2689 ev2689 => ?_)
          clear ev2689
          refine WQ_sipush (1000) (1000) dX11_isLost_61 rfl rfl (fun v2690 hv2690 => ?_)
          refine WQ_imulk (1000) dX11_isLost_64 hv2690 (by omega) (by omega) (fun v2691 hv2691 => ?_)
          refine WP_iload dX11_isLost_65 rfl ?_
          refine WQ_sipush (1000) (1000) dX11_isLost_67 rfl rfl (fun v2692 hv2692 => ?_)
          refine WP_aload_n dX11_isLost_70 rfl ?_
          refine WP_getr dX11_isLost_71 fX11_233 rfl (ly_is hy 0 11 rfl) (rf hr 0 24 6 (by decide)) ?_
          refine WP_iload_n dX11_isLost_74 rfl ?_
          refine WQ_iald dX11_isLost_75 (ly_is hy 6 13 rfl) (ly_n hy 6 7 rfl) (by omega) (by omega) (fun q hq => BT_get hI.1.1 6 0 7 (0) (0) (900) (by decide) q (Nat.zero_le _) hq) (fun v2693 av2693 bv2693 ev2693 => ?_)
          clear ev2693
          refine WQ_isub dX11_isLost_76 (by omega) (by omega) (fun v2694 hv2694 => ?_)
          refine WQ_imulb (1000) (1000) dX11_isLost_77 ⟨by omega, by omega⟩ ⟨by omega, by omega⟩ (by decide) (fun v2695 pv2695 av2695 bv2695 cv2695 => ?_)
          refine WQ_icmp_ge 85 dX11_isLost_78 rfl (fun c2695 => ?_) (fun c2695 => ?_)
          · refine WQ_iconst (0) (0) dX11_isLost_85 rfl rfl (fun v2697 hv2697 => ?_)
            exact WP_sub (fc rfl (fc rfl (fc rfl (fc rfl (fc rfl (fc rfl (fc rfl fn))))))) (jn86_2682 v2697 (by omega) (by omega))
          · refine WQ_iconst (1) (1) dX11_isLost_81 rfl rfl (fun v2698 hv2698 => ?_)
            refine WP_goto 86 dX11_isLost_82 rfl ?_
            exact WP_sub (fc rfl (fc rfl (fc rfl (fc rfl (fc rfl (fc rfl (fc rfl fn))))))) (jn86_2682 v2698 (by omega) (by omega))
    · refine WQ_iconst (1) (1) dX11_isLost_31 rfl rfl (fun v2699 hv2699 => ?_)
      exact WP_zret dX11_isLost_32 rfl (nar_z (by omega)) ⟨⟨rfl, rfl, rfl⟩, _, rfl, by omega, by omega⟩
