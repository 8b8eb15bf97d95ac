set_option maxHeartbeats 4000000 in
set_option maxRecDepth 100000 in
theorem sm_isDay {g : GG} {n : Int} {L : Int32} (hy : Ly g)  {I : pI} {J : pJ} {R : pR} (hr : Rf g R) (hI : MP g n L I) (a : Int32)  : SP g mX11_isDay [.int a] I J R (fun r I' J' R' => (I' = I ∧ J' = J ∧ R' = R) ∧ ∃ v : Int32, r = some (.int v) ∧ 0 ≤ v.toInt ∧ v.toInt ≤ 1 ∧ (v.toInt = 1 ↔ 0 ≤ a.toInt ∧ a.toInt ≤ 6)) := by
  refine SP_of ⟨by decide, rfl⟩ (Nat.le_of_ble_eq_true rfl) ?_
  have e1829 : I (ad g 0) 1 = L := hI.1.2
  have b1830 := BT_get hI.1.1 0 1 2 (0) (0) (900) (by decide) 1 (by decide) (by decide)
  rw [e1829] at b1830
  refine WP_iload_n dX11_isDay_0 rfl ?_
  refine WQ_i2l dX11_isDay_1 (fun l1831 hl1831 => ?_)
  refine WP_lconst (0) dX11_isDay_2 rfl ?_
  obtain ⟨l1832, hl1832, el1832⟩ : ∃ v : Int64, v.toInt = 0 ∧ (0 : Int64) = v := ⟨_, rfl, rfl⟩
  rw [el1832]; clear el1832
  refine WP_ldc2 (6) dX11_isDay_3 klX11_365 ?_
  obtain ⟨l1833, hl1833, el1833⟩ : ∃ v : Int64, v.toInt = (6) ∧ ((6) : Int64) = v := ⟨_, rfl, rfl⟩
  rw [el1833]; clear el1833
  refine WP_callS3 dX11_isDay_6 ⟨⟨⟨by decide, by decide⟩, zX11_in⟩, lX11_52, tX11_in⟩ (sm_in hy hr hI l1831 l1832 l1833 ) (Nat.le_of_ble_eq_true rfl) ?_
  intro r Ia Ja Ra hq
  obtain ⟨⟨ea, eb, ec⟩, v1834, rfl, av1834, bv1834, cv1834⟩ := hq
  show WP _ _ _ _ (.int _ :: _) _ _ _ _
  rw [ea, eb, ec]
  clear ea eb ec Ia Ja Ra
  exact WP_zret dX11_isDay_9 rfl (nar_z (by omega)) ⟨⟨rfl, rfl, rfl⟩, _, rfl, by omega, by omega, by omega⟩
set_option maxHeartbeats 4000000 in
set_option maxRecDepth 100000 in
theorem sm_areCoins {g : GG} {n : Int} {L : Int32} (hy : Ly g)  {I : pI} {J : pJ} {R : pR} (hr : Rf g R) (hI : MP g n L I) (a : Int32)  : SP g mX11_areCoins [.int a] I J R (fun r I' J' R' => (I' = I ∧ J' = J ∧ R' = R) ∧ ∃ v : Int32, r = some (.int v) ∧ 0 ≤ v.toInt ∧ v.toInt ≤ 1 ∧ (v.toInt = 1 ↔ 0 ≤ a.toInt ∧ a.toInt ≤ 60)) := by
  refine SP_of ⟨by decide, rfl⟩ (Nat.le_of_ble_eq_true rfl) ?_
  have e1835 : I (ad g 0) 1 = L := hI.1.2
  have b1836 := BT_get hI.1.1 0 1 2 (0) (0) (900) (by decide) 1 (by decide) (by decide)
  rw [e1835] at b1836
  refine WP_iload_n dX11_areCoins_0 rfl ?_
  refine WQ_i2l dX11_areCoins_1 (fun l1837 hl1837 => ?_)
  refine WP_lconst (0) dX11_areCoins_2 rfl ?_
  obtain ⟨l1838, hl1838, el1838⟩ : ∃ v : Int64, v.toInt = 0 ∧ (0 : Int64) = v := ⟨_, rfl, rfl⟩
  rw [el1838]; clear el1838
  refine WP_ldc2 (60) dX11_areCoins_3 klX11_361 ?_
  obtain ⟨l1839, hl1839, el1839⟩ : ∃ v : Int64, v.toInt = (60) ∧ ((60) : Int64) = v := ⟨_, rfl, rfl⟩
  rw [el1839]; clear el1839
  refine WP_callS3 dX11_areCoins_6 ⟨⟨⟨by decide, by decide⟩, zX11_in⟩, lX11_52, tX11_in⟩ (sm_in hy hr hI l1837 l1838 l1839 ) (Nat.le_of_ble_eq_true rfl) ?_
  intro r Ia Ja Ra hq
  obtain ⟨⟨ea, eb, ec⟩, v1840, rfl, av1840, bv1840, cv1840⟩ := hq
  show WP _ _ _ _ (.int _ :: _) _ _ _ _
  rw [ea, eb, ec]
  clear ea eb ec Ia Ja Ra
  exact WP_zret dX11_areCoins_9 rfl (nar_z (by omega)) ⟨⟨rfl, rfl, rfl⟩, _, rfl, by omega, by omega, by omega⟩
set_option maxHeartbeats 4000000 in
set_option maxRecDepth 100000 in
theorem sm_isStore {g : GG} {n : Int} {L : Int32} (hy : Ly g)  {I : pI} {J : pJ} {R : pR} (hr : Rf g R) (hI : MP g n L I) (a : Int32)  : SP g mX11_isStore [.int a] I J R (fun r I' J' R' => (I' = I ∧ J' = J ∧ R' = R) ∧ ∃ v : Int32, r = some (.int v) ∧ 0 ≤ v.toInt ∧ v.toInt ≤ 1 ∧ (v.toInt = 1 ↔ 0 ≤ a.toInt ∧ a.toInt ≤ 5)) := by
  refine SP_of ⟨by decide, rfl⟩ (Nat.le_of_ble_eq_true rfl) ?_
  have e1841 : I (ad g 0) 1 = L := hI.1.2
  have b1842 := BT_get hI.1.1 0 1 2 (0) (0) (900) (by decide) 1 (by decide) (by decide)
  rw [e1841] at b1842
  refine WP_iload_n dX11_isStore_0 rfl ?_
  refine WQ_i2l dX11_isStore_1 (fun l1843 hl1843 => ?_)
  refine WP_lconst (0) dX11_isStore_2 rfl ?_
  obtain ⟨l1844, hl1844, el1844⟩ : ∃ v : Int64, v.toInt = 0 ∧ (0 : Int64) = v := ⟨_, rfl, rfl⟩
  rw [el1844]; clear el1844
  refine WP_ldc2 (5) dX11_isStore_3 klX11_378 ?_
  obtain ⟨l1845, hl1845, el1845⟩ : ∃ v : Int64, v.toInt = (5) ∧ ((5) : Int64) = v := ⟨_, rfl, rfl⟩
  rw [el1845]; clear el1845
  refine WP_callS3 dX11_isStore_6 ⟨⟨⟨by decide, by decide⟩, zX11_in⟩, lX11_52, tX11_in⟩ (sm_in hy hr hI l1843 l1844 l1845 ) (Nat.le_of_ble_eq_true rfl) ?_
  intro r Ia Ja Ra hq
  obtain ⟨⟨ea, eb, ec⟩, v1846, rfl, av1846, bv1846, cv1846⟩ := hq
  show WP _ _ _ _ (.int _ :: _) _ _ _ _
  rw [ea, eb, ec]
  clear ea eb ec Ia Ja Ra
  exact WP_zret dX11_isStore_9 rfl (nar_z (by omega)) ⟨⟨rfl, rfl, rfl⟩, _, rfl, by omega, by omega, by omega⟩
set_option maxHeartbeats 4000000 in
set_option maxRecDepth 100000 in
theorem sm_isWay {g : GG} {n : Int} {L : Int32} (hy : Ly g)  {I : pI} {J : pJ} {R : pR} (hr : Rf g R) (hI : MP g n L I) (a : Int32)  : SP g mX11_isWay [.int a] I J R (fun r I' J' R' => (I' = I ∧ J' = J ∧ R' = R) ∧ ∃ v : Int32, r = some (.int v) ∧ 0 ≤ v.toInt ∧ v.toInt ≤ 1 ∧ (v.toInt = 1 ↔ 0 ≤ a.toInt ∧ a.toInt ≤ 4)) := by
  refine SP_of ⟨by decide, rfl⟩ (Nat.le_of_ble_eq_true rfl) ?_
  have e1847 : I (ad g 0) 1 = L := hI.1.2
  have b1848 := BT_get hI.1.1 0 1 2 (0) (0) (900) (by decide) 1 (by decide) (by decide)
  rw [e1847] at b1848
  refine WP_iload_n dX11_isWay_0 rfl ?_
  refine WQ_i2l dX11_isWay_1 (fun l1849 hl1849 => ?_)
  refine WP_lconst (0) dX11_isWay_2 rfl ?_
  obtain ⟨l1850, hl1850, el1850⟩ : ∃ v : Int64, v.toInt = 0 ∧ (0 : Int64) = v := ⟨_, rfl, rfl⟩
  rw [el1850]; clear el1850
  refine WP_ldc2 (4) dX11_isWay_3 klX11_452 ?_
  obtain ⟨l1851, hl1851, el1851⟩ : ∃ v : Int64, v.toInt = (4) ∧ ((4) : Int64) = v := ⟨_, rfl, rfl⟩
  rw [el1851]; clear el1851
  refine WP_callS3 dX11_isWay_6 ⟨⟨⟨by decide, by decide⟩, zX11_in⟩, lX11_52, tX11_in⟩ (sm_in hy hr hI l1849 l1850 l1851 ) (Nat.le_of_ble_eq_true rfl) ?_
  intro r Ia Ja Ra hq
  obtain ⟨⟨ea, eb, ec⟩, v1852, rfl, av1852, bv1852, cv1852⟩ := hq
  show WP _ _ _ _ (.int _ :: _) _ _ _ _
  rw [ea, eb, ec]
  clear ea eb ec Ia Ja Ra
  exact WP_zret dX11_isWay_9 rfl (nar_z (by omega)) ⟨⟨rfl, rfl, rfl⟩, _, rfl, by omega, by omega, by omega⟩
set_option maxHeartbeats 4000000 in
set_option maxRecDepth 100000 in
theorem sm_isSlot {g : GG} {n : Int} {L : Int32} (hy : Ly g)  {I : pI} {J : pJ} {R : pR} (hr : Rf g R) (hI : MP g n L I) (a : Int32)  : SP g mX11_isSlot [.int a] I J R (fun r I' J' R' => (I' = I ∧ J' = J ∧ R' = R) ∧ ∃ v : Int32, r = some (.int v) ∧ 0 ≤ v.toInt ∧ v.toInt ≤ 1 ∧ (v.toInt = 1 ↔ 0 ≤ a.toInt ∧ a.toInt ≤ 2)) := by
  refine SP_of ⟨by decide, rfl⟩ (Nat.le_of_ble_eq_true rfl) ?_
  have e1853 : I (ad g 0) 1 = L := hI.1.2
  have b1854 := BT_get hI.1.1 0 1 2 (0) (0) (900) (by decide) 1 (by decide) (by decide)
  rw [e1853] at b1854
  refine WP_iload_n dX11_isSlot_0 rfl ?_
  refine WQ_i2l dX11_isSlot_1 (fun l1855 hl1855 => ?_)
  refine WP_lconst (0) dX11_isSlot_2 rfl ?_
  obtain ⟨l1856, hl1856, el1856⟩ : ∃ v : Int64, v.toInt = 0 ∧ (0 : Int64) = v := ⟨_, rfl, rfl⟩
  rw [el1856]; clear el1856
  refine WP_ldc2 (2) dX11_isSlot_3 klX11_376 ?_
  obtain ⟨l1857, hl1857, el1857⟩ : ∃ v : Int64, v.toInt = (2) ∧ ((2) : Int64) = v := ⟨_, rfl, rfl⟩
  rw [el1857]; clear el1857
  refine WP_callS3 dX11_isSlot_6 ⟨⟨⟨by decide, by decide⟩, zX11_in⟩, lX11_52, tX11_in⟩ (sm_in hy hr hI l1855 l1856 l1857 ) (Nat.le_of_ble_eq_true rfl) ?_
  intro r Ia Ja Ra hq
  obtain ⟨⟨ea, eb, ec⟩, v1858, rfl, av1858, bv1858, cv1858⟩ := hq
  show WP _ _ _ _ (.int _ :: _) _ _ _ _
  rw [ea, eb, ec]
  clear ea eb ec Ia Ja Ra
  exact WP_zret dX11_isSlot_9 rfl (nar_z (by omega)) ⟨⟨rfl, rfl, rfl⟩, _, rfl, by omega, by omega, by omega⟩
set_option maxHeartbeats 4000000 in
set_option maxRecDepth 100000 in
theorem sm_isMeet {g : GG} {n : Int} {L : Int32} (hy : Ly g)  {I : pI} {J : pJ} {R : pR} (hr : Rf g R) (hI : MP g n L I) (a : Int32) (b : Int32) (c : Int32)  : SP g mX11_isMeet [.int a, .int b, .int c] I J R (fun r I' J' R' => (I' = I ∧ J' = J ∧ R' = R) ∧ ∃ v : Int32, r = some (.int v) ∧ 0 ≤ v.toInt ∧ v.toInt ≤ 1 ∧ (v.toInt = 1 ↔ (0 ≤ a.toInt ∧ a.toInt ≤ 100) ∧ (0 ≤ b.toInt ∧ b.toInt ≤ 900) ∧ (0 ≤ c.toInt ∧ c.toInt ≤ 40))) := by
  refine SP_of ⟨by decide, rfl⟩ (Nat.le_of_ble_eq_true rfl) ?_
  have e1859 : I (ad g 0) 1 = L := hI.1.2
  have b1860 := BT_get hI.1.1 0 1 2 (0) (0) (900) (by decide) 1 (by decide) (by decide)
  rw [e1859] at b1860
  refine WP_iload_n dX11_isMeet_0 rfl ?_
  refine WQ_i2l dX11_isMeet_1 (fun l1861 hl1861 => ?_)
  refine WP_lconst (0) dX11_isMeet_2 rfl ?_
  obtain ⟨l1862, hl1862, el1862⟩ : ∃ v : Int64, v.toInt = 0 ∧ (0 : Int64) = v := ⟨_, rfl, rfl⟩
  rw [el1862]; clear el1862
  refine WP_ldc2 (100) dX11_isMeet_3 klX11_517 ?_
  obtain ⟨l1863, hl1863, el1863⟩ : ∃ v : Int64, v.toInt = (100) ∧ ((100) : Int64) = v := ⟨_, rfl, rfl⟩
  rw [el1863]; clear el1863
  refine WP_callS3 dX11_isMeet_6 ⟨⟨⟨by decide, by decide⟩, zX11_in⟩, lX11_52, tX11_in⟩ (sm_in hy hr hI l1861 l1862 l1863 ) (Nat.le_of_ble_eq_true rfl) ?_
  intro r Ia Ja Ra hq
  obtain ⟨⟨ea, eb, ec⟩, v1864, rfl, av1864, bv1864, cv1864⟩ := hq
  show WP _ _ _ _ (.int _ :: _) _ _ _ _
  rw [ea, eb, ec]
  clear ea eb ec Ia Ja Ra
  refine WQ_if_eq 40 dX11_isMeet_9 rfl (fun c1864 => ?_) (fun c1864 => ?_)
  · refine WQ_iconst (0) (0) dX11_isMeet_40 rfl rfl (fun v1866 hv1866 => ?_)
    exact WP_zret dX11_isMeet_41 rfl (nar_z (by omega)) ⟨⟨rfl, rfl, rfl⟩, _, rfl, by omega, by omega, by omega⟩
  · refine WP_iload_n dX11_isMeet_12 rfl ?_
    refine WQ_i2l dX11_isMeet_13 (fun l1867 hl1867 => ?_)
    refine WP_lconst (0) dX11_isMeet_14 rfl ?_
    obtain ⟨l1868, hl1868, el1868⟩ : ∃ v : Int64, v.toInt = 0 ∧ (0 : Int64) = v := ⟨_, rfl, rfl⟩
    rw [el1868]; clear el1868
    refine WP_ldc2 (900) dX11_isMeet_15 klX11_536 ?_
    obtain ⟨l1869, hl1869, el1869⟩ : ∃ v : Int64, v.toInt = (900) ∧ ((900) : Int64) = v := ⟨_, rfl, rfl⟩
    rw [el1869]; clear el1869
    refine WP_callS3 dX11_isMeet_18 ⟨⟨⟨by decide, by decide⟩, zX11_in⟩, lX11_52, tX11_in⟩ (sm_in hy hr hI l1867 l1868 l1869 ) (Nat.le_of_ble_eq_true rfl) ?_
    intro r Ia Ja Ra hq
    obtain ⟨⟨ea, eb, ec⟩, v1870, rfl, av1870, bv1870, cv1870⟩ := hq
    show WP _ _ _ _ (.int _ :: _) _ _ _ _
    rw [ea, eb, ec]
    clear ea eb ec Ia Ja Ra
    refine WQ_if_eq 40 dX11_isMeet_21 rfl (fun c1870 => ?_) (fun c1870 => ?_)
    · refine WQ_iconst (0) (0) dX11_isMeet_40 rfl rfl (fun v1872 hv1872 => ?_)
      exact WP_zret dX11_isMeet_41 rfl (nar_z (by omega)) ⟨⟨rfl, rfl, rfl⟩, _, rfl, by omega, by omega, by omega⟩
    · refine WP_iload_n dX11_isMeet_24 rfl ?_
      refine WQ_i2l dX11_isMeet_25 (fun l1873 hl1873 => ?_)
      refine WP_lconst (0) dX11_isMeet_26 rfl ?_
      obtain ⟨l1874, hl1874, el1874⟩ : ∃ v : Int64, v.toInt = 0 ∧ (0 : Int64) = v := ⟨_, rfl, rfl⟩
      rw [el1874]; clear el1874
      refine WP_ldc2 (40) dX11_isMeet_27 klX11_538 ?_
      obtain ⟨l1875, hl1875, el1875⟩ : ∃ v : Int64, v.toInt = (40) ∧ ((40) : Int64) = v := ⟨_, rfl, rfl⟩
      rw [el1875]; clear el1875
      refine WP_callS3 dX11_isMeet_30 ⟨⟨⟨by decide, by decide⟩, zX11_in⟩, lX11_52, tX11_in⟩ (sm_in hy hr hI l1873 l1874 l1875 ) (Nat.le_of_ble_eq_true rfl) ?_
      intro r Ia Ja Ra hq
      obtain ⟨⟨ea, eb, ec⟩, v1876, rfl, av1876, bv1876, cv1876⟩ := hq
      show WP _ _ _ _ (.int _ :: _) _ _ _ _
      rw [ea, eb, ec]
      clear ea eb ec Ia Ja Ra
      refine WQ_if_eq 40 dX11_isMeet_33 rfl (fun c1876 => ?_) (fun c1876 => ?_)
      · refine WQ_iconst (0) (0) dX11_isMeet_40 rfl rfl (fun v1878 hv1878 => ?_)
        exact WP_zret dX11_isMeet_41 rfl (nar_z (by omega)) ⟨⟨rfl, rfl, rfl⟩, _, rfl, by omega, by omega, by omega⟩
      · refine WQ_iconst (1) (1) dX11_isMeet_36 rfl rfl (fun v1879 hv1879 => ?_)
        refine WP_goto 41 dX11_isMeet_37 rfl ?_
        exact WP_zret dX11_isMeet_41 rfl (nar_z (by omega)) ⟨⟨rfl, rfl, rfl⟩, _, rfl, by omega, by omega, by omega⟩
set_option maxHeartbeats 4000000 in
set_option maxRecDepth 100000 in
theorem sm_isSort {g : GG} {n : Int} {L : Int32} (hy : Ly g)  {I : pI} {J : pJ} {R : pR} (hr : Rf g R) (hI : MP g n L I) (a : Int32)  : SP g mX11_isSort [.ref (ad g 0), .int a] I J R (fun r I' J' R' => (I' = I ∧ J' = J ∧ R' = R) ∧ ∃ v : Int32, r = some (.int v) ∧ 0 ≤ v.toInt ∧ v.toInt ≤ 1 ∧ (v.toInt = 1 → 0 ≤ a.toInt ∧ a.toInt ≤ 3 ∧ a.toInt < (I (ad g 0) 10).toInt)) := by
  refine SP_of ⟨by decide, rfl⟩ (Nat.le_of_ble_eq_true rfl) ?_
  have e1880 : I (ad g 0) 1 = L := hI.1.2
  have b1881 := BT_get hI.1.1 0 1 2 (0) (0) (900) (by decide) 1 (by decide) (by decide)
  rw [e1880] at b1881
  refine WP_iload_n dX11_isSort_0 rfl ?_
  refine WQ_i2l dX11_isSort_1 (fun l1882 hl1882 => ?_)
  refine WP_lconst (0) dX11_isSort_2 rfl ?_
  obtain ⟨l1883, hl1883, el1883⟩ : ∃ v : Int64, v.toInt = 0 ∧ (0 : Int64) = v := ⟨_, rfl, rfl⟩
  rw [el1883]; clear el1883
  refine WP_aload_n dX11_isSort_3 rfl ?_
  refine WQ_geti dX11_isSort_4 fX11_329 rfl (ly_is hy 0 11 rfl) (BT_get hI.1.1 0 10 11 (0) (0) (4) (by decide) 10 (by decide) (by decide)) (fun v1884 ev1884 av1884 bv1884 => ?_)
  refine WQ_i2l dX11_isSort_7 (fun l1885 hl1885 => ?_)
  refine WP_lconst (1) dX11_isSort_8 rfl ?_
  obtain ⟨l1886, hl1886, el1886⟩ : ∃ v : Int64, v.toInt = 1 ∧ (1 : Int64) = v := ⟨_, rfl, rfl⟩
  rw [el1886]; clear el1886
  refine WQ_lsubi dX11_isSort_9 (by omega) (by omega) (fun l1887 hl1887 => ?_)
  refine WP_callS3 dX11_isSort_10 ⟨⟨⟨by decide, by decide⟩, zX11_in⟩, lX11_52, tX11_in⟩ (sm_in hy hr hI l1882 l1883 l1887 ) (Nat.le_of_ble_eq_true rfl) ?_
  intro r Ia Ja Ra hq
  obtain ⟨⟨ea, eb, ec⟩, v1888, rfl, av1888, bv1888, cv1888⟩ := hq
  show WP _ _ _ _ (.int _ :: _) _ _ _ _
  rw [ea, eb, ec]
  clear ea eb ec Ia Ja Ra
  exact WP_zret dX11_isSort_13 rfl (nar_z (by omega)) ⟨⟨rfl, rfl, rfl⟩, _, rfl, by omega, by omega, by (try rw [ev1884]); omega⟩
set_option maxHeartbeats 4000000 in
set_option maxRecDepth 100000 in
theorem sm_isThing {g : GG} {n : Int} {L : Int32} (hy : Ly g)  {I : pI} {J : pJ} {R : pR} (hr : Rf g R) (hI : MP g n L I) (a : Int32)  : SP g mX11_isThing [.ref (ad g 0), .int a] I J R (fun r I' J' R' => (I' = I ∧ J' = J ∧ R' = R) ∧ ∃ v : Int32, r = some (.int v) ∧ 0 ≤ v.toInt ∧ v.toInt ≤ 1 ∧ (v.toInt = 1 → 0 ≤ a.toInt ∧ a.toInt ≤ 2)) := by
  refine SP_of ⟨by decide, rfl⟩ (Nat.le_of_ble_eq_true rfl) ?_
  have e1889 : I (ad g 0) 1 = L := hI.1.2
  have b1890 := BT_get hI.1.1 0 1 2 (0) (0) (900) (by decide) 1 (by decide) (by decide)
  rw [e1889] at b1890
  refine WP_iload_n dX11_isThing_0 rfl ?_
  refine WQ_i2l dX11_isThing_1 (fun l1891 hl1891 => ?_)
  refine WP_lconst (0) dX11_isThing_2 rfl ?_
  obtain ⟨l1892, hl1892, el1892⟩ : ∃ v : Int64, v.toInt = 0 ∧ (0 : Int64) = v := ⟨_, rfl, rfl⟩
  rw [el1892]; clear el1892
  refine WP_aload_n dX11_isThing_3 rfl ?_
  refine WQ_geti dX11_isThing_4 fX11_332 rfl (ly_is hy 0 11 rfl) (BT_get hI.1.1 0 11 12 (0) (0) (3) (by decide) 11 (by decide) (by decide)) (fun v1893 ev1893 av1893 bv1893 => ?_)
  refine WQ_i2l dX11_isThing_7 (fun l1894 hl1894 => ?_)
  refine WP_lconst (1) dX11_isThing_8 rfl ?_
  obtain ⟨l1895, hl1895, el1895⟩ : ∃ v : Int64, v.toInt = 1 ∧ (1 : Int64) = v := ⟨_, rfl, rfl⟩
  rw [el1895]; clear el1895
  refine WQ_lsubi dX11_isThing_9 (by omega) (by omega) (fun l1896 hl1896 => ?_)
  refine WP_callS3 dX11_isThing_10 ⟨⟨⟨by decide, by decide⟩, zX11_in⟩, lX11_52, tX11_in⟩ (sm_in hy hr hI l1891 l1892 l1896 ) (Nat.le_of_ble_eq_true rfl) ?_
  intro r Ia Ja Ra hq
  obtain ⟨⟨ea, eb, ec⟩, v1897, rfl, av1897, bv1897, cv1897⟩ := hq
  show WP _ _ _ _ (.int _ :: _) _ _ _ _
  rw [ea, eb, ec]
  clear ea eb ec Ia Ja Ra
  exact WP_zret dX11_isThing_13 rfl (nar_z (by omega)) ⟨⟨rfl, rfl, rfl⟩, _, rfl, by omega, by omega, by omega⟩
set_option maxHeartbeats 4000000 in
set_option maxRecDepth 100000 in
theorem sm_fault {g : GG} {n : Int} {L : Int32} (hy : Ly g)  {I : pI} {J : pJ} {R : pR} (hr : Rf g R) (hI : MP g n L I) (a : Int32)  : SP g mX11_fault [.ref (ad g 0), .int a] I J R (fun r I' J' R' => (I' = I ∧ J' = J ∧ R' = R) ∧ ∃ v : Int32, r = some (.int v)) := by
  refine SP_of ⟨by decide, rfl⟩ (Nat.le_of_ble_eq_true rfl) ?_
  have e1898 : I (ad g 0) 1 = L := hI.1.2
  have b1899 := BT_get hI.1.1 0 1 2 (0) (0) (900) (by decide) 1 (by decide) (by decide)
  rw [e1898] at b1899
  refine WP_iload_n dX11_fault_0 rfl ?_
  have jn24_1904 : ∀ (v1904 : Int32), WP g mX11_fault 24 [(0, .ref (ad g 0)), (1, .int a)] [.int v1904] I J R (fun r I' J' R' => (I' = I ∧ J' = J ∧ R' = R) ∧ ∃ v : Int32, r = some (.int v)) := by
    intro v1904 
    exact WP_iret dX11_fault_24 rfl ⟨⟨rfl, rfl, rfl⟩, _, rfl⟩
  refine WX_if_ne 11 dX11_fault_1 rfl ?_ ?_
  · refine WP_iload_n dX11_fault_11 rfl ?_
    refine WQ_iconst (1) (1) dX11_fault_12 rfl rfl (fun v1906 hv1906 => ?_)
    refine WX_icmp_ne 23 dX11_fault_13 rfl ?_ ?_
    · refine WQ_iconst (-1) (-1) dX11_fault_23 rfl rfl (fun v1907 hv1907 => ?_)
      exact WP_sub (fc rfl (fc rfl fn)) (jn24_1904 v1907)
    · refine WP_aload_n dX11_fault_16 rfl ?_
      refine WQ_getiu dX11_fault_17 fX11_10 rfl (ly_is hy 0 11 rfl) (fun v1908 ev1908 => ?_)
      refine WP_goto 24 dX11_fault_20 rfl ?_
      exact WP_sub (fc rfl (fc rfl fn)) (jn24_1904 v1908)
  · refine WP_aload_n dX11_fault_4 rfl ?_
    refine WQ_getiu dX11_fault_5 fX11_3 rfl (ly_is hy 0 11 rfl) (fun v1909 ev1909 => ?_)
    refine WP_goto 24 dX11_fault_8 rfl ?_
    exact WP_sub (fc rfl (fc rfl fn)) (jn24_1904 v1909)
set_option maxHeartbeats 4000000 in
set_option maxRecDepth 100000 in
theorem sm_restTurns {g : GG} {n : Int} {L : Int32} (hy : Ly g)  {I : pI} {J : pJ} {R : pR} (hr : Rf g R) (hI : MP g n L I)   : SP g mX11_restTurns [.ref (ad g 0)] I J R (fun r I' J' R' => (I' = I ∧ J' = J ∧ R' = R) ∧ ∃ v : Int32, r = some (.int v)) := by
  refine SP_of ⟨by decide, rfl⟩ (Nat.le_of_ble_eq_true rfl) ?_
  have e1910 : I (ad g 0) 1 = L := hI.1.2
  have b1911 := BT_get hI.1.1 0 1 2 (0) (0) (900) (by decide) 1 (by decide) (by decide)
  rw [e1910] at b1911
  refine WP_aload_n dX11_restTurns_0 rfl ?_
  refine WQ_getiu dX11_restTurns_1 fX11_304 rfl (ly_is hy 0 11 rfl) (fun v1912 ev1912 => ?_)
  exact WP_iret dX11_restTurns_4 rfl ⟨⟨rfl, rfl, rfl⟩, _, rfl⟩
set_option maxHeartbeats 4000000 in
set_option maxRecDepth 100000 in
theorem sm_count {g : GG} {n : Int} {L : Int32} (hy : Ly g)  {I : pI} {J : pJ} {R : pR} (hr : Rf g R) (hI : MP g n L I) (a : Int32)  : SP g mX11_count [.ref (ad g 0), .int a] I J R (fun r I' J' R' => (I' = I ∧ J' = J ∧ R' = R) ∧ ∃ v : Int32, r = some (.int v)) := by
  refine SP_of ⟨by decide, rfl⟩ (Nat.le_of_ble_eq_true rfl) ?_
  have e1913 : I (ad g 0) 1 = L := hI.1.2
  have b1914 := BT_get hI.1.1 0 1 2 (0) (0) (900) (by decide) 1 (by decide) (by decide)
  rw [e1913] at b1914
  refine WP_iload_n dX11_count_0 rfl ?_
  have jn24_1918 : ∀ (v1918 : Int32), WP g mX11_count 24 [(0, .ref (ad g 0)), (1, .int a)] [.int v1918] I J R (fun r I' J' R' => (I' = I ∧ J' = J ∧ R' = R) ∧ ∃ v : Int32, r = some (.int v)) := by
    intro v1918 
    exact WP_iret dX11_count_24 rfl ⟨⟨rfl, rfl, rfl⟩, _, rfl⟩
  refine WX_if_ne 11 dX11_count_1 rfl ?_ ?_
  · refine WP_iload_n dX11_count_11 rfl ?_
    refine WQ_iconst (1) (1) dX11_count_12 rfl rfl (fun v1920 hv1920 => ?_)
    refine WX_icmp_ne 23 dX11_count_13 rfl ?_ ?_
    · refine WQ_iconst (-1) (-1) dX11_count_23 rfl rfl (fun v1921 hv1921 => ?_)
      exact WP_sub (fc rfl (fc rfl fn)) (jn24_1918 v1921)
    · refine WP_aload_n dX11_count_16 rfl ?_
      refine WQ_getim dX11_count_17 fX11_75 rfl (ly_is hy 0 11 rfl) e1913 ?_
      refine WP_goto 24 dX11_count_20 rfl ?_
      exact WP_sub (fc rfl (fc rfl fn)) (jn24_1918 L)
  · refine WP_aload_n dX11_count_4 rfl ?_
    refine WQ_getiu dX11_count_5 fX11_335 rfl (ly_is hy 0 11 rfl) (fun v1922 ev1922 => ?_)
    refine WP_goto 24 dX11_count_8 rfl ?_
    exact WP_sub (fc rfl (fc rfl fn)) (jn24_1918 v1922)
set_option maxHeartbeats 4000000 in
set_option maxRecDepth 100000 in
theorem sm_earns {g : GG} {n : Int} {L : Int32} (hy : Ly g)  {I : pI} {J : pJ} {R : pR} (hr : Rf g R) (hI : MP g n L I) (a : Int32) (b : Int32)  : SP g mX11_earns [.ref (ad g 0), .int a, .int b] I J R (fun r I' J' R' => (I' = I ∧ J' = J ∧ R' = R) ∧ ∃ v : Int32, r = some (.int v)) := by
  refine SP_of ⟨by decide, rfl⟩ (Nat.le_of_ble_eq_true rfl) ?_
  have e1923 : I (ad g 0) 1 = L := hI.1.2
  have b1924 := BT_get hI.1.1 0 1 2 (0) (0) (900) (by decide) 1 (by decide) (by decide)
  rw [e1923] at b1924
  refine WP_aload_n dX11_earns_0 rfl ?_
  refine WP_iload_n dX11_earns_1 rfl ?_
  refine WP_callV1 (k := 11) dX11_earns_2 ⟨⟨⟨by decide, by decide⟩, zX11_isSort⟩, lX11_367, by decide, rfl, vX11_isSort.1, vX11_isSort.2⟩ (ly_is hy 0 11 rfl) (sm_isSort hy hr hI a ) (Nat.le_of_ble_eq_true rfl) ?_
  intro r Ia Ja Ra hq
  obtain ⟨⟨ea, eb, ec⟩, v1925, rfl, av1925, bv1925, cv1925⟩ := hq
  show WP _ _ _ _ (.int _ :: _) _ _ _ _
  rw [ea, eb, ec]
  clear ea eb ec Ia Ja Ra
  obtain ⟨w1926, ew1926⟩ : ∃ w : Int32, I (ad g 0) 10 = w := ⟨_, rfl⟩
  have bw1926 := BT_get hI.1.1 0 10 11 (0) (0) (4) (by decide) 10 (by decide) (by decide)
  rw [ew1926] at bw1926
  rw [ew1926] at cv1925
  have jn31_1935 : ∀ (v1935 : Int32), -2 ≤ v1935.toInt → v1935.toInt ≤ 20 → WP g mX11_earns 31 [(0, .ref (ad g 0)), (1, .int a), (2, .int b)] [.int v1935] I J R (fun r I' J' R' => (I' = I ∧ J' = J ∧ R' = R) ∧ ∃ v : Int32, r = some (.int v)) := by
    intro v1935 av1935 bv1935
    exact WP_iret dX11_earns_31 rfl ⟨⟨rfl, rfl, rfl⟩, _, rfl⟩
  refine WQ_if_eq 29 dX11_earns_5 rfl (fun c1936 => ?_) (fun c1936 => ?_)
  · refine WQ_bipush (-2) (-2) dX11_earns_29 rfl rfl (fun v1938 hv1938 => ?_)
    exact WP_sub (fc rfl (fc rfl (fc rfl fn))) (jn31_1935 v1938 (by omega) (by omega))
  · refine WP_iload_n dX11_earns_8 rfl ?_
    refine WP_callS1 dX11_earns_9 ⟨⟨⟨by decide, by decide⟩, zX11_isDay⟩, lX11_370, tX11_isDay⟩ (sm_isDay hy hr hI b ) (Nat.le_of_ble_eq_true rfl) ?_
    intro r Ia Ja Ra hq
    obtain ⟨⟨ea, eb, ec⟩, v1939, rfl, av1939, bv1939, cv1939⟩ := hq
    show WP _ _ _ _ (.int _ :: _) _ _ _ _
    rw [ea, eb, ec]
    clear ea eb ec Ia Ja Ra
    refine WQ_if_eq 29 dX11_earns_12 rfl (fun c1939 => ?_) (fun c1939 => ?_)
    · refine WQ_bipush (-2) (-2) dX11_earns_29 rfl rfl (fun v1941 hv1941 => ?_)
      exact WP_sub (fc rfl (fc rfl (fc rfl fn))) (jn31_1935 v1941 (by omega) (by omega))
    · refine WP_aload_n dX11_earns_15 rfl ?_
      refine WP_getr dX11_earns_16 fX11_252 rfl (ly_is hy 0 11 rfl) (rf hr 0 38 20 (by decide)) ?_
      refine WQ_bipush (7) (7) dX11_earns_19 rfl rfl (fun v1942 hv1942 => ?_)
      refine WP_iload_n dX11_earns_21 rfl ?_
      refine WQ_imulK (7) dX11_earns_22 hv1942 (by omega) (by omega) (fun v1943 hv1943 => ?_)
      refine WP_iload_n dX11_earns_23 rfl ?_
      refine WQ_iadd dX11_earns_24 (by omega) (by omega) (fun v1944 hv1944 => ?_)
      refine WQ_iald dX11_earns_25 (ly_is hy 20 13 rfl) (ly_n hy 20 28 rfl) (by omega) (by omega) (fun q hq => BT_get hI.1.1 20 0 28 (0) (0) (20) (by decide) q (Nat.zero_le _) hq) (fun v1945 av1945 bv1945 ev1945 => ?_)
      clear ev1945
      refine WP_goto 31 dX11_earns_26 rfl ?_
      exact WP_sub (fc rfl (fc rfl (fc rfl fn))) (jn31_1935 v1945 (by omega) (by omega))
set_option maxHeartbeats 4000000 in
set_option maxRecDepth 100000 in
theorem sm_price {g : GG} {n : Int} {L : Int32} (hy : Ly g)  {I : pI} {J : pJ} {R : pR} (hr : Rf g R) (hI : MP g n L I) (a : Int32) (b : Int32)  : SP g mX11_price [.ref (ad g 0), .int a, .int b] I J R (fun r I' J' R' => (I' = I ∧ J' = J ∧ R' = R) ∧ ∃ v : Int32, r = some (.int v)) := by
  refine SP_of ⟨by decide, rfl⟩ (Nat.le_of_ble_eq_true rfl) ?_
  have e1946 : I (ad g 0) 1 = L := hI.1.2
  have b1947 := BT_get hI.1.1 0 1 2 (0) (0) (900) (by decide) 1 (by decide) (by decide)
  rw [e1946] at b1947
  refine WP_aload_n dX11_price_0 rfl ?_
  refine WP_iload_n dX11_price_1 rfl ?_
  refine WP_callV1 (k := 11) dX11_price_2 ⟨⟨⟨by decide, by decide⟩, zX11_isThing⟩, lX11_373, by decide, rfl, vX11_isThing.1, vX11_isThing.2⟩ (ly_is hy 0 11 rfl) (sm_isThing hy hr hI a ) (Nat.le_of_ble_eq_true rfl) ?_
  intro r Ia Ja Ra hq
  obtain ⟨⟨ea, eb, ec⟩, v1948, rfl, av1948, bv1948, cv1948⟩ := hq
  show WP _ _ _ _ (.int _ :: _) _ _ _ _
  rw [ea, eb, ec]
  clear ea eb ec Ia Ja Ra
  have jn31_1957 : ∀ (v1957 : Int32), -2 ≤ v1957.toInt → v1957.toInt ≤ 20 → WP g mX11_price 31 [(0, .ref (ad g 0)), (1, .int a), (2, .int b)] [.int v1957] I J R (fun r I' J' R' => (I' = I ∧ J' = J ∧ R' = R) ∧ ∃ v : Int32, r = some (.int v)) := by
    intro v1957 av1957 bv1957
    exact WP_iret dX11_price_31 rfl ⟨⟨rfl, rfl, rfl⟩, _, rfl⟩
  refine WQ_if_eq 29 dX11_price_5 rfl (fun c1958 => ?_) (fun c1958 => ?_)
  · refine WQ_bipush (-2) (-2) dX11_price_29 rfl rfl (fun v1960 hv1960 => ?_)
    exact WP_sub (fc rfl (fc rfl (fc rfl fn))) (jn31_1957 v1960 (by omega) (by omega))
  · refine WP_iload_n dX11_price_8 rfl ?_
    refine WP_callS1 dX11_price_9 ⟨⟨⟨by decide, by decide⟩, zX11_isDay⟩, lX11_370, tX11_isDay⟩ (sm_isDay hy hr hI b ) (Nat.le_of_ble_eq_true rfl) ?_
    intro r Ia Ja Ra hq
    obtain ⟨⟨ea, eb, ec⟩, v1961, rfl, av1961, bv1961, cv1961⟩ := hq
    show WP _ _ _ _ (.int _ :: _) _ _ _ _
    rw [ea, eb, ec]
    clear ea eb ec Ia Ja Ra
    refine WQ_if_eq 29 dX11_price_12 rfl (fun c1961 => ?_) (fun c1961 => ?_)
    · refine WQ_bipush (-2) (-2) dX11_price_29 rfl rfl (fun v1963 hv1963 => ?_)
      exact WP_sub (fc rfl (fc rfl (fc rfl fn))) (jn31_1957 v1963 (by omega) (by omega))
    · refine WP_aload_n dX11_price_15 rfl ?_
      refine WP_getr dX11_price_16 fX11_257 rfl (ly_is hy 0 11 rfl) (rf hr 0 40 22 (by decide)) ?_
      refine WQ_bipush (7) (7) dX11_price_19 rfl rfl (fun v1964 hv1964 => ?_)
      refine WP_iload_n dX11_price_21 rfl ?_
      refine WQ_imulK (7) dX11_price_22 hv1964 (by omega) (by omega) (fun v1965 hv1965 => ?_)
      refine WP_iload_n dX11_price_23 rfl ?_
      refine WQ_iadd dX11_price_24 (by omega) (by omega) (fun v1966 hv1966 => ?_)
      refine WQ_iald dX11_price_25 (ly_is hy 22 13 rfl) (ly_n hy 22 21 rfl) (by omega) (by omega) (fun q hq => BT_get hI.1.1 22 0 21 (0) (0) (20) (by decide) q (Nat.zero_le _) hq) (fun v1967 av1967 bv1967 ev1967 => ?_)
      clear ev1967
      refine WP_goto 31 dX11_price_26 rfl ?_
      exact WP_sub (fc rfl (fc rfl (fc rfl fn))) (jn31_1957 v1967 (by omega) (by omega))
set_option maxHeartbeats 4000000 in
set_option maxRecDepth 100000 in
theorem sm_made {g : GG} {n : Int} {L : Int32} (hy : Ly g)  {I : pI} {J : pJ} {R : pR} (hr : Rf g R) (hI : MP g n L I) (a : Int32) (b : Int32)  : SP g mX11_made [.ref (ad g 0), .int a, .int b] I J R (fun r I' J' R' => (I' = I ∧ J' = J ∧ R' = R) ∧ ∃ v : Int32, r = some (.int v)) := by
  refine SP_of ⟨by decide, rfl⟩ (Nat.le_of_ble_eq_true rfl) ?_
  have e1968 : I (ad g 0) 1 = L := hI.1.2
  have b1969 := BT_get hI.1.1 0 1 2 (0) (0) (900) (by decide) 1 (by decide) (by decide)
  rw [e1968] at b1969
  refine WP_aload_n dX11_made_0 rfl ?_
  refine WP_iload_n dX11_made_1 rfl ?_
  refine WP_callV1 (k := 11) dX11_made_2 ⟨⟨⟨by decide, by decide⟩, zX11_isThing⟩, lX11_373, by decide, rfl, vX11_isThing.1, vX11_isThing.2⟩ (ly_is hy 0 11 rfl) (sm_isThing hy hr hI a ) (Nat.le_of_ble_eq_true rfl) ?_
  intro r Ia Ja Ra hq
  obtain ⟨⟨ea, eb, ec⟩, v1970, rfl, av1970, bv1970, cv1970⟩ := hq
  show WP _ _ _ _ (.int _ :: _) _ _ _ _
  rw [ea, eb, ec]
  clear ea eb ec Ia Ja Ra
  have jn31_1979 : ∀ (v1979 : Int32), -2 ≤ v1979.toInt → v1979.toInt ≤ 999 → WP g mX11_made 31 [(0, .ref (ad g 0)), (1, .int a), (2, .int b)] [.int v1979] I J R (fun r I' J' R' => (I' = I ∧ J' = J ∧ R' = R) ∧ ∃ v : Int32, r = some (.int v)) := by
    intro v1979 av1979 bv1979
    exact WP_iret dX11_made_31 rfl ⟨⟨rfl, rfl, rfl⟩, _, rfl⟩
  refine WQ_if_eq 29 dX11_made_5 rfl (fun c1980 => ?_) (fun c1980 => ?_)
  · refine WQ_bipush (-2) (-2) dX11_made_29 rfl rfl (fun v1982 hv1982 => ?_)
    exact WP_sub (fc rfl (fc rfl (fc rfl fn))) (jn31_1979 v1982 (by omega) (by omega))
  · refine WP_iload_n dX11_made_8 rfl ?_
    refine WP_callS1 dX11_made_9 ⟨⟨⟨by decide, by decide⟩, zX11_isDay⟩, lX11_370, tX11_isDay⟩ (sm_isDay hy hr hI b ) (Nat.le_of_ble_eq_true rfl) ?_
    intro r Ia Ja Ra hq
    obtain ⟨⟨ea, eb, ec⟩, v1983, rfl, av1983, bv1983, cv1983⟩ := hq
    show WP _ _ _ _ (.int _ :: _) _ _ _ _
    rw [ea, eb, ec]
    clear ea eb ec Ia Ja Ra
    refine WQ_if_eq 29 dX11_made_12 rfl (fun c1983 => ?_) (fun c1983 => ?_)
    · refine WQ_bipush (-2) (-2) dX11_made_29 rfl rfl (fun v1985 hv1985 => ?_)
      exact WP_sub (fc rfl (fc rfl (fc rfl fn))) (jn31_1979 v1985 (by omega) (by omega))
    · refine WP_aload_n dX11_made_15 rfl ?_
      refine WP_getr dX11_made_16 fX11_259 rfl (ly_is hy 0 11 rfl) (rf hr 0 41 23 (by decide)) ?_
      refine WQ_bipush (7) (7) dX11_made_19 rfl rfl (fun v1986 hv1986 => ?_)
      refine WP_iload_n dX11_made_21 rfl ?_
      refine WQ_imulK (7) dX11_made_22 hv1986 (by omega) (by omega) (fun v1987 hv1987 => ?_)
      refine WP_iload_n dX11_made_23 rfl ?_
      refine WQ_iadd dX11_made_24 (by omega) (by omega) (fun v1988 hv1988 => ?_)
      refine WQ_iald dX11_made_25 (ly_is hy 23 13 rfl) (ly_n hy 23 21 rfl) (by omega) (by omega) (fun q hq => BT_get hI.1.1 23 0 21 (-1) (0) (999) (by decide) q (Nat.zero_le _) hq) (fun v1989 av1989 bv1989 ev1989 => ?_)
      clear ev1989
      refine WP_goto 31 dX11_made_26 rfl ?_
      exact WP_sub (fc rfl (fc rfl (fc rfl fn))) (jn31_1979 v1989 (by omega) (by omega))
set_option maxHeartbeats 4000000 in
set_option maxRecDepth 100000 in
theorem sm_wants {g : GG} {n : Int} {L : Int32} (hy : Ly g)  {I : pI} {J : pJ} {R : pR} (hr : Rf g R) (hI : MP g n L I) (a : Int32) (b : Int32) (c : Int32)  : SP g mX11_wants [.ref (ad g 0), .int a, .int b, .int c] I J R (fun r I' J' R' => (I' = I ∧ J' = J ∧ R' = R) ∧ ∃ v : Int32, r = some (.int v)) := by
  refine SP_of ⟨by decide, rfl⟩ (Nat.le_of_ble_eq_true rfl) ?_
  have e1990 : I (ad g 0) 1 = L := hI.1.2
  have b1991 := BT_get hI.1.1 0 1 2 (0) (0) (900) (by decide) 1 (by decide) (by decide)
  rw [e1990] at b1991
  refine WP_aload_n dX11_wants_0 rfl ?_
  refine WP_iload_n dX11_wants_1 rfl ?_
  refine WP_callV1 (k := 11) dX11_wants_2 ⟨⟨⟨by decide, by decide⟩, zX11_isSort⟩, lX11_367, by decide, rfl, vX11_isSort.1, vX11_isSort.2⟩ (ly_is hy 0 11 rfl) (sm_isSort hy hr hI a ) (Nat.le_of_ble_eq_true rfl) ?_
  intro r Ia Ja Ra hq
  obtain ⟨⟨ea, eb, ec⟩, v1992, rfl, av1992, bv1992, cv1992⟩ := hq
  show WP _ _ _ _ (.int _ :: _) _ _ _ _
  rw [ea, eb, ec]
  clear ea eb ec Ia Ja Ra
  obtain ⟨w1993, ew1993⟩ : ∃ w : Int32, I (ad g 0) 10 = w := ⟨_, rfl⟩
  have bw1993 := BT_get hI.1.1 0 10 11 (0) (0) (4) (by decide) 10 (by decide) (by decide)
  rw [ew1993] at bw1993
  rw [ew1993] at cv1992
  refine WQ_if_eq 27 dX11_wants_5 rfl (fun c1993 => ?_) (fun c1993 => ?_)
  · refine WQ_bipush (-2) (-2) dX11_wants_27 rfl rfl (fun v1995 hv1995 => ?_)
    exact WP_iret dX11_wants_29 rfl ⟨⟨rfl, rfl, rfl⟩, _, rfl⟩
  · refine WP_iload_n dX11_wants_8 rfl ?_
    refine WP_callS1 dX11_wants_9 ⟨⟨⟨by decide, by decide⟩, zX11_isDay⟩, lX11_370, tX11_isDay⟩ (sm_isDay hy hr hI b ) (Nat.le_of_ble_eq_true rfl) ?_
    intro r Ia Ja Ra hq
    obtain ⟨⟨ea, eb, ec⟩, v1996, rfl, av1996, bv1996, cv1996⟩ := hq
    show WP _ _ _ _ (.int _ :: _) _ _ _ _
    rw [ea, eb, ec]
    clear ea eb ec Ia Ja Ra
    refine WQ_if_eq 27 dX11_wants_12 rfl (fun c1996 => ?_) (fun c1996 => ?_)
    · refine WQ_bipush (-2) (-2) dX11_wants_27 rfl rfl (fun v1998 hv1998 => ?_)
      exact WP_iret dX11_wants_29 rfl ⟨⟨rfl, rfl, rfl⟩, _, rfl⟩
    · refine WP_iload_n dX11_wants_15 rfl ?_
      refine WQ_i2l dX11_wants_16 (fun l1999 hl1999 => ?_)
      refine WP_lconst (0) dX11_wants_17 rfl ?_
      obtain ⟨l2000, hl2000, el2000⟩ : ∃ v : Int64, v.toInt = 0 ∧ (0 : Int64) = v := ⟨_, rfl, rfl⟩
      rw [el2000]; clear el2000
      refine WP_ldc2 (2) dX11_wants_18 klX11_376 ?_
      obtain ⟨l2001, hl2001, el2001⟩ : ∃ v : Int64, v.toInt = (2) ∧ ((2) : Int64) = v := ⟨_, rfl, rfl⟩
      rw [el2001]; clear el2001
      refine WP_callS3 dX11_wants_21 ⟨⟨⟨by decide, by decide⟩, zX11_in⟩, lX11_52, tX11_in⟩ (sm_in hy hr hI l1999 l2000 l2001 ) (Nat.le_of_ble_eq_true rfl) ?_
      intro r Ia Ja Ra hq
      obtain ⟨⟨ea, eb, ec⟩, v2002, rfl, av2002, bv2002, cv2002⟩ := hq
      show WP _ _ _ _ (.int _ :: _) _ _ _ _
      rw [ea, eb, ec]
      clear ea eb ec Ia Ja Ra
      refine WQ_if_ne 30 dX11_wants_24 rfl (fun c2002 => ?_) (fun c2002 => ?_)
      · refine WQ_bipush (7) (7) dX11_wants_30 rfl rfl (fun v2004 hv2004 => ?_)
        refine WP_iload_n dX11_wants_32 rfl ?_
        refine WQ_imulK (7) dX11_wants_33 hv2004 (by omega) (by omega) (fun v2005 hv2005 => ?_)
        refine WP_iload_n dX11_wants_34 rfl ?_
        refine WQ_iadd dX11_wants_35 (by omega) (by omega) (fun v2006 hv2006 => ?_)
        refine WP_istore (ls' := [(0, _), (1, _), (2, _), (3, _), (4, _)]) dX11_wants_36 (by decide) rfl ?_
        refine WP_iload_n dX11_wants_38 rfl ?_
        have jn74_2012 : ∀ (v2012 : Int32), -1 ≤ v2012.toInt → v2012.toInt ≤ 99 → WP g mX11_wants 74 [(0, .ref (ad g 0)), (1, .int a), (2, .int b), (3, .int c), (4, .int v2006)] [.int v2012] I J R (fun r I' J' R' => (I' = I ∧ J' = J ∧ R' = R) ∧ ∃ v : Int32, r = some (.int v)) := by
          intro v2012 av2012 bv2012
          exact WP_iret dX11_wants_74 rfl ⟨⟨rfl, rfl, rfl⟩, _, rfl⟩
        refine WQ_if_ne 52 dX11_wants_39 rfl (fun c2013 => ?_) (fun c2013 => ?_)
        · refine WP_iload_n dX11_wants_52 rfl ?_
          refine WQ_iconst (1) (1) dX11_wants_53 rfl rfl (fun v2015 hv2015 => ?_)
          refine WQ_icmp_ne 67 dX11_wants_54 rfl (fun c2015 => ?_) (fun c2015 => ?_)
          · refine WP_aload_n dX11_wants_67 rfl ?_
            refine WP_getr dX11_wants_68 fX11_267 rfl (ly_is hy 0 11 rfl) (rf hr 0 44 26 (by decide)) ?_
            refine WP_iload dX11_wants_71 rfl ?_
            refine WQ_iald dX11_wants_73 (ly_is hy 26 13 rfl) (ly_n hy 26 28 rfl) (by omega) (by omega) (fun q hq => BT_get hI.1.1 26 0 28 (0) (0) (99) (by decide) q (Nat.zero_le _) hq) (fun v2017 av2017 bv2017 ev2017 => ?_)
            clear ev2017
            exact WP_sub (fc rfl (fc rfl (fc rfl (fc rfl (fc rfl fn))))) (jn74_2012 v2017 (by omega) (by omega))
          · refine WP_aload_n dX11_wants_57 rfl ?_
            refine WP_getr dX11_wants_58 fX11_264 rfl (ly_is hy 0 11 rfl) (rf hr 0 43 25 (by decide)) ?_
            refine WP_iload dX11_wants_61 rfl ?_
            refine WQ_iald dX11_wants_63 (ly_is hy 25 13 rfl) (ly_n hy 25 28 rfl) (by omega) (by omega) (fun q hq => BT_get hI.1.1 25 0 28 (0) (0) (3) (by decide) q (Nat.zero_le _) hq) (fun v2018 av2018 bv2018 ev2018 => ?_)
            clear ev2018
            refine WP_goto 74 dX11_wants_64 rfl ?_
            exact WP_sub (fc rfl (fc rfl (fc rfl (fc rfl (fc rfl fn))))) (jn74_2012 v2018 (by omega) (by omega))
        · refine WP_aload_n dX11_wants_42 rfl ?_
          refine WP_getr dX11_wants_43 fX11_261 rfl (ly_is hy 0 11 rfl) (rf hr 0 42 24 (by decide)) ?_
          refine WP_iload dX11_wants_46 rfl ?_
          refine WQ_iald dX11_wants_48 (ly_is hy 24 13 rfl) (ly_n hy 24 28 rfl) (by omega) (by omega) (fun q hq => BT_get hI.1.1 24 0 28 (-1) (0) (2) (by decide) q (Nat.zero_le _) hq) (fun v2019 av2019 bv2019 ev2019 => ?_)
          clear ev2019
          refine WP_goto 74 dX11_wants_49 rfl ?_
          exact WP_sub (fc rfl (fc rfl (fc rfl (fc rfl (fc rfl fn))))) (jn74_2012 v2019 (by omega) (by omega))
      · refine WQ_bipush (-2) (-2) dX11_wants_27 rfl rfl (fun v2020 hv2020 => ?_)
        exact WP_iret dX11_wants_29 rfl ⟨⟨rfl, rfl, rfl⟩, _, rfl⟩
set_option maxHeartbeats 4000000 in
set_option maxRecDepth 100000 in
theorem sm_stampsOf {g : GG} {n : Int} {L : Int32} (hy : Ly g)  {I : pI} {J : pJ} {R : pR} (hr : Rf g R) (hI : MP g n L I) (co : Int32) (lo : Int32) (co_lo : 0 ≤ co.toInt) (co_hi : co.toInt ≤ 999) (lo_lo : 0 ≤ lo.toInt) (lo_hi : lo.toInt ≤ 900) : SP g mX11_stampsOf [.int co, .int lo] I J R (fun r I' J' R' => (I' = I ∧ J' = J ∧ R' = R) ∧ ∃ v : Int32, r = some (.int v) ∧ 0 ≤ v.toInt ∧ v.toInt ≤ 999 ∧ v.toInt ≤ co.toInt) := by
  refine SP_of ⟨by decide, rfl⟩ (Nat.le_of_ble_eq_true rfl) ?_
  have e2021 : I (ad g 0) 1 = L := hI.1.2
  have b2022 := BT_get hI.1.1 0 1 2 (0) (0) (900) (by decide) 1 (by decide) (by decide)
  rw [e2021] at b2022
  refine WP_iload_n dX11_stampsOf_0 rfl ?_
  refine WP_iload_n dX11_stampsOf_1 rfl ?_
  refine WQ_imulb (999) (900) dX11_stampsOf_2 ⟨by omega, by omega⟩ ⟨by omega, by omega⟩ (by decide) (fun v2023 pv2023 av2023 bv2023 cv2023 => ?_)
  refine WQ_sipush (999) (999) dX11_stampsOf_3 rfl rfl (fun v2024 hv2024 => ?_)
  refine WQ_iadd dX11_stampsOf_6 (by omega) (by omega) (fun v2025 hv2025 => ?_)
  refine WQ_sipush (1000) (1000) dX11_stampsOf_7 rfl rfl (fun v2026 hv2026 => ?_)
  refine WQ_idivk (1000) dX11_stampsOf_10 hv2026 (by decide) (by omega) (fun v2027 hv2027 => ?_)
  exact WP_iret dX11_stampsOf_11 rfl ⟨⟨rfl, rfl, rfl⟩, _, rfl, by omega, by omega, by omega⟩
set_option maxHeartbeats 4000000 in
set_option maxRecDepth 100000 in
theorem sm_costOf {g : GG} {n : Int} {L : Int32} (hy : Ly g)  {I : pI} {J : pJ} {R : pR} (hr : Rf g R) (hI : MP g n L I)   : SP g mX11_costOf [.ref (ad g 0)] I J R (fun r I' J' R' => (I' = I ∧ J' = J ∧ R' = R) ∧ ∃ v : Int32, r = some (.int v) ∧ 0 ≤ v.toInt ∧ v.toInt ≤ 9) := by
  refine SP_of ⟨by decide, rfl⟩ (Nat.le_of_ble_eq_true rfl) ?_
  have e2028 : I (ad g 0) 1 = L := hI.1.2
  have b2029 := BT_get hI.1.1 0 1 2 (0) (0) (900) (by decide) 1 (by decide) (by decide)
  rw [e2028] at b2029
  refine WP_aload_n dX11_costOf_0 rfl ?_
  refine WQ_geti dX11_costOf_1 fX11_224 rfl (ly_is hy 0 11 rfl) (BT_get hI.1.1 0 14 15 (-1) (0) (2) (by decide) 14 (by decide) (by decide)) (fun v2030 ev2030 av2030 bv2030 => ?_)
  refine WQ_iconst (-1) (-1) dX11_costOf_4 rfl rfl (fun v2031 hv2031 => ?_)
  have jn21_2034 : ∀ (v2034 : Int32), 0 ≤ v2034.toInt → v2034.toInt ≤ 9 → WP g mX11_costOf 21 [(0, .ref (ad g 0))] [.int v2034] I J R (fun r I' J' R' => (I' = I ∧ J' = J ∧ R' = R) ∧ ∃ v : Int32, r = some (.int v) ∧ 0 ≤ v.toInt ∧ v.toInt ≤ 9) := by
    intro v2034 av2034 bv2034
    exact WP_iret dX11_costOf_21 rfl ⟨⟨rfl, rfl, rfl⟩, _, rfl, by omega, by omega⟩
  refine WQ_icmp_ne 12 dX11_costOf_5 rfl (fun c2035 => ?_) (fun c2035 => ?_)
  · refine WP_aload_n dX11_costOf_12 rfl ?_
    refine WP_getr dX11_costOf_13 fX11_249 rfl (ly_is hy 0 11 rfl) (rf hr 0 31 13 (by decide)) ?_
    refine WP_aload_n dX11_costOf_16 rfl ?_
    refine WQ_getim dX11_costOf_17 fX11_224 rfl (ly_is hy 0 11 rfl) ev2030 ?_
    refine WQ_iald dX11_costOf_20 (ly_is hy 13 13 rfl) (ly_n hy 13 3 rfl) (by omega) (by omega) (fun q hq => BT_get hI.1.1 13 0 3 (0) (0) (9) (by decide) q (Nat.zero_le _) hq) (fun v2037 av2037 bv2037 ev2037 => ?_)
    clear ev2037
    exact WP_sub (fc rfl fn) (jn21_2034 v2037 (by omega) (by omega))
  · refine WQ_iconst (0) (0) dX11_costOf_8 rfl rfl (fun v2038 hv2038 => ?_)
    refine WP_goto 21 dX11_costOf_9 rfl ?_
    exact WP_sub (fc rfl fn) (jn21_2034 v2038 (by omega) (by omega))
set_option maxHeartbeats 4000000 in
set_option maxRecDepth 100000 in
theorem sm_behindNight {g : GG} {n : Int} {L : Int32} (hy : Ly g)  {I : pI} {J : pJ} {R : pR} (hr : Rf g R) (hI : MP g n L I) (co : Int32) (un : Int32) (lo : Int32) (co_lo : 0 ≤ co.toInt) (co_hi : co.toInt ≤ 60) (un_lo : 0 ≤ un.toInt) (un_hi : un.toInt ≤ 5) (lo_lo : 0 ≤ lo.toInt) (lo_hi : lo.toInt ≤ 900) : SP g mX11_behindNight [.ref (ad g 0), .int co, .int un, .int lo] I J R (fun r I' J' R' => (I' = I ∧ J' = J ∧ R' = R) ∧ ∃ v : Int32, r = some (.int v) ∧ 0 ≤ v.toInt ∧ v.toInt ≤ 60) := by
  refine SP_of ⟨by decide, rfl⟩ (Nat.le_of_ble_eq_true rfl) ?_
  have e2039 : I (ad g 0) 1 = L := hI.1.2
  have b2040 := BT_get hI.1.1 0 1 2 (0) (0) (900) (by decide) 1 (by decide) (by decide)
  rw [e2039] at b2040
  refine WQ_iconst (0) (0) dX11_behindNight_0 rfl rfl (fun v2041 hv2041 => ?_)
  refine WP_iload_n dX11_behindNight_1 rfl ?_
  refine WP_iload_n dX11_behindNight_2 rfl ?_
  refine WP_iload_n dX11_behindNight_3 rfl ?_
  refine WP_callS2 dX11_behindNight_4 ⟨⟨⟨by decide, by decide⟩, zX11_stampsOf⟩, lX11_380, tX11_stampsOf⟩ (sm_stampsOf hy hr hI co lo (by omega) (by omega) (by omega) (by omega)) (Nat.le_of_ble_eq_true rfl) ?_
  intro r Ia Ja Ra hq
  obtain ⟨⟨ea, eb, ec⟩, v2042, rfl, av2042, bv2042, cv2042⟩ := hq
  show WP _ _ _ _ (.int _ :: _) _ _ _ _
  rw [ea, eb, ec]
  clear ea eb ec Ia Ja Ra
  refine WQ_isub dX11_behindNight_7 (by omega) (by omega) (fun v2043 hv2043 => ?_)
  refine WP_aload_n dX11_behindNight_8 rfl ?_
  refine WP_callV0 (k := 11) dX11_behindNight_9 ⟨⟨⟨by decide, by decide⟩, zX11_costOf⟩, lX11_384, by decide, rfl, vX11_costOf.1, vX11_costOf.2⟩ (ly_is hy 0 11 rfl) (sm_costOf hy hr hI  ) (Nat.le_of_ble_eq_true rfl) ?_
  intro r Ia Ja Ra hq
  obtain ⟨⟨ea, eb, ec⟩, v2044, rfl, av2044, bv2044⟩ := hq
  show WP _ _ _ _ (.int _ :: _) _ _ _ _
  rw [ea, eb, ec]
  clear ea eb ec Ia Ja Ra
  refine WP_iload_n dX11_behindNight_12 rfl ?_
  refine WQ_imulb (9) (5) dX11_behindNight_13 ⟨by omega, by omega⟩ ⟨by omega, by omega⟩ (by decide) (fun v2045 pv2045 av2045 bv2045 cv2045 => ?_)
  refine WQ_isub dX11_behindNight_14 (by omega) (by omega) (fun v2046 hv2046 => ?_)
  refine WQ_max dX11_behindNight_15 lX11_387 ⟨by decide, Nat.le_of_ble_eq_true rfl⟩ (fun v2047 av2047 bv2047 cv2047 => ?_)
  exact WP_iret dX11_behindNight_18 rfl ⟨⟨rfl, rfl, rfl⟩, _, rfl, by omega, by omega⟩
set_option maxHeartbeats 4000000 in
set_option maxRecDepth 100000 in
theorem sm_leftOf {g : GG} {n : Int} {L : Int32} (hy : Ly g)  {I : pI} {J : pJ} {R : pR} (hr : Rf g R) (hI : MP g n L I) (un : Int32) (un_lo : 0 ≤ un.toInt) (un_hi : un.toInt ≤ 5) : SP g mX11_leftOf [.ref (ad g 0), .int un] I J R (fun r I' J' R' => (I' = I ∧ J' = J ∧ R' = R) ∧ ∃ v : Int32, r = some (.int v) ∧ 0 ≤ v.toInt ∧ v.toInt ≤ 5) := by
  refine SP_of ⟨by decide, rfl⟩ (Nat.le_of_ble_eq_true rfl) ?_
  have e2048 : I (ad g 0) 1 = L := hI.1.2
  have b2049 := BT_get hI.1.1 0 1 2 (0) (0) (900) (by decide) 1 (by decide) (by decide)
  rw [e2048] at b2049
  refine WP_aload_n dX11_leftOf_0 rfl ?_
  refine WQ_geti dX11_leftOf_1 fX11_224 rfl (ly_is hy 0 11 rfl) (BT_get hI.1.1 0 14 15 (-1) (0) (2) (by decide) 14 (by decide) (by decide)) (fun v2050 ev2050 av2050 bv2050 => ?_)
  refine WQ_iconst (-1) (-1) dX11_leftOf_4 rfl rfl (fun v2051 hv2051 => ?_)
  refine WQ_icmp_ne 12 dX11_leftOf_5 rfl (fun c2051 => ?_) (fun c2051 => ?_)
  · refine WP_iload_n dX11_leftOf_12 rfl ?_
    refine WP_iload_n dX11_leftOf_13 rfl ?_
    refine WP_aload_n dX11_leftOf_14 rfl ?_
    refine WP_getr dX11_leftOf_15 fX11_246 rfl (ly_is hy 0 11 rfl) (rf hr 0 30 12 (by decide)) ?_
    refine WP_aload_n dX11_leftOf_18 rfl ?_
    refine WQ_getim dX11_leftOf_19 fX11_224 rfl (ly_is hy 0 11 rfl) ev2050 ?_
    refine WQ_iald dX11_leftOf_22 (ly_is hy 12 13 rfl) (ly_n hy 12 3 rfl) (by omega) (by omega) (fun q hq => BT_get hI.1.1 12 0 3 (0) (0) (1000) (by decide) q (Nat.zero_le _) hq) (fun v2053 av2053 bv2053 ev2053 => ?_)
    clear ev2053
    refine WQ_imulb (5) (1000) dX11_leftOf_23 ⟨by omega, by omega⟩ ⟨by omega, by omega⟩ (by decide) (fun v2054 pv2054 av2054 bv2054 cv2054 => ?_)
    refine WQ_sipush (1000) (1000) dX11_leftOf_24 rfl rfl (fun v2055 hv2055 => ?_)
    refine WQ_idivk (1000) dX11_leftOf_27 hv2055 (by decide) (by omega) (fun v2056 hv2056 => ?_)
    refine WQ_isub dX11_leftOf_28 (by omega) (by omega) (fun v2057 hv2057 => ?_)
    exact WP_iret dX11_leftOf_29 rfl ⟨⟨rfl, rfl, rfl⟩, _, rfl, by omega, by omega⟩
  · refine WQ_iconst (0) (0) dX11_leftOf_8 rfl rfl (fun v2058 hv2058 => ?_)
    refine WP_goto 29 dX11_leftOf_9 rfl ?_
    exact WP_iret dX11_leftOf_29 rfl ⟨⟨rfl, rfl, rfl⟩, _, rfl, by omega, by omega⟩
set_option maxHeartbeats 4000000 in
set_option maxRecDepth 100000 in
theorem sm_night {g : GG} {n : Int} {L : Int32} (hy : Ly g)  {I : pI} {J : pJ} {R : pR} (hr : Rf g R) (hI : MP g n L I) (a : Int32) (b : Int32) (c : Int32)  : SP g mX11_night [.ref (ad g 0), .int a, .int b, .int c] I J R (fun r I' J' R' => (I' = I ∧ J' = J ∧ R' = R) ∧ ∃ v : Int32, r = some (.int v)) := by
  refine SP_of ⟨by decide, rfl⟩ (Nat.le_of_ble_eq_true rfl) ?_
  have e2059 : I (ad g 0) 1 = L := hI.1.2
  have b2060 := BT_get hI.1.1 0 1 2 (0) (0) (900) (by decide) 1 (by decide) (by decide)
  rw [e2059] at b2060
  refine WP_iload_n dX11_night_0 rfl ?_
  refine WP_callS1 dX11_night_1 ⟨⟨⟨by decide, by decide⟩, zX11_areCoins⟩, lX11_392, tX11_areCoins⟩ (sm_areCoins hy hr hI a ) (Nat.le_of_ble_eq_true rfl) ?_
  intro r Ia Ja Ra hq
  obtain ⟨⟨ea, eb, ec⟩, v2061, rfl, av2061, bv2061, cv2061⟩ := hq
  show WP _ _ _ _ (.int _ :: _) _ _ _ _
  rw [ea, eb, ec]
  clear ea eb ec Ia Ja Ra
  have jn49_2077 : ∀ (v2077 : Int32), -2 ≤ v2077.toInt → v2077.toInt ≤ 60 → WP g mX11_night 49 [(0, .ref (ad g 0)), (1, .int a), (2, .int b), (3, .int c)] [.int v2077] I J R (fun r I' J' R' => (I' = I ∧ J' = J ∧ R' = R) ∧ ∃ v : Int32, r = some (.int v)) := by
    intro v2077 av2077 bv2077
    exact WP_iret dX11_night_49 rfl ⟨⟨rfl, rfl, rfl⟩, _, rfl⟩
  refine WQ_if_eq 47 dX11_night_4 rfl (fun c2078 => ?_) (fun c2078 => ?_)
  · refine WQ_bipush (-2) (-2) dX11_night_47 rfl rfl (fun v2080 hv2080 => ?_)
    exact WP_sub (fc rfl (fc rfl (fc rfl (fc rfl fn)))) (jn49_2077 v2080 (by omega) (by omega))
  · refine WP_iload_n dX11_night_7 rfl ?_
    refine WP_callS1 dX11_night_8 ⟨⟨⟨by decide, by decide⟩, zX11_isStore⟩, lX11_395, tX11_isStore⟩ (sm_isStore hy hr hI b ) (Nat.le_of_ble_eq_true rfl) ?_
    intro r Ia Ja Ra hq
    obtain ⟨⟨ea, eb, ec⟩, v2081, rfl, av2081, bv2081, cv2081⟩ := hq
    show WP _ _ _ _ (.int _ :: _) _ _ _ _
    rw [ea, eb, ec]
    clear ea eb ec Ia Ja Ra
    refine WQ_if_eq 47 dX11_night_11 rfl (fun c2081 => ?_) (fun c2081 => ?_)
    · refine WQ_bipush (-2) (-2) dX11_night_47 rfl rfl (fun v2083 hv2083 => ?_)
      exact WP_sub (fc rfl (fc rfl (fc rfl (fc rfl fn)))) (jn49_2077 v2083 (by omega) (by omega))
    · refine WP_iload_n dX11_night_14 rfl ?_
      refine WP_callS1 dX11_night_15 ⟨⟨⟨by decide, by decide⟩, zX11_isDay⟩, lX11_370, tX11_isDay⟩ (sm_isDay hy hr hI c ) (Nat.le_of_ble_eq_true rfl) ?_
      intro r Ia Ja Ra hq
      obtain ⟨⟨ea, eb, ec⟩, v2084, rfl, av2084, bv2084, cv2084⟩ := hq
      show WP _ _ _ _ (.int _ :: _) _ _ _ _
      rw [ea, eb, ec]
      clear ea eb ec Ia Ja Ra
      refine WQ_if_eq 47 dX11_night_18 rfl (fun c2084 => ?_) (fun c2084 => ?_)
      · refine WQ_bipush (-2) (-2) dX11_night_47 rfl rfl (fun v2086 hv2086 => ?_)
        exact WP_sub (fc rfl (fc rfl (fc rfl (fc rfl fn)))) (jn49_2077 v2086 (by omega) (by omega))
      · refine WP_aload_n dX11_night_21 rfl ?_
        refine WQ_geti dX11_night_22 fX11_332 rfl (ly_is hy 0 11 rfl) (BT_get hI.1.1 0 11 12 (0) (0) (3) (by decide) 11 (by decide) (by decide)) (fun v2087 ev2087 av2087 bv2087 => ?_)
        refine WQ_if_gt 32 dX11_night_25 rfl (fun c2087 => ?_) (fun c2087 => ?_)
        · refine WP_aload_n dX11_night_32 rfl ?_
          refine WP_iload_n dX11_night_33 rfl ?_
          refine WP_iload_n dX11_night_34 rfl ?_
          refine WP_aload_n dX11_night_35 rfl ?_
          refine WP_getr dX11_night_36 fX11_233 rfl (ly_is hy 0 11 rfl) (rf hr 0 24 6 (by decide)) ?_
          refine WP_iload_n dX11_night_39 rfl ?_
          refine WQ_iald dX11_night_40 (ly_is hy 6 13 rfl) (ly_n hy 6 7 rfl) (by omega) (by omega) (fun q hq => BT_get hI.1.1 6 0 7 (0) (0) (900) (by decide) q (Nat.zero_le _) hq) (fun v2089 av2089 bv2089 ev2089 => ?_)
          clear ev2089
          refine WP_callV3 (k := 11) dX11_night_41 ⟨⟨⟨by decide, by decide⟩, zX11_behindNight⟩, lX11_398, by decide, rfl, vX11_behindNight.1, vX11_behindNight.2⟩ (ly_is hy 0 11 rfl) (sm_behindNight hy hr hI a b v2089 (by omega) (by omega) (by omega) (by omega) (by omega) (by omega)) (Nat.le_of_ble_eq_true rfl) ?_
          intro r Ia Ja Ra hq
          obtain ⟨⟨ea, eb, ec⟩, v2090, rfl, av2090, bv2090⟩ := hq
          show WP _ _ _ _ (.int _ :: _) _ _ _ _
          rw [ea, eb, ec]
          clear ea eb ec Ia Ja Ra
          refine WP_goto 49 dX11_night_44 rfl ?_
          exact WP_sub (fc rfl (fc rfl (fc rfl (fc rfl fn)))) (jn49_2077 v2090 (by omega) (by omega))
        · refine WP_iload_n dX11_night_28 rfl ?_
          refine WQ_if_ne 47 dX11_night_29 rfl (fun c2090 => ?_) (fun c2090 => ?_)
          · refine WQ_bipush (-2) (-2) dX11_night_47 rfl rfl (fun v2092 hv2092 => ?_)
            exact WP_sub (fc rfl (fc rfl (fc rfl (fc rfl fn)))) (jn49_2077 v2092 (by omega) (by omega))
          · refine WP_aload_n dX11_night_32 rfl ?_
            refine WP_iload_n dX11_night_33 rfl ?_
            refine WP_iload_n dX11_night_34 rfl ?_
            refine WP_aload_n dX11_night_35 rfl ?_
            refine WP_getr dX11_night_36 fX11_233 rfl (ly_is hy 0 11 rfl) (rf hr 0 24 6 (by decide)) ?_
            refine WP_iload_n dX11_night_39 rfl ?_
            refine WQ_iald dX11_night_40 (ly_is hy 6 13 rfl) (ly_n hy 6 7 rfl) (by omega) (by omega) (fun q hq => BT_get hI.1.1 6 0 7 (0) (0) (900) (by decide) q (Nat.zero_le _) hq) (fun v2093 av2093 bv2093 ev2093 => ?_)
            clear ev2093
            refine WP_callV3 (k := 11) dX11_night_41 ⟨⟨⟨by decide, by decide⟩, zX11_behindNight⟩, lX11_398, by decide, rfl, vX11_behindNight.1, vX11_behindNight.2⟩ (ly_is hy 0 11 rfl) (sm_behindNight hy hr hI a b v2093 (by omega) (by omega) (by omega) (by omega) (by omega) (by omega)) (Nat.le_of_ble_eq_true rfl) ?_
            intro r Ia Ja Ra hq
            obtain ⟨⟨ea, eb, ec⟩, v2094, rfl, av2094, bv2094⟩ := hq
            show WP _ _ _ _ (.int _ :: _) _ _ _ _
            rw [ea, eb, ec]
            clear ea eb ec Ia Ja Ra
            refine WP_goto 49 dX11_night_44 rfl ?_
            exact WP_sub (fc rfl (fc rfl (fc rfl (fc rfl fn)))) (jn49_2077 v2094 (by omega) (by omega))
set_option maxHeartbeats 4000000 in
set_option maxRecDepth 100000 in
theorem sm_costAt {g : GG} {n : Int} {L : Int32} (hy : Ly g)  {I : pI} {J : pJ} {R : pR} (hr : Rf g R) (hI : MP g n L I) (th : Int32) (da : Int32) (th_lo : -1 ≤ th.toInt) (th_hi : th.toInt ≤ 2) (da_lo : 0 ≤ da.toInt) (da_hi : da.toInt ≤ 6) : SP g mX11_costAt [.ref (ad g 0), .int th, .int da] I J R (fun r I' J' R' => (I' = I ∧ J' = J ∧ R' = R) ∧ ∃ v : Int32, r = some (.int v) ∧ 0 ≤ v.toInt ∧ v.toInt ≤ 20) := by
  refine SP_of ⟨by decide, rfl⟩ (Nat.le_of_ble_eq_true rfl) ?_
  have e2095 : I (ad g 0) 1 = L := hI.1.2
  have b2096 := BT_get hI.1.1 0 1 2 (0) (0) (900) (by decide) 1 (by decide) (by decide)
  rw [e2095] at b2096
  refine WP_iload_n dX11_costAt_0 rfl ?_
  refine WQ_iconst (-1) (-1) dX11_costAt_1 rfl rfl (fun v2097 hv2097 => ?_)
  have jn20_2103 : ∀ (v2103 : Int32), 0 ≤ v2103.toInt → v2103.toInt ≤ 20 → WP g mX11_costAt 20 [(0, .ref (ad g 0)), (1, .int th), (2, .int da)] [.int v2103] I J R (fun r I' J' R' => (I' = I ∧ J' = J ∧ R' = R) ∧ ∃ v : Int32, r = some (.int v) ∧ 0 ≤ v.toInt ∧ v.toInt ≤ 20) := by
    intro v2103 av2103 bv2103
    exact WP_iret dX11_costAt_20 rfl ⟨⟨rfl, rfl, rfl⟩, _, rfl, by omega, by omega⟩
  refine WQ_icmp_ne 9 dX11_costAt_2 rfl (fun c2104 => ?_) (fun c2104 => ?_)
  · refine WP_aload_n dX11_costAt_9 rfl ?_
    refine WP_getr dX11_costAt_10 fX11_257 rfl (ly_is hy 0 11 rfl) (rf hr 0 40 22 (by decide)) ?_
    refine WQ_bipush (7) (7) dX11_costAt_13 rfl rfl (fun v2106 hv2106 => ?_)
    refine WP_iload_n dX11_costAt_15 rfl ?_
    refine WQ_imulK (7) dX11_costAt_16 hv2106 (by omega) (by omega) (fun v2107 hv2107 => ?_)
    refine WP_iload_n dX11_costAt_17 rfl ?_
    refine WQ_iadd dX11_costAt_18 (by omega) (by omega) (fun v2108 hv2108 => ?_)
    refine WQ_iald dX11_costAt_19 (ly_is hy 22 13 rfl) (ly_n hy 22 21 rfl) (by omega) (by omega) (fun q hq => BT_get hI.1.1 22 0 21 (0) (0) (20) (by decide) q (Nat.zero_le _) hq) (fun v2109 av2109 bv2109 ev2109 => ?_)
    clear ev2109
    exact WP_sub (fc rfl (fc rfl (fc rfl fn))) (jn20_2103 v2109 (by omega) (by omega))
  · refine WQ_iconst (0) (0) dX11_costAt_5 rfl rfl (fun v2110 hv2110 => ?_)
    refine WP_goto 20 dX11_costAt_6 rfl ?_
    exact WP_sub (fc rfl (fc rfl (fc rfl fn))) (jn20_2103 v2110 (by omega) (by omega))
set_option maxHeartbeats 4000000 in
set_option maxRecDepth 100000 in
theorem sm_paysFor {g : GG} {n : Int} {L : Int32} (hy : Ly g)  {I : pI} {J : pJ} {R : pR} (hr : Rf g R) (hI : MP g n L I) (so : Int32) (da : Int32) (ac : Int32) (so_lo : 0 ≤ so.toInt) (so_hi : so.toInt ≤ 3) (da_lo : 0 ≤ da.toInt) (da_hi : da.toInt ≤ 6) (ac_lo : 0 ≤ ac.toInt) (ac_hi : ac.toInt ≤ 47) : SP g mX11_paysFor [.ref (ad g 0), .int so, .int da, .int ac] I J R (fun r I' J' R' => (I' = I ∧ J' = J ∧ R' = R) ∧ ∃ v : Int32, r = some (.int v) ∧ 0 ≤ v.toInt ∧ v.toInt ≤ 120) := by
  refine SP_of ⟨by decide, rfl⟩ (Nat.le_of_ble_eq_true rfl) ?_
  have e2111 : I (ad g 0) 1 = L := hI.1.2
  have b2112 := BT_get hI.1.1 0 1 2 (0) (0) (900) (by decide) 1 (by decide) (by decide)
  rw [e2111] at b2112
  refine WP_iload_n dX11_paysFor_0 rfl ?_
  refine WQ_iconst (4) (4) dX11_paysFor_1 rfl rfl (fun v2113 hv2113 => ?_)
  refine WQ_iremk (4) dX11_paysFor_2 hv2113 (by decide) (by omega) (fun v2114 hv2114 => ?_)
  refine WP_aload_n dX11_paysFor_3 rfl ?_
  refine WP_aload_n dX11_paysFor_4 rfl ?_
  refine WP_getr dX11_paysFor_5 fX11_261 rfl (ly_is hy 0 11 rfl) (rf hr 0 42 24 (by decide)) ?_
  refine WQ_bipush (7) (7) dX11_paysFor_8 rfl rfl (fun v2115 hv2115 => ?_)
  refine WP_iload_n dX11_paysFor_10 rfl ?_
  refine WQ_imulK (7) dX11_paysFor_11 hv2115 (by omega) (by omega) (fun v2116 hv2116 => ?_)
  refine WP_iload_n dX11_paysFor_12 rfl ?_
  refine WQ_iadd dX11_paysFor_13 (by omega) (by omega) (fun v2117 hv2117 => ?_)
  refine WQ_iald dX11_paysFor_14 (ly_is hy 24 13 rfl) (ly_n hy 24 28 rfl) (by omega) (by omega) (fun q hq => BT_get hI.1.1 24 0 28 (-1) (0) (2) (by decide) q (Nat.zero_le _) hq) (fun v2118 av2118 bv2118 ev2118 => ?_)
  clear ev2118
  refine WP_iload_n dX11_paysFor_15 rfl ?_
  refine WP_callV2 (k := 11) dX11_paysFor_16 ⟨⟨⟨by decide, by decide⟩, zX11_costAt⟩, lX11_402, by decide, rfl, vX11_costAt.1, vX11_costAt.2⟩ (ly_is hy 0 11 rfl) (sm_costAt hy hr hI v2118 da (by omega) (by omega) (by omega) (by omega)) (Nat.le_of_ble_eq_true rfl) ?_
  intro r Ia Ja Ra hq
  obtain ⟨⟨ea, eb, ec⟩, v2119, rfl, av2119, bv2119⟩ := hq
  show WP _ _ _ _ (.int _ :: _) _ _ _ _
  rw [ea, eb, ec]
  clear ea eb ec Ia Ja Ra
  refine WQ_imulb (3) (20) dX11_paysFor_19 ⟨by omega, by omega⟩ ⟨by omega, by omega⟩ (by decide) (fun v2120 pv2120 av2120 bv2120 cv2120 => ?_)
  refine WP_iload_n dX11_paysFor_20 rfl ?_
  refine WQ_bipush (16) (16) dX11_paysFor_21 rfl rfl (fun v2121 hv2121 => ?_)
  refine WQ_idivk (16) dX11_paysFor_23 hv2121 (by decide) (by omega) (fun v2122 hv2122 => ?_)
  refine WP_aload_n dX11_paysFor_24 rfl ?_
  refine WP_aload_n dX11_paysFor_25 rfl ?_
  refine WQ_geti dX11_paysFor_26 fX11_224 rfl (ly_is hy 0 11 rfl) (BT_get hI.1.1 0 14 15 (-1) (0) (2) (by decide) 14 (by decide) (by decide)) (fun v2123 ev2123 av2123 bv2123 => ?_)
  refine WP_iload_n dX11_paysFor_29 rfl ?_
  refine WP_callV2 (k := 11) dX11_paysFor_30 ⟨⟨⟨by decide, by decide⟩, zX11_costAt⟩, lX11_402, by decide, rfl, vX11_costAt.1, vX11_costAt.2⟩ (ly_is hy 0 11 rfl) (sm_costAt hy hr hI v2123 da (by omega) (by omega) (by omega) (by omega)) (Nat.le_of_ble_eq_true rfl) ?_
  intro r Ia Ja Ra hq
  obtain ⟨⟨ea, eb, ec⟩, v2124, rfl, av2124, bv2124⟩ := hq
  show WP _ _ _ _ (.int _ :: _) _ _ _ _
  rw [ea, eb, ec]
  clear ea eb ec Ia Ja Ra
  refine WQ_imulb (2) (20) dX11_paysFor_33 ⟨by omega, by omega⟩ ⟨by omega, by omega⟩ (by decide) (fun v2125 pv2125 av2125 bv2125 cv2125 => ?_)
  refine WQ_iadd dX11_paysFor_34 (by omega) (by omega) (fun v2126 hv2126 => ?_)
  exact WP_iret dX11_paysFor_35 rfl ⟨⟨rfl, rfl, rfl⟩, _, rfl, by omega, by omega⟩
set_option maxHeartbeats 4000000 in
set_option maxRecDepth 100000 in
theorem sm_mayDo {g : GG} {n : Int} {L : Int32} (hy : Ly g)  {I : pI} {J : pJ} {R : pR} (hr : Rf g R) (hI : MP g n L I) (so : Int32) (da : Int32) (co : Int32) (st : Int32) (ac : Int32) (so_lo : 0 ≤ so.toInt) (so_hi : so.toInt ≤ 3) (da_lo : 0 ≤ da.toInt) (da_hi : da.toInt ≤ 6) (co_lo : 0 ≤ co.toInt) (co_hi : co.toInt ≤ 60) (st_lo : 0 ≤ st.toInt) (st_hi : st.toInt ≤ 5) (ac_lo : 0 ≤ ac.toInt) (ac_hi : ac.toInt ≤ 47) : SP g mX11_mayDo [.ref (ad g 0), .int so, .int da, .int co, .int st, .int ac] I J R (fun r I' J' R' => (I' = I ∧ J' = J ∧ R' = R) ∧ ∃ v : Int32, r = some (.int v) ∧ 0 ≤ v.toInt ∧ v.toInt ≤ 1) := by
  refine SP_of ⟨by decide, rfl⟩ (Nat.le_of_ble_eq_true rfl) ?_
  have e2127 : I (ad g 0) 1 = L := hI.1.2
  have b2128 := BT_get hI.1.1 0 1 2 (0) (0) (900) (by decide) 1 (by decide) (by decide)
  rw [e2127] at b2128
  refine WP_iload dX11_mayDo_0 rfl ?_
  refine WQ_iconst (4) (4) dX11_mayDo_2 rfl rfl (fun v2129 hv2129 => ?_)
  refine WQ_iremk (4) dX11_mayDo_3 hv2129 (by decide) (by omega) (fun v2130 hv2130 => ?_)
  refine WP_istore (ls' := [(0, _), (1, _), (2, _), (3, _), (4, _), (5, _), (6, _)]) dX11_mayDo_4 (by decide) rfl ?_
  refine WP_iload dX11_mayDo_6 rfl ?_
  refine WQ_iconst (4) (4) dX11_mayDo_8 rfl rfl (fun v2131 hv2131 => ?_)
  refine WQ_idivk (4) dX11_mayDo_9 hv2131 (by decide) (by omega) (fun v2132 hv2132 => ?_)
  refine WQ_iconst (4) (4) dX11_mayDo_10 rfl rfl (fun v2133 hv2133 => ?_)
  refine WQ_iremk (4) dX11_mayDo_11 hv2133 (by decide) (by omega) (fun v2134 hv2134 => ?_)
  refine WP_istore (ls' := [(0, _), (1, _), (2, _), (3, _), (4, _), (5, _), (6, _), (7, _)]) dX11_mayDo_12 (by decide) rfl ?_
  refine WP_iload dX11_mayDo_14 rfl ?_
  refine WQ_bipush (16) (16) dX11_mayDo_16 rfl rfl (fun v2135 hv2135 => ?_)
  refine WQ_idivk (16) dX11_mayDo_18 hv2135 (by decide) (by omega) (fun v2136 hv2136 => ?_)
  refine WP_istore (ls' := [(0, _), (1, _), (2, _), (3, _), (4, _), (5, _), (6, _), (7, _), (8, _)]) dX11_mayDo_19 (by decide) rfl ?_
  refine WQ_bipush (7) (7) dX11_mayDo_21 rfl rfl (fun v2137 hv2137 => ?_)
  refine WP_iload_n dX11_mayDo_23 rfl ?_
  refine WQ_imulK (7) dX11_mayDo_24 hv2137 (by omega) (by omega) (fun v2138 hv2138 => ?_)
  refine WP_iload_n dX11_mayDo_25 rfl ?_
  refine WQ_iadd dX11_mayDo_26 (by omega) (by omega) (fun v2139 hv2139 => ?_)
  refine WP_istore (ls' := [(0, _), (1, _), (2, _), (3, _), (4, _), (5, _), (6, _), (7, _), (8, _), (9, _)]) dX11_mayDo_27 (by decide) rfl ?_
  refine WP_iload dX11_mayDo_29 rfl ?_
  refine WP_iload dX11_mayDo_31 rfl ?_
  refine WQ_iadd dX11_mayDo_33 (by omega) (by omega) (fun v2140 hv2140 => ?_)
  refine WP_aload_n dX11_mayDo_34 rfl ?_
  refine WP_getr dX11_mayDo_35 fX11_264 rfl (ly_is hy 0 11 rfl) (rf hr 0 43 25 (by decide)) ?_
  refine WP_iload dX11_mayDo_38 rfl ?_
  refine WQ_iald dX11_mayDo_40 (ly_is hy 25 13 rfl) (ly_n hy 25 28 rfl) (by omega) (by omega) (fun q hq => BT_get hI.1.1 25 0 28 (0) (0) (3) (by decide) q (Nat.zero_le _) hq) (fun v2141 av2141 bv2141 ev2141 => ?_)
  clear ev2141
  refine WQ_icmp_gt 63 dX11_mayDo_41 rfl (fun c2141 => ?_) (fun c2141 => ?_)
  · refine WQ_iconst (0) (0) dX11_mayDo_63 rfl rfl (fun v2143 hv2143 => ?_)
    exact WP_zret dX11_mayDo_64 rfl (nar_z (by omega)) ⟨⟨rfl, rfl, rfl⟩, _, rfl, by omega, by omega⟩
  · refine WP_iload dX11_mayDo_44 rfl ?_
    refine WP_iload dX11_mayDo_46 rfl ?_
    refine WQ_icmp_gt 63 dX11_mayDo_48 rfl (fun c2143 => ?_) (fun c2143 => ?_)
    · refine WQ_iconst (0) (0) dX11_mayDo_63 rfl rfl (fun v2145 hv2145 => ?_)
      exact WP_zret dX11_mayDo_64 rfl (nar_z (by omega)) ⟨⟨rfl, rfl, rfl⟩, _, rfl, by omega, by omega⟩
    · refine WP_iload dX11_mayDo_51 rfl ?_
      refine WP_iload dX11_mayDo_53 rfl ?_
      refine WQ_isub dX11_mayDo_55 (by omega) (by omega) (fun v2146 hv2146 => ?_)
      refine WP_iload dX11_mayDo_56 rfl ?_
      refine WQ_iadd dX11_mayDo_58 (by omega) (by omega) (fun v2147 hv2147 => ?_)
      refine WQ_iconst (5) (5) dX11_mayDo_59 rfl rfl (fun v2148 hv2148 => ?_)
      refine WQ_icmp_le 65 dX11_mayDo_60 rfl (fun c2148 => ?_) (fun c2148 => ?_)
      · refine WP_iload dX11_mayDo_65 rfl ?_
        refine WQ_if_le 84 dX11_mayDo_67 rfl (fun c2149 => ?_) (fun c2149 => ?_)
        · refine WP_iload dX11_mayDo_84 rfl ?_
          refine WQ_if_le 99 dX11_mayDo_86 rfl (fun c2150 => ?_) (fun c2150 => ?_)
          · refine WP_aload_n dX11_mayDo_99 rfl ?_
            refine WP_getr dX11_mayDo_100 fX11_244 rfl (ly_is hy 0 11 rfl) (rf hr 0 29 11 (by decide)) ?_
            refine WP_iload_n dX11_mayDo_103 rfl ?_
            refine WQ_iald dX11_mayDo_104 (ly_is hy 11 13 rfl) (ly_n hy 11 4 rfl) (by omega) (by omega) (fun q hq => BT_get hI.1.1 11 0 4 (0) (0) (127) (by decide) q (Nat.zero_le _) hq) (fun v2152 av2152 bv2152 ev2152 => ?_)
            clear ev2152
            refine WP_iload_n dX11_mayDo_105 rfl ?_
            refine WQ_ishru dX11_mayDo_106 (fun v2153 => ?_)
            refine WQ_iconst (1) (1) dX11_mayDo_107 rfl rfl (fun v2154 hv2154 => ?_)
            refine WQ_iandu dX11_mayDo_108 (fun v2155 => ?_)
            refine WQ_iconst (1) (1) dX11_mayDo_109 rfl rfl (fun v2156 hv2156 => ?_)
            refine WX_icmp_ne 123 dX11_mayDo_110 rfl ?_ ?_
            · refine WP_aload_n dX11_mayDo_123 rfl ?_
              refine WP_iload_n dX11_mayDo_124 rfl ?_
              refine WP_iload_n dX11_mayDo_125 rfl ?_
              refine WP_iload dX11_mayDo_126 rfl ?_
              refine WP_callV3 (k := 11) dX11_mayDo_128 ⟨⟨⟨by decide, by decide⟩, zX11_paysFor⟩, lX11_405, by decide, rfl, vX11_paysFor.1, vX11_paysFor.2⟩ (ly_is hy 0 11 rfl) (sm_paysFor hy hr hI so da ac (by omega) (by omega) (by omega) (by omega) (by omega) (by omega)) (Nat.le_of_ble_eq_true rfl) ?_
              intro r Ia Ja Ra hq
              obtain ⟨⟨ea, eb, ec⟩, v2157, rfl, av2157, bv2157⟩ := hq
              show WP _ _ _ _ (.int _ :: _) _ _ _ _
              rw [ea, eb, ec]
              clear ea eb ec Ia Ja Ra
              refine WP_iload_n dX11_mayDo_131 rfl ?_
              have jn140_2160 : ∀ (v2160 : Int32), 0 ≤ v2160.toInt → v2160.toInt ≤ 1 → WP g mX11_mayDo 140 [(0, .ref (ad g 0)), (1, .int so), (2, .int da), (3, .int co), (4, .int st), (5, .int ac), (6, .int v2130), (7, .int v2134), (8, .int v2136), (9, .int v2139)] [.int v2160] I J R (fun r I' J' R' => (I' = I ∧ J' = J ∧ R' = R) ∧ ∃ v : Int32, r = some (.int v) ∧ 0 ≤ v.toInt ∧ v.toInt ≤ 1) := by
                intro v2160 av2160 bv2160
                exact WP_zret dX11_mayDo_140 rfl (nar_z (by omega)) ⟨⟨rfl, rfl, rfl⟩, _, rfl, by omega, by omega⟩
              refine WQ_icmp_gt 139 dX11_mayDo_132 rfl (fun c2161 => ?_) (fun c2161 => ?_)
              · refine WQ_iconst (0) (0) dX11_mayDo_139 rfl rfl (fun v2163 hv2163 => ?_)
                exact WP_sub (fc rfl (fc rfl (fc rfl (fc rfl (fc rfl (fc rfl (fc rfl (fc rfl (fc rfl (fc rfl fn)))))))))) (jn140_2160 v2163 (by omega) (by omega))
              · refine WQ_iconst (1) (1) dX11_mayDo_135 rfl rfl (fun v2164 hv2164 => ?_)
                refine WP_goto 140 dX11_mayDo_136 rfl ?_
                exact WP_sub (fc rfl (fc rfl (fc rfl (fc rfl (fc rfl (fc rfl (fc rfl (fc rfl (fc rfl (fc rfl fn)))))))))) (jn140_2160 v2164 (by omega) (by omega))
            · refine WP_iload dX11_mayDo_113 rfl ?_
              refine WP_iload dX11_mayDo_115 rfl ?_
              refine WQ_iadd dX11_mayDo_117 (by omega) (by omega) (fun v2165 hv2165 => ?_)
              refine WQ_if_le 123 dX11_mayDo_118 rfl (fun c2165 => ?_) (fun c2165 => ?_)
              · refine WP_aload_n dX11_mayDo_123 rfl ?_
                refine WP_iload_n dX11_mayDo_124 rfl ?_
                refine WP_iload_n dX11_mayDo_125 rfl ?_
                refine WP_iload dX11_mayDo_126 rfl ?_
                refine WP_callV3 (k := 11) dX11_mayDo_128 ⟨⟨⟨by decide, by decide⟩, zX11_paysFor⟩, lX11_405, by decide, rfl, vX11_paysFor.1, vX11_paysFor.2⟩ (ly_is hy 0 11 rfl) (sm_paysFor hy hr hI so da ac (by omega) (by omega) (by omega) (by omega) (by omega) (by omega)) (Nat.le_of_ble_eq_true rfl) ?_
                intro r Ia Ja Ra hq
                obtain ⟨⟨ea, eb, ec⟩, v2167, rfl, av2167, bv2167⟩ := hq
                show WP _ _ _ _ (.int _ :: _) _ _ _ _
                rw [ea, eb, ec]
                clear ea eb ec Ia Ja Ra
                refine WP_iload_n dX11_mayDo_131 rfl ?_
                have jn140_2170 : ∀ (v2170 : Int32), 0 ≤ v2170.toInt → v2170.toInt ≤ 1 → WP g mX11_mayDo 140 [(0, .ref (ad g 0)), (1, .int so), (2, .int da), (3, .int co), (4, .int st), (5, .int ac), (6, .int v2130), (7, .int v2134), (8, .int v2136), (9, .int v2139)] [.int v2170] I J R (fun r I' J' R' => (I' = I ∧ J' = J ∧ R' = R) ∧ ∃ v : Int32, r = some (.int v) ∧ 0 ≤ v.toInt ∧ v.toInt ≤ 1) := by
                  intro v2170 av2170 bv2170
                  exact WP_zret dX11_mayDo_140 rfl (nar_z (by omega)) ⟨⟨rfl, rfl, rfl⟩, _, rfl, by omega, by omega⟩
                refine WQ_icmp_gt 139 dX11_mayDo_132 rfl (fun c2171 => ?_) (fun c2171 => ?_)
                · refine WQ_iconst (0) (0) dX11_mayDo_139 rfl rfl (fun v2173 hv2173 => ?_)
                  exact WP_sub (fc rfl (fc rfl (fc rfl (fc rfl (fc rfl (fc rfl (fc rfl (fc rfl (fc rfl (fc rfl fn)))))))))) (jn140_2170 v2173 (by omega) (by omega))
                · refine WQ_iconst (1) (1) dX11_mayDo_135 rfl rfl (fun v2174 hv2174 => ?_)
                  refine WP_goto 140 dX11_mayDo_136 rfl ?_
                  exact WP_sub (fc rfl (fc rfl (fc rfl (fc rfl (fc rfl (fc rfl (fc rfl (fc rfl (fc rfl (fc rfl fn)))))))))) (jn140_2170 v2174 (by omega) (by omega))
              · refine WQ_iconst (0) (0) dX11_mayDo_121 rfl rfl (fun v2175 hv2175 => ?_)
                exact WP_zret dX11_mayDo_122 rfl (nar_z (by omega)) ⟨⟨rfl, rfl, rfl⟩, _, rfl, by omega, by omega⟩
          · refine WP_aload_n dX11_mayDo_89 rfl ?_
            refine WQ_geti dX11_mayDo_90 fX11_224 rfl (ly_is hy 0 11 rfl) (BT_get hI.1.1 0 14 15 (-1) (0) (2) (by decide) 14 (by decide) (by decide)) (fun v2176 ev2176 av2176 bv2176 => ?_)
            refine WQ_iconst (-1) (-1) dX11_mayDo_93 rfl rfl (fun v2177 hv2177 => ?_)
            refine WQ_icmp_ne 99 dX11_mayDo_94 rfl (fun c2177 => ?_) (fun c2177 => ?_)
            · refine WP_aload_n dX11_mayDo_99 rfl ?_
              refine WP_getr dX11_mayDo_100 fX11_244 rfl (ly_is hy 0 11 rfl) (rf hr 0 29 11 (by decide)) ?_
              refine WP_iload_n dX11_mayDo_103 rfl ?_
              refine WQ_iald dX11_mayDo_104 (ly_is hy 11 13 rfl) (ly_n hy 11 4 rfl) (by omega) (by omega) (fun q hq => BT_get hI.1.1 11 0 4 (0) (0) (127) (by decide) q (Nat.zero_le _) hq) (fun v2179 av2179 bv2179 ev2179 => ?_)
              clear ev2179
              refine WP_iload_n dX11_mayDo_105 rfl ?_
              refine WQ_ishru dX11_mayDo_106 (fun v2180 => ?_)
              refine WQ_iconst (1) (1) dX11_mayDo_107 rfl rfl (fun v2181 hv2181 => ?_)
              refine WQ_iandu dX11_mayDo_108 (fun v2182 => ?_)
              refine WQ_iconst (1) (1) dX11_mayDo_109 rfl rfl (fun v2183 hv2183 => ?_)
              refine WX_icmp_ne 123 dX11_mayDo_110 rfl ?_ ?_
              · refine WP_aload_n dX11_mayDo_123 rfl ?_
                refine WP_iload_n dX11_mayDo_124 rfl ?_
                refine WP_iload_n dX11_mayDo_125 rfl ?_
                refine WP_iload dX11_mayDo_126 rfl ?_
                refine WP_callV3 (k := 11) dX11_mayDo_128 ⟨⟨⟨by decide, by decide⟩, zX11_paysFor⟩, lX11_405, by decide, rfl, vX11_paysFor.1, vX11_paysFor.2⟩ (ly_is hy 0 11 rfl) (sm_paysFor hy hr hI so da ac (by omega) (by omega) (by omega) (by omega) (by omega) (by omega)) (Nat.le_of_ble_eq_true rfl) ?_
                intro r Ia Ja Ra hq
                obtain ⟨⟨ea, eb, ec⟩, v2184, rfl, av2184, bv2184⟩ := hq
                show WP _ _ _ _ (.int _ :: _) _ _ _ _
                rw [ea, eb, ec]
                clear ea eb ec Ia Ja Ra
                refine WP_iload_n dX11_mayDo_131 rfl ?_
                have jn140_2187 : ∀ (v2187 : Int32), 0 ≤ v2187.toInt → v2187.toInt ≤ 1 → WP g mX11_mayDo 140 [(0, .ref (ad g 0)), (1, .int so), (2, .int da), (3, .int co), (4, .int st), (5, .int ac), (6, .int v2130), (7, .int v2134), (8, .int v2136), (9, .int v2139)] [.int v2187] I J R (fun r I' J' R' => (I' = I ∧ J' = J ∧ R' = R) ∧ ∃ v : Int32, r = some (.int v) ∧ 0 ≤ v.toInt ∧ v.toInt ≤ 1) := by
                  intro v2187 av2187 bv2187
                  exact WP_zret dX11_mayDo_140 rfl (nar_z (by omega)) ⟨⟨rfl, rfl, rfl⟩, _, rfl, by omega, by omega⟩
                refine WQ_icmp_gt 139 dX11_mayDo_132 rfl (fun c2188 => ?_) (fun c2188 => ?_)
                · refine WQ_iconst (0) (0) dX11_mayDo_139 rfl rfl (fun v2190 hv2190 => ?_)
                  exact WP_sub (fc rfl (fc rfl (fc rfl (fc rfl (fc rfl (fc rfl (fc rfl (fc rfl (fc rfl (fc rfl fn)))))))))) (jn140_2187 v2190 (by omega) (by omega))
                · refine WQ_iconst (1) (1) dX11_mayDo_135 rfl rfl (fun v2191 hv2191 => ?_)
                  refine WP_goto 140 dX11_mayDo_136 rfl ?_
                  exact WP_sub (fc rfl (fc rfl (fc rfl (fc rfl (fc rfl (fc rfl (fc rfl (fc rfl (fc rfl (fc rfl fn)))))))))) (jn140_2187 v2191 (by omega) (by omega))
              · refine WP_iload dX11_mayDo_113 rfl ?_
                refine WP_iload dX11_mayDo_115 rfl ?_
                refine WQ_iadd dX11_mayDo_117 (by omega) (by omega) (fun v2192 hv2192 => ?_)
                refine WQ_if_le 123 dX11_mayDo_118 rfl (fun c2192 => False.elim (by omega)) (fun c2192 => ?_)
                refine WQ_iconst (0) (0) dX11_mayDo_121 rfl rfl (fun v2194 hv2194 => ?_)
                exact WP_zret dX11_mayDo_122 rfl (nar_z (by omega)) ⟨⟨rfl, rfl, rfl⟩, _, rfl, by omega, by omega⟩
            · refine WQ_iconst (0) (0) dX11_mayDo_97 rfl rfl (fun v2195 hv2195 => ?_)
              exact WP_zret dX11_mayDo_98 rfl (nar_z (by omega)) ⟨⟨rfl, rfl, rfl⟩, _, rfl, by omega, by omega⟩
        · refine WP_aload_n dX11_mayDo_70 rfl ?_
          refine WP_getr dX11_mayDo_71 fX11_261 rfl (ly_is hy 0 11 rfl) (rf hr 0 42 24 (by decide)) ?_
          refine WP_iload dX11_mayDo_74 rfl ?_
          refine WQ_iald dX11_mayDo_76 (ly_is hy 24 13 rfl) (ly_n hy 24 28 rfl) (by omega) (by omega) (fun q hq => BT_get hI.1.1 24 0 28 (-1) (0) (2) (by decide) q (Nat.zero_le _) hq) (fun v2196 av2196 bv2196 ev2196 => ?_)
          clear ev2196
          refine WP_aload_n dX11_mayDo_77 rfl ?_
          refine WQ_geti dX11_mayDo_78 fX11_224 rfl (ly_is hy 0 11 rfl) (BT_get hI.1.1 0 14 15 (-1) (0) (2) (by decide) 14 (by decide) (by decide)) (fun v2197 ev2197 av2197 bv2197 => ?_)
          refine WQ_icmp_ne 97 dX11_mayDo_81 rfl (fun c2197 => ?_) (fun c2197 => ?_)
          · refine WQ_iconst (0) (0) dX11_mayDo_97 rfl rfl (fun v2199 hv2199 => ?_)
            exact WP_zret dX11_mayDo_98 rfl (nar_z (by omega)) ⟨⟨rfl, rfl, rfl⟩, _, rfl, by omega, by omega⟩
          · refine WP_iload dX11_mayDo_84 rfl ?_
            refine WQ_if_le 99 dX11_mayDo_86 rfl (fun c2199 => ?_) (fun c2199 => ?_)
            · refine WP_aload_n dX11_mayDo_99 rfl ?_
              refine WP_getr dX11_mayDo_100 fX11_244 rfl (ly_is hy 0 11 rfl) (rf hr 0 29 11 (by decide)) ?_
              refine WP_iload_n dX11_mayDo_103 rfl ?_
              refine WQ_iald dX11_mayDo_104 (ly_is hy 11 13 rfl) (ly_n hy 11 4 rfl) (by omega) (by omega) (fun q hq => BT_get hI.1.1 11 0 4 (0) (0) (127) (by decide) q (Nat.zero_le _) hq) (fun v2201 av2201 bv2201 ev2201 => ?_)
              clear ev2201
              refine WP_iload_n dX11_mayDo_105 rfl ?_
              refine WQ_ishru dX11_mayDo_106 (fun v2202 => ?_)
              refine WQ_iconst (1) (1) dX11_mayDo_107 rfl rfl (fun v2203 hv2203 => ?_)
              refine WQ_iandu dX11_mayDo_108 (fun v2204 => ?_)
              refine WQ_iconst (1) (1) dX11_mayDo_109 rfl rfl (fun v2205 hv2205 => ?_)
              refine WX_icmp_ne 123 dX11_mayDo_110 rfl ?_ ?_
              · refine WP_aload_n dX11_mayDo_123 rfl ?_
                refine WP_iload_n dX11_mayDo_124 rfl ?_
                refine WP_iload_n dX11_mayDo_125 rfl ?_
                refine WP_iload dX11_mayDo_126 rfl ?_
                refine WP_callV3 (k := 11) dX11_mayDo_128 ⟨⟨⟨by decide, by decide⟩, zX11_paysFor⟩, lX11_405, by decide, rfl, vX11_paysFor.1, vX11_paysFor.2⟩ (ly_is hy 0 11 rfl) (sm_paysFor hy hr hI so da ac (by omega) (by omega) (by omega) (by omega) (by omega) (by omega)) (Nat.le_of_ble_eq_true rfl) ?_
                intro r Ia Ja Ra hq
                obtain ⟨⟨ea, eb, ec⟩, v2206, rfl, av2206, bv2206⟩ := hq
                show WP _ _ _ _ (.int _ :: _) _ _ _ _
                rw [ea, eb, ec]
                clear ea eb ec Ia Ja Ra
                refine WP_iload_n dX11_mayDo_131 rfl ?_
                have jn140_2209 : ∀ (v2209 : Int32), 0 ≤ v2209.toInt → v2209.toInt ≤ 1 → WP g mX11_mayDo 140 [(0, .ref (ad g 0)), (1, .int so), (2, .int da), (3, .int co), (4, .int st), (5, .int ac), (6, .int v2130), (7, .int v2134), (8, .int v2136), (9, .int v2139)] [.int v2209] I J R (fun r I' J' R' => (I' = I ∧ J' = J ∧ R' = R) ∧ ∃ v : Int32, r = some (.int v) ∧ 0 ≤ v.toInt ∧ v.toInt ≤ 1) := by
                  intro v2209 av2209 bv2209
                  exact WP_zret dX11_mayDo_140 rfl (nar_z (by omega)) ⟨⟨rfl, rfl, rfl⟩, _, rfl, by omega, by omega⟩
                refine WQ_icmp_gt 139 dX11_mayDo_132 rfl (fun c2210 => ?_) (fun c2210 => ?_)
                · refine WQ_iconst (0) (0) dX11_mayDo_139 rfl rfl (fun v2212 hv2212 => ?_)
                  exact WP_sub (fc rfl (fc rfl (fc rfl (fc rfl (fc rfl (fc rfl (fc rfl (fc rfl (fc rfl (fc rfl fn)))))))))) (jn140_2209 v2212 (by omega) (by omega))
                · refine WQ_iconst (1) (1) dX11_mayDo_135 rfl rfl (fun v2213 hv2213 => ?_)
                  refine WP_goto 140 dX11_mayDo_136 rfl ?_
                  exact WP_sub (fc rfl (fc rfl (fc rfl (fc rfl (fc rfl (fc rfl (fc rfl (fc rfl (fc rfl (fc rfl fn)))))))))) (jn140_2209 v2213 (by omega) (by omega))
              · refine WP_iload dX11_mayDo_113 rfl ?_
                refine WP_iload dX11_mayDo_115 rfl ?_
                refine WQ_iadd dX11_mayDo_117 (by omega) (by omega) (fun v2214 hv2214 => ?_)
                refine WQ_if_le 123 dX11_mayDo_118 rfl (fun c2214 => ?_) (fun c2214 => ?_)
                · refine WP_aload_n dX11_mayDo_123 rfl ?_
                  refine WP_iload_n dX11_mayDo_124 rfl ?_
                  refine WP_iload_n dX11_mayDo_125 rfl ?_
                  refine WP_iload dX11_mayDo_126 rfl ?_
                  refine WP_callV3 (k := 11) dX11_mayDo_128 ⟨⟨⟨by decide, by decide⟩, zX11_paysFor⟩, lX11_405, by decide, rfl, vX11_paysFor.1, vX11_paysFor.2⟩ (ly_is hy 0 11 rfl) (sm_paysFor hy hr hI so da ac (by omega) (by omega) (by omega) (by omega) (by omega) (by omega)) (Nat.le_of_ble_eq_true rfl) ?_
                  intro r Ia Ja Ra hq
                  obtain ⟨⟨ea, eb, ec⟩, v2216, rfl, av2216, bv2216⟩ := hq
                  show WP _ _ _ _ (.int _ :: _) _ _ _ _
                  rw [ea, eb, ec]
                  clear ea eb ec Ia Ja Ra
                  refine WP_iload_n dX11_mayDo_131 rfl ?_
                  have jn140_2219 : ∀ (v2219 : Int32), 0 ≤ v2219.toInt → v2219.toInt ≤ 1 → WP g mX11_mayDo 140 [(0, .ref (ad g 0)), (1, .int so), (2, .int da), (3, .int co), (4, .int st), (5, .int ac), (6, .int v2130), (7, .int v2134), (8, .int v2136), (9, .int v2139)] [.int v2219] I J R (fun r I' J' R' => (I' = I ∧ J' = J ∧ R' = R) ∧ ∃ v : Int32, r = some (.int v) ∧ 0 ≤ v.toInt ∧ v.toInt ≤ 1) := by
                    intro v2219 av2219 bv2219
                    exact WP_zret dX11_mayDo_140 rfl (nar_z (by omega)) ⟨⟨rfl, rfl, rfl⟩, _, rfl, by omega, by omega⟩
                  refine WQ_icmp_gt 139 dX11_mayDo_132 rfl (fun c2220 => ?_) (fun c2220 => ?_)
                  · refine WQ_iconst (0) (0) dX11_mayDo_139 rfl rfl (fun v2222 hv2222 => ?_)
                    exact WP_sub (fc rfl (fc rfl (fc rfl (fc rfl (fc rfl (fc rfl (fc rfl (fc rfl (fc rfl (fc rfl fn)))))))))) (jn140_2219 v2222 (by omega) (by omega))
                  · refine WQ_iconst (1) (1) dX11_mayDo_135 rfl rfl (fun v2223 hv2223 => ?_)
                    refine WP_goto 140 dX11_mayDo_136 rfl ?_
                    exact WP_sub (fc rfl (fc rfl (fc rfl (fc rfl (fc rfl (fc rfl (fc rfl (fc rfl (fc rfl (fc rfl fn)))))))))) (jn140_2219 v2223 (by omega) (by omega))
                · refine WQ_iconst (0) (0) dX11_mayDo_121 rfl rfl (fun v2224 hv2224 => ?_)
                  exact WP_zret dX11_mayDo_122 rfl (nar_z (by omega)) ⟨⟨rfl, rfl, rfl⟩, _, rfl, by omega, by omega⟩
            · refine WP_aload_n dX11_mayDo_89 rfl ?_
              refine WQ_getim dX11_mayDo_90 fX11_224 rfl (ly_is hy 0 11 rfl) ev2197 ?_
              refine WQ_iconst (-1) (-1) dX11_mayDo_93 rfl rfl (fun v2225 hv2225 => ?_)
              refine WQ_icmp_ne 99 dX11_mayDo_94 rfl (fun c2225 => ?_) (fun c2225 => ?_)
              · refine WP_aload_n dX11_mayDo_99 rfl ?_
                refine WP_getr dX11_mayDo_100 fX11_244 rfl (ly_is hy 0 11 rfl) (rf hr 0 29 11 (by decide)) ?_
                refine WP_iload_n dX11_mayDo_103 rfl ?_
                refine WQ_iald dX11_mayDo_104 (ly_is hy 11 13 rfl) (ly_n hy 11 4 rfl) (by omega) (by omega) (fun q hq => BT_get hI.1.1 11 0 4 (0) (0) (127) (by decide) q (Nat.zero_le _) hq) (fun v2227 av2227 bv2227 ev2227 => ?_)
                clear ev2227
                refine WP_iload_n dX11_mayDo_105 rfl ?_
                refine WQ_ishru dX11_mayDo_106 (fun v2228 => ?_)
                refine WQ_iconst (1) (1) dX11_mayDo_107 rfl rfl (fun v2229 hv2229 => ?_)
                refine WQ_iandu dX11_mayDo_108 (fun v2230 => ?_)
                refine WQ_iconst (1) (1) dX11_mayDo_109 rfl rfl (fun v2231 hv2231 => ?_)
                refine WX_icmp_ne 123 dX11_mayDo_110 rfl ?_ ?_
                · refine WP_aload_n dX11_mayDo_123 rfl ?_
                  refine WP_iload_n dX11_mayDo_124 rfl ?_
                  refine WP_iload_n dX11_mayDo_125 rfl ?_
                  refine WP_iload dX11_mayDo_126 rfl ?_
                  refine WP_callV3 (k := 11) dX11_mayDo_128 ⟨⟨⟨by decide, by decide⟩, zX11_paysFor⟩, lX11_405, by decide, rfl, vX11_paysFor.1, vX11_paysFor.2⟩ (ly_is hy 0 11 rfl) (sm_paysFor hy hr hI so da ac (by omega) (by omega) (by omega) (by omega) (by omega) (by omega)) (Nat.le_of_ble_eq_true rfl) ?_
                  intro r Ia Ja Ra hq
                  obtain ⟨⟨ea, eb, ec⟩, v2232, rfl, av2232, bv2232⟩ := hq
                  show WP _ _ _ _ (.int _ :: _) _ _ _ _
                  rw [ea, eb, ec]
                  clear ea eb ec Ia Ja Ra
                  refine WP_iload_n dX11_mayDo_131 rfl ?_
                  have jn140_2235 : ∀ (v2235 : Int32), 0 ≤ v2235.toInt → v2235.toInt ≤ 1 → WP g mX11_mayDo 140 [(0, .ref (ad g 0)), (1, .int so), (2, .int da), (3, .int co), (4, .int st), (5, .int ac), (6, .int v2130), (7, .int v2134), (8, .int v2136), (9, .int v2139)] [.int v2235] I J R (fun r I' J' R' => (I' = I ∧ J' = J ∧ R' = R) ∧ ∃ v : Int32, r = some (.int v) ∧ 0 ≤ v.toInt ∧ v.toInt ≤ 1) := by
                    intro v2235 av2235 bv2235
                    exact WP_zret dX11_mayDo_140 rfl (nar_z (by omega)) ⟨⟨rfl, rfl, rfl⟩, _, rfl, by omega, by omega⟩
                  refine WQ_icmp_gt 139 dX11_mayDo_132 rfl (fun c2236 => ?_) (fun c2236 => ?_)
                  · refine WQ_iconst (0) (0) dX11_mayDo_139 rfl rfl (fun v2238 hv2238 => ?_)
                    exact WP_sub (fc rfl (fc rfl (fc rfl (fc rfl (fc rfl (fc rfl (fc rfl (fc rfl (fc rfl (fc rfl fn)))))))))) (jn140_2235 v2238 (by omega) (by omega))
                  · refine WQ_iconst (1) (1) dX11_mayDo_135 rfl rfl (fun v2239 hv2239 => ?_)
                    refine WP_goto 140 dX11_mayDo_136 rfl ?_
                    exact WP_sub (fc rfl (fc rfl (fc rfl (fc rfl (fc rfl (fc rfl (fc rfl (fc rfl (fc rfl (fc rfl fn)))))))))) (jn140_2235 v2239 (by omega) (by omega))
                · refine WP_iload dX11_mayDo_113 rfl ?_
                  refine WP_iload dX11_mayDo_115 rfl ?_
                  refine WQ_iadd dX11_mayDo_117 (by omega) (by omega) (fun v2240 hv2240 => ?_)
                  refine WQ_if_le 123 dX11_mayDo_118 rfl (fun c2240 => False.elim (by omega)) (fun c2240 => ?_)
                  refine WQ_iconst (0) (0) dX11_mayDo_121 rfl rfl (fun v2242 hv2242 => ?_)
                  exact WP_zret dX11_mayDo_122 rfl (nar_z (by omega)) ⟨⟨rfl, rfl, rfl⟩, _, rfl, by omega, by omega⟩
              · refine WQ_iconst (0) (0) dX11_mayDo_97 rfl rfl (fun v2243 hv2243 => ?_)
                exact WP_zret dX11_mayDo_98 rfl (nar_z (by omega)) ⟨⟨rfl, rfl, rfl⟩, _, rfl, by omega, by omega⟩
      · refine WQ_iconst (0) (0) dX11_mayDo_63 rfl rfl (fun v2244 hv2244 => ?_)
        exact WP_zret dX11_mayDo_64 rfl (nar_z (by omega)) ⟨⟨rfl, rfl, rfl⟩, _, rfl, by omega, by omega⟩
set_option maxHeartbeats 4000000 in
set_option maxRecDepth 100000 in
theorem sm_may {g : GG} {n : Int} {L : Int32} (hy : Ly g)  {I : pI} {J : pJ} {R : pR} (hr : Rf g R) (hI : MP g n L I) (a : Int32) (b : Int32) (c : Int32) (e : Int32) (f : Int32)  : SP g mX11_may [.ref (ad g 0), .int a, .int b, .int c, .int e, .int f] I J R (fun r I' J' R' => (I' = I ∧ J' = J ∧ R' = R) ∧ ∃ v : Int32, r = some (.int v)) := by
  refine SP_of ⟨by decide, rfl⟩ (Nat.le_of_ble_eq_true rfl) ?_
  have e2245 : I (ad g 0) 1 = L := hI.1.2
  have b2246 := BT_get hI.1.1 0 1 2 (0) (0) (900) (by decide) 1 (by decide) (by decide)
  rw [e2245] at b2246
  refine WP_aload_n dX11_may_0 rfl ?_
  refine WP_iload_n dX11_may_1 rfl ?_
  refine WP_callV1 (k := 11) dX11_may_2 ⟨⟨⟨by decide, by decide⟩, zX11_isSort⟩, lX11_367, by decide, rfl, vX11_isSort.1, vX11_isSort.2⟩ (ly_is hy 0 11 rfl) (sm_isSort hy hr hI a ) (Nat.le_of_ble_eq_true rfl) ?_
  intro r Ia Ja Ra hq
  obtain ⟨⟨ea, eb, ec⟩, v2247, rfl, av2247, bv2247, cv2247⟩ := hq
  show WP _ _ _ _ (.int _ :: _) _ _ _ _
  rw [ea, eb, ec]
  clear ea eb ec Ia Ja Ra
  obtain ⟨w2248, ew2248⟩ : ∃ w : Int32, I (ad g 0) 10 = w := ⟨_, rfl⟩
  have bw2248 := BT_get hI.1.1 0 10 11 (0) (0) (4) (by decide) 10 (by decide) (by decide)
  rw [ew2248] at bw2248
  rw [ew2248] at cv2247
  have jn67_2269 : ∀ (v2269 : Int32), -2 ≤ v2269.toInt → v2269.toInt ≤ 1 → WP g mX11_may 67 [(0, .ref (ad g 0)), (1, .int a), (2, .int b), (3, .int c), (4, .int e), (5, .int f)] [.int v2269] I J R (fun r I' J' R' => (I' = I ∧ J' = J ∧ R' = R) ∧ ∃ v : Int32, r = some (.int v)) := by
    intro v2269 av2269 bv2269
    exact WP_iret dX11_may_67 rfl ⟨⟨rfl, rfl, rfl⟩, _, rfl⟩
  refine WQ_if_eq 43 dX11_may_5 rfl (fun c2270 => ?_) (fun c2270 => ?_)
  · refine WQ_bipush (-2) (-2) dX11_may_43 rfl rfl (fun v2272 hv2272 => ?_)
    refine WP_goto 67 dX11_may_45 rfl ?_
    exact WP_sub (fc rfl (fc rfl (fc rfl (fc rfl (fc rfl (fc rfl fn)))))) (jn67_2269 v2272 (by omega) (by omega))
  · refine WP_iload_n dX11_may_8 rfl ?_
    refine WP_callS1 dX11_may_9 ⟨⟨⟨by decide, by decide⟩, zX11_isDay⟩, lX11_370, tX11_isDay⟩ (sm_isDay hy hr hI b ) (Nat.le_of_ble_eq_true rfl) ?_
    intro r Ia Ja Ra hq
    obtain ⟨⟨ea, eb, ec⟩, v2273, rfl, av2273, bv2273, cv2273⟩ := hq
    show WP _ _ _ _ (.int _ :: _) _ _ _ _
    rw [ea, eb, ec]
    clear ea eb ec Ia Ja Ra
    refine WQ_if_eq 43 dX11_may_12 rfl (fun c2273 => ?_) (fun c2273 => ?_)
    · refine WQ_bipush (-2) (-2) dX11_may_43 rfl rfl (fun v2275 hv2275 => ?_)
      refine WP_goto 67 dX11_may_45 rfl ?_
      exact WP_sub (fc rfl (fc rfl (fc rfl (fc rfl (fc rfl (fc rfl fn)))))) (jn67_2269 v2275 (by omega) (by omega))
    · refine WP_iload_n dX11_may_15 rfl ?_
      refine WP_callS1 dX11_may_16 ⟨⟨⟨by decide, by decide⟩, zX11_areCoins⟩, lX11_392, tX11_areCoins⟩ (sm_areCoins hy hr hI c ) (Nat.le_of_ble_eq_true rfl) ?_
      intro r Ia Ja Ra hq
      obtain ⟨⟨ea, eb, ec⟩, v2276, rfl, av2276, bv2276, cv2276⟩ := hq
      show WP _ _ _ _ (.int _ :: _) _ _ _ _
      rw [ea, eb, ec]
      clear ea eb ec Ia Ja Ra
      refine WQ_if_eq 43 dX11_may_19 rfl (fun c2276 => ?_) (fun c2276 => ?_)
      · refine WQ_bipush (-2) (-2) dX11_may_43 rfl rfl (fun v2278 hv2278 => ?_)
        refine WP_goto 67 dX11_may_45 rfl ?_
        exact WP_sub (fc rfl (fc rfl (fc rfl (fc rfl (fc rfl (fc rfl fn)))))) (jn67_2269 v2278 (by omega) (by omega))
      · refine WP_iload dX11_may_22 rfl ?_
        refine WP_callS1 dX11_may_24 ⟨⟨⟨by decide, by decide⟩, zX11_isStore⟩, lX11_395, tX11_isStore⟩ (sm_isStore hy hr hI e ) (Nat.le_of_ble_eq_true rfl) ?_
        intro r Ia Ja Ra hq
        obtain ⟨⟨ea, eb, ec⟩, v2279, rfl, av2279, bv2279, cv2279⟩ := hq
        show WP _ _ _ _ (.int _ :: _) _ _ _ _
        rw [ea, eb, ec]
        clear ea eb ec Ia Ja Ra
        refine WQ_if_eq 43 dX11_may_27 rfl (fun c2279 => ?_) (fun c2279 => ?_)
        · refine WQ_bipush (-2) (-2) dX11_may_43 rfl rfl (fun v2281 hv2281 => ?_)
          refine WP_goto 67 dX11_may_45 rfl ?_
          exact WP_sub (fc rfl (fc rfl (fc rfl (fc rfl (fc rfl (fc rfl fn)))))) (jn67_2269 v2281 (by omega) (by omega))
        · refine WP_iload dX11_may_30 rfl ?_
          refine WQ_i2l dX11_may_32 (fun l2282 hl2282 => ?_)
          refine WP_lconst (0) dX11_may_33 rfl ?_
          obtain ⟨l2283, hl2283, el2283⟩ : ∃ v : Int64, v.toInt = 0 ∧ (0 : Int64) = v := ⟨_, rfl, rfl⟩
          rw [el2283]; clear el2283
          refine WP_ldc2 (47) dX11_may_34 klX11_408 ?_
          obtain ⟨l2284, hl2284, el2284⟩ : ∃ v : Int64, v.toInt = (47) ∧ ((47) : Int64) = v := ⟨_, rfl, rfl⟩
          rw [el2284]; clear el2284
          refine WP_callS3 dX11_may_37 ⟨⟨⟨by decide, by decide⟩, zX11_in⟩, lX11_52, tX11_in⟩ (sm_in hy hr hI l2282 l2283 l2284 ) (Nat.le_of_ble_eq_true rfl) ?_
          intro r Ia Ja Ra hq
          obtain ⟨⟨ea, eb, ec⟩, v2285, rfl, av2285, bv2285, cv2285⟩ := hq
          show WP _ _ _ _ (.int _ :: _) _ _ _ _
          rw [ea, eb, ec]
          clear ea eb ec Ia Ja Ra
          refine WQ_if_ne 48 dX11_may_40 rfl (fun c2285 => ?_) (fun c2285 => ?_)
          · refine WP_aload_n dX11_may_48 rfl ?_
            refine WP_iload_n dX11_may_49 rfl ?_
            refine WP_iload_n dX11_may_50 rfl ?_
            refine WP_iload_n dX11_may_51 rfl ?_
            refine WP_iload dX11_may_52 rfl ?_
            refine WP_iload dX11_may_54 rfl ?_
            refine WP_callV5 (k := 11) dX11_may_56 ⟨⟨⟨by decide, by decide⟩, zX11_mayDo⟩, lX11_410, by decide, rfl, vX11_mayDo.1, vX11_mayDo.2⟩ (ly_is hy 0 11 rfl) (sm_mayDo hy hr hI a b c e f (by omega) (by omega) (by omega) (by omega) (by omega) (by omega) (by omega) (by omega) (by omega) (by omega)) (Nat.le_of_ble_eq_true rfl) ?_
            intro r Ia Ja Ra hq
            obtain ⟨⟨ea, eb, ec⟩, v2287, rfl, av2287, bv2287⟩ := hq
            show WP _ _ _ _ (.int _ :: _) _ _ _ _
            rw [ea, eb, ec]
            clear ea eb ec Ia Ja Ra
            refine WQ_if_eq 66 dX11_may_59 rfl (fun c2287 => ?_) (fun c2287 => ?_)
            · refine WQ_iconst (0) (0) dX11_may_66 rfl rfl (fun v2289 hv2289 => ?_)
              exact WP_sub (fc rfl (fc rfl (fc rfl (fc rfl (fc rfl (fc rfl fn)))))) (jn67_2269 v2289 (by omega) (by omega))
            · refine WQ_iconst (1) (1) dX11_may_62 rfl rfl (fun v2290 hv2290 => ?_)
              refine WP_goto 67 dX11_may_63 rfl ?_
              exact WP_sub (fc rfl (fc rfl (fc rfl (fc rfl (fc rfl (fc rfl fn)))))) (jn67_2269 v2290 (by omega) (by omega))
          · refine WQ_bipush (-2) (-2) dX11_may_43 rfl rfl (fun v2291 hv2291 => ?_)
            refine WP_goto 67 dX11_may_45 rfl ?_
            exact WP_sub (fc rfl (fc rfl (fc rfl (fc rfl (fc rfl (fc rfl fn)))))) (jn67_2269 v2291 (by omega) (by omega))
set_option maxHeartbeats 4000000 in
set_option maxRecDepth 100000 in
theorem sm_loses {g : GG} {n : Int} {L : Int32} (hy : Ly g)  {I : pI} {J : pJ} {R : pR} (hr : Rf g R) (hI : MP g n L I) (da : Int32) (da_lo : 0 ≤ da.toInt) (da_hi : da.toInt ≤ 6) : SP g mX11_loses [.ref (ad g 0), .int da] I J R (fun r I' J' R' => (I' = I ∧ J' = J ∧ R' = R) ∧ ∃ v : Int32, r = some (.int v) ∧ -1 ≤ v.toInt ∧ v.toInt ≤ 900) := by
  refine SP_of ⟨by decide, rfl⟩ (Nat.le_of_ble_eq_true rfl) ?_
  have e2292 : I (ad g 0) 1 = L := hI.1.2
  have b2293 := BT_get hI.1.1 0 1 2 (0) (0) (900) (by decide) 1 (by decide) (by decide)
  rw [e2292] at b2293
  refine WP_aload_n dX11_loses_0 rfl ?_
  refine WQ_geti dX11_loses_1 fX11_273 rfl (ly_is hy 0 11 rfl) (BT_get hI.1.1 0 55 56 (-1) (0) (900) (by decide) 55 (by decide) (by decide)) (fun v2294 ev2294 av2294 bv2294 => ?_)
  refine WQ_iconst (-1) (-1) dX11_loses_4 rfl rfl (fun v2295 hv2295 => ?_)
  have jn30_2300 : ∀ (v2300 : Int32), 0 ≤ v2300.toInt → v2300.toInt ≤ 900 → WP g mX11_loses 30 [(0, .ref (ad g 0)), (1, .int da)] [.int v2300] I J R (fun r I' J' R' => (I' = I ∧ J' = J ∧ R' = R) ∧ ∃ v : Int32, r = some (.int v) ∧ -1 ≤ v.toInt ∧ v.toInt ≤ 900) := by
    intro v2300 av2300 bv2300
    exact WP_iret dX11_loses_30 rfl ⟨⟨rfl, rfl, rfl⟩, _, rfl, by omega, by omega⟩
  refine WQ_icmp_eq 17 dX11_loses_5 rfl (fun c2301 => ?_) (fun c2301 => ?_)
  · refine WP_aload_n dX11_loses_17 rfl ?_
    refine WP_getr dX11_loses_18 fX11_233 rfl (ly_is hy 0 11 rfl) (rf hr 0 24 6 (by decide)) ?_
    refine WP_iload_n dX11_loses_21 rfl ?_
    refine WQ_iald dX11_loses_22 (ly_is hy 6 13 rfl) (ly_n hy 6 7 rfl) (by omega) (by omega) (fun q hq => BT_get hI.1.1 6 0 7 (0) (0) (900) (by decide) q (Nat.zero_le _) hq) (fun v2303 av2303 bv2303 ev2303 => ?_)
    clear ev2303
    refine WP_goto 30 dX11_loses_23 rfl ?_
    exact WP_sub (fc rfl (fc rfl fn)) (jn30_2300 v2303 (by omega) (by omega))
  · refine WP_aload_n dX11_loses_8 rfl ?_
    refine WP_getr dX11_loses_9 fX11_233 rfl (ly_is hy 0 11 rfl) (rf hr 0 24 6 (by decide)) ?_
    refine WP_iload_n dX11_loses_12 rfl ?_
    refine WQ_iald dX11_loses_13 (ly_is hy 6 13 rfl) (ly_n hy 6 7 rfl) (by omega) (by omega) (fun q hq => BT_get hI.1.1 6 0 7 (0) (0) (900) (by decide) q (Nat.zero_le _) hq) (fun v2304 av2304 bv2304 ev2304 => ?_)
    clear ev2304
    refine WQ_if_ne 26 dX11_loses_14 rfl (fun c2304 => ?_) (fun c2304 => ?_)
    · refine WP_aload_n dX11_loses_26 rfl ?_
      refine WQ_getim dX11_loses_27 fX11_273 rfl (ly_is hy 0 11 rfl) ev2294 ?_
      exact WP_sub (fc rfl (fc rfl fn)) (jn30_2300 v2294 (by omega) (by omega))
    · refine WP_aload_n dX11_loses_17 rfl ?_
      refine WP_getr dX11_loses_18 fX11_233 rfl (ly_is hy 0 11 rfl) (rf hr 0 24 6 (by decide)) ?_
      refine WP_iload_n dX11_loses_21 rfl ?_
      refine WQ_iald dX11_loses_22 (ly_is hy 6 13 rfl) (ly_n hy 6 7 rfl) (by omega) (by omega) (fun q hq => BT_get hI.1.1 6 0 7 (0) (0) (900) (by decide) q (Nat.zero_le _) hq) (fun v2306 av2306 bv2306 ev2306 => ?_)
      clear ev2306
      refine WP_goto 30 dX11_loses_23 rfl ?_
      exact WP_sub (fc rfl (fc rfl fn)) (jn30_2300 v2306 (by omega) (by omega))
set_option maxHeartbeats 4000000 in
set_option maxRecDepth 100000 in
theorem sm_forgetWeeks {g : GG} {n : Int} {L : Int32} (hy : Ly g)  {I : pI} {J : pJ} {R : pR} (hr : Rf g R) (hI : MP g n L I)   : SP g mX11_forgetWeeks [.ref (ad g 0)] I J R (fun r I' J' R' => (MP g n L I' ∧ R' = R) ∧ r = none) := by
  refine SP_of ⟨by decide, rfl⟩ (Nat.le_of_ble_eq_true rfl) ?_
  have e2307 : I (ad g 0) 1 = L := hI.1.2
  have b2308 := BT_get hI.1.1 0 1 2 (0) (0) (900) (by decide) 1 (by decide) (by decide)
  rw [e2307] at b2308
  refine WQ_iconst (0) (0) dX11_forgetWeeks_0 rfl rfl (fun v2309 hv2309 => ?_)
  refine WP_istore_n (ls' := [(0, _), (1, _)]) dX11_forgetWeeks_1 (by decide) rfl ?_
  have lp2_2312 : ∀ (mz : Nat) (i2310 : Int32) (I2311 : pI) (J2312 : pJ), MP g n L I2311 → 0 ≤ i2310.toInt → i2310.toInt ≤ 28 → (29 - i2310.toInt).toNat < mz → WP g mX11_forgetWeeks 2 [(0, .ref (ad g 0)), (1, .int i2310)] [] I2311 J2312 R (fun r I' J' R' => (MP g n L I' ∧ R' = R) ∧ r = none) := by
    intro mz
    induction mz with
    | zero =>
      intro i2310 I2311 J2312 hI2311 ai2310 bi2310 hmlp2_2312
      exact absurd hmlp2_2312 (Nat.not_lt_zero _)
    | succ mz ihlp2_2312 =>
      intro i2310 I2311 J2312 hI2311 ai2310 bi2310 hmlp2_2312
      have e2314 : I2311 (ad g 0) 1 = L := hI2311.1.2
      have b2315 := BT_get hI2311.1.1 0 1 2 (0) (0) (900) (by decide) 1 (by decide) (by decide)
      rw [e2314] at b2315
      refine WP_iload_n dX11_forgetWeeks_2 rfl ?_
      refine WQ_bipush (28) (28) dX11_forgetWeeks_3 rfl rfl (fun v2316 hv2316 => ?_)
      refine WQ_icmp_ge 21 dX11_forgetWeeks_5 rfl (fun c2316 => ?_) (fun c2316 => ?_)
      · exact WP_vret dX11_forgetWeeks_21 rfl ⟨⟨hI2311, rfl⟩, rfl⟩
      · refine WP_aload_n dX11_forgetWeeks_8 rfl ?_
        refine WP_getr dX11_forgetWeeks_9 fX11_279 rfl (ly_is hy 0 11 rfl) (rf hr 0 58 37 (by decide)) ?_
        refine WP_iload_n dX11_forgetWeeks_12 rfl ?_
        refine WQ_iconst (0) (0) dX11_forgetWeeks_13 rfl rfl (fun v2318 hv2318 => ?_)
        refine WQ_zast dX11_forgetWeeks_14 (ly_is hy 37 15 rfl) (ly_n hy 37 28 rfl) (by omega) (by omega) (fun I2319 v2320 eI2319 => ?_)
        have hI2319 : MP g n L I2319 := by rw [eI2319]; exact (mp_w hy hI2311 (c := 37) (mi_r0 hy hI2311.1 (c := 37) (by decide) (Or.inl (by decide)) (by decide)) (by decide) (by decide) (Or.inl (by decide)))
        have e2321 : I2319 (ad g 0) 1 = L := by rw [eI2319, pp_ne _ _ (Or.inl (ly_ne hy (by decide) (by decide) (by decide)))]; exact e2314
        clear eI2319
        refine WP_iinc (ls' := [(0, _), (1, _)]) dX11_forgetWeeks_15 rfl (by decide) rfl ?_
        have hv2322 : (i2310 + Int32.ofInt (1)).toInt = i2310.toInt + (1) := ia_n rfl (by omega) (by omega)
        generalize i2310 + Int32.ofInt (1) = v2322 at hv2322 ⊢
        refine WP_goto 2 dX11_forgetWeeks_18 rfl ?_
        exact WP_sub (fc rfl (fc rfl fn)) (ihlp2_2312 v2322 I2319 J2312 hI2319 (by omega) (by omega) (by omega))
  exact WP_sub (fc rfl (fc rfl fn)) (lp2_2312 _ v2309 I J hI (by omega) (by omega) (Nat.lt_succ_self _))
set_option maxHeartbeats 4000000 in
set_option maxRecDepth 100000 in
theorem sm_way {g : GG} {n : Int} {L : Int32} (hy : Ly g)  {I : pI} {J : pJ} {R : pR} (hr : Rf g R) (hI : MP g n L I) (a : Int32) (b : Int32)  : SP g mX11_way [.ref (ad g 0), .int a, .int b] I J R (fun r I' J' R' => (MP g n L I' ∧ R' = R) ∧ ∃ v : Int32, r = some (.int v)) := by
  refine SP_of ⟨by decide, rfl⟩ (Nat.le_of_ble_eq_true rfl) ?_
  have e2323 : I (ad g 0) 1 = L := hI.1.2
  have b2324 := BT_get hI.1.1 0 1 2 (0) (0) (900) (by decide) 1 (by decide) (by decide)
  rw [e2323] at b2324
  refine WP_aload_n dX11_way_0 rfl ?_
  refine WP_iload_n dX11_way_1 rfl ?_
  refine WP_callV1 (k := 11) dX11_way_2 ⟨⟨⟨by decide, by decide⟩, zX11_isSort⟩, lX11_367, by decide, rfl, vX11_isSort.1, vX11_isSort.2⟩ (ly_is hy 0 11 rfl) (sm_isSort hy hr hI a ) (Nat.le_of_ble_eq_true rfl) ?_
  intro r Ia Ja Ra hq
  obtain ⟨⟨ea, eb, ec⟩, v2325, rfl, av2325, bv2325, cv2325⟩ := hq
  show WP _ _ _ _ (.int _ :: _) _ _ _ _
  rw [ea, eb, ec]
  clear ea eb ec Ia Ja Ra
  obtain ⟨w2326, ew2326⟩ : ∃ w : Int32, I (ad g 0) 10 = w := ⟨_, rfl⟩
  have bw2326 := BT_get hI.1.1 0 10 11 (0) (0) (4) (by decide) 10 (by decide) (by decide)
  rw [ew2326] at bw2326
  rw [ew2326] at cv2325
  refine WQ_if_eq 15 dX11_way_5 rfl (fun c2326 => ?_) (fun c2326 => ?_)
  · refine WQ_bipush (-2) (-2) dX11_way_15 rfl rfl (fun v2328 hv2328 => ?_)
    exact WP_iret dX11_way_17 rfl ⟨⟨hI, rfl⟩, _, rfl⟩
  · refine WP_iload_n dX11_way_8 rfl ?_
    refine WP_callS1 dX11_way_9 ⟨⟨⟨by decide, by decide⟩, zX11_isWay⟩, lX11_454, tX11_isWay⟩ (sm_isWay hy hr hI b ) (Nat.le_of_ble_eq_true rfl) ?_
    intro r Ia Ja Ra hq
    obtain ⟨⟨ea, eb, ec⟩, v2329, rfl, av2329, bv2329, cv2329⟩ := hq
    show WP _ _ _ _ (.int _ :: _) _ _ _ _
    rw [ea, eb, ec]
    clear ea eb ec Ia Ja Ra
    refine WQ_if_ne 18 dX11_way_12 rfl (fun c2329 => ?_) (fun c2329 => ?_)
    · refine WP_aload_n dX11_way_18 rfl ?_
      refine WP_getr dX11_way_19 fX11_283 rfl (ly_is hy 0 11 rfl) (rf hr 0 59 38 (by decide)) ?_
      refine WQ_bipush (28) (28) dX11_way_22 rfl rfl (fun v2331 hv2331 => ?_)
      refine WP_iload_n dX11_way_24 rfl ?_
      refine WQ_iadd dX11_way_25 (by omega) (by omega) (fun v2332 hv2332 => ?_)
      refine WQ_ialdu dX11_way_26 (ly_is hy 38 13 rfl) (ly_n hy 38 35 rfl) (by omega) (by omega) (fun v2333 => ?_)
      refine WP_istore_n (ls' := [(0, _), (1, _), (2, _), (3, _)]) dX11_way_27 (by decide) rfl ?_
      refine WP_aload_n dX11_way_28 rfl ?_
      refine WP_getr dX11_way_29 fX11_283 rfl (ly_is hy 0 11 rfl) (rf hr 0 59 38 (by decide)) ?_
      refine WQ_bipush (28) (28) dX11_way_32 rfl rfl (fun v2334 hv2334 => ?_)
      refine WP_iload_n dX11_way_34 rfl ?_
      refine WQ_iadd dX11_way_35 (by omega) (by omega) (fun v2335 hv2335 => ?_)
      refine WP_iload_n dX11_way_36 rfl ?_
      refine WQ_iast dX11_way_37 (ly_is hy 38 13 rfl) (ly_n hy 38 35 rfl) (by omega) (by omega) (fun I2336 eI2336 => ?_)
      have hI2336 : MP g n L I2336 := by rw [eI2336]; exact (mp_w hy hI (c := 38) (mi_rr hy hI.1 (c := 38) (28) (31) (0) (0) (0) (by decide) (Or.inl (by decide)) (by rw [cl (n := v2335.toInt.toNat) (by omega)]; omega) (by decide) (fun h => absurd h (by decide))) (by decide) (by decide) (Or.inl (by decide)))
      have e2337 : I2336 (ad g 0) 1 = L := by rw [eI2336, pp_ne _ _ (Or.inl (ly_ne hy (by decide) (by decide) (by decide)))]; exact e2323
      have e2338 : I2336 (ad g 0) 10 = w2326 := by rw [eI2336, pp_ne _ _ (Or.inl (ly_ne hy (by decide) (by decide) (by decide)))]; exact ew2326
      clear eI2336
      refine WP_iload_n dX11_way_38 rfl ?_
      exact WP_iret dX11_way_39 rfl ⟨⟨hI2336, rfl⟩, _, rfl⟩
    · refine WQ_bipush (-2) (-2) dX11_way_15 rfl rfl (fun v2339 hv2339 => ?_)
      exact WP_iret dX11_way_17 rfl ⟨⟨hI, rfl⟩, _, rfl⟩
set_option maxHeartbeats 4000000 in
set_option maxRecDepth 100000 in
theorem sm_paidByAll {g : GG} {n : Int} {L : Int32} (hy : Ly g)  {I : pI} {J : pJ} {R : pR} (hr : Rf g R) (hI : MP g n L I)   : SP g mX11_paidByAll [.ref (ad g 0), .ref (ad g 38)] I J R (fun r I' J' R' => (I' = I ∧ J' = J ∧ R' = R) ∧ ∃ v : Int32, r = some (.int v)) := by
  refine SP_of ⟨by decide, rfl⟩ (Nat.le_of_ble_eq_true rfl) ?_
  have e2340 : I (ad g 0) 1 = L := hI.1.2
  have b2341 := BT_get hI.1.1 0 1 2 (0) (0) (900) (by decide) 1 (by decide) (by decide)
  rw [e2340] at b2341
  refine WQ_iconst (0) (0) dX11_paidByAll_0 rfl rfl (fun v2342 hv2342 => ?_)
  refine WP_istore_n (ls' := [(0, _), (1, _), (2, _)]) dX11_paidByAll_1 (by decide) rfl ?_
  refine WQ_iconst (0) (0) dX11_paidByAll_2 rfl rfl (fun v2343 hv2343 => ?_)
  refine WP_istore_n (ls' := [(0, _), (1, _), (2, _), (3, _)]) dX11_paidByAll_3 (by decide) rfl ?_
  have lp4_2345 : ∀ (mz : Nat) (i2344 : Int32) (i2345 : Int32), 0 ≤ i2345.toInt → i2345.toInt ≤ 4 → (5 - i2345.toInt).toNat < mz → WP g mX11_paidByAll 4 [(0, .ref (ad g 0)), (1, .ref (ad g 38)), (2, .int i2344), (3, .int i2345)] [] I J R (fun r I' J' R' => (I' = I ∧ J' = J ∧ R' = R) ∧ ∃ v : Int32, r = some (.int v)) := by
    intro mz
    induction mz with
    | zero =>
      intro i2344 i2345 ai2345 bi2345 hmlp4_2345
      exact absurd hmlp4_2345 (Nat.not_lt_zero _)
    | succ mz ihlp4_2345 =>
      intro i2344 i2345 ai2345 bi2345 hmlp4_2345
      refine WP_iload_n dX11_paidByAll_4 rfl ?_
      refine WP_aload_n dX11_paidByAll_5 rfl ?_
      refine WQ_geti dX11_paidByAll_6 fX11_329 rfl (ly_is hy 0 11 rfl) (BT_get hI.1.1 0 10 11 (0) (0) (4) (by decide) 10 (by decide) (by decide)) (fun v2347 ev2347 av2347 bv2347 => ?_)
      refine WQ_icmp_ge 27 dX11_paidByAll_9 rfl (fun c2347 => ?_) (fun c2347 => ?_)
      · refine WP_iload_n dX11_paidByAll_27 rfl ?_
        exact WP_iret dX11_paidByAll_28 rfl ⟨⟨rfl, rfl, rfl⟩, _, rfl⟩
      · refine WP_iload_n dX11_paidByAll_12 rfl ?_
        refine WP_aload_n dX11_paidByAll_13 rfl ?_
        refine WQ_bipush (8) (8) dX11_paidByAll_14 rfl rfl (fun v2349 hv2349 => ?_)
        refine WP_iload_n dX11_paidByAll_16 rfl ?_
        refine WQ_iadd dX11_paidByAll_17 (by omega) (by omega) (fun v2350 hv2350 => ?_)
        refine WQ_ialdu dX11_paidByAll_18 (ly_is hy 38 13 rfl) (ly_n hy 38 35 rfl) (by omega) (by omega) (fun v2351 => ?_)
        refine WQ_iaddu dX11_paidByAll_19 (fun v2352 => ?_)
        refine WP_istore_n (ls' := [(0, _), (1, _), (2, _), (3, _)]) dX11_paidByAll_20 (by decide) rfl ?_
        refine WP_iinc (ls' := [(0, _), (1, _), (2, _), (3, _)]) dX11_paidByAll_21 rfl (by decide) rfl ?_
        have hv2353 : (i2345 + Int32.ofInt (1)).toInt = i2345.toInt + (1) := ia_n rfl (by omega) (by omega)
        generalize i2345 + Int32.ofInt (1) = v2353 at hv2353 ⊢
        refine WP_goto 4 dX11_paidByAll_24 rfl ?_
        exact WP_sub (fc rfl (fc rfl (fc rfl (fc rfl fn)))) (ihlp4_2345 v2352 v2353 (by omega) (by omega) (by omega))
  exact WP_sub (fc rfl (fc rfl (fc rfl (fc rfl fn)))) (lp4_2345 _ v2342 v2343 (by omega) (by omega) (Nat.lt_succ_self _))
set_option maxHeartbeats 4000000 in
set_option maxRecDepth 100000 in
theorem sm_all {g : GG} {n : Int} {L : Int32} (hy : Ly g)  {I : pI} {J : pJ} {R : pR} (hr : Rf g R) (hI : MP g n L I) (a : Int32)  : SP g mX11_all [.ref (ad g 0), .int a] I J R (fun r I' J' R' => (I' = I ∧ J' = J ∧ R' = R) ∧ ∃ v : Int32, r = some (.int v)) := by
  refine SP_of ⟨by decide, rfl⟩ (Nat.le_of_ble_eq_true rfl) ?_
  have e2354 : I (ad g 0) 1 = L := hI.1.2
  have b2355 := BT_get hI.1.1 0 1 2 (0) (0) (900) (by decide) 1 (by decide) (by decide)
  rw [e2354] at b2355
  refine WP_iload_n dX11_all_0 rfl ?_
  refine WP_tab 89 dX11_all_1 rfl rfl (fun c2355 => ?_) (fun j off c2355 hj => ?_) (by decide)
  · refine WQ_iconst (-1) (-1) dX11_all_89 rfl rfl (fun v2357 hv2357 => ?_)
    exact WP_iret dX11_all_90 rfl ⟨⟨rfl, rfl, rfl⟩, _, rfl⟩
  · have hlt : j < 4 := by have := (Array.getElem?_eq_some_iff.mp hj).1; simpa using this
    have hcs : (j = 0 ∧ off = 31) ∨ (j = 1 ∧ off = 39) ∨ (j = 2 ∧ off = 47) ∨ (j = 3 ∧ off = 80) := by
      match j, hlt, hj with
      | 0, _, hj => exact Or.inl ⟨rfl, (Option.some.inj hj).symm⟩
      | 1, _, hj => exact Or.inr (Or.inl ⟨rfl, (Option.some.inj hj).symm⟩)
      | 2, _, hj => exact Or.inr (Or.inr (Or.inl ⟨rfl, (Option.some.inj hj).symm⟩))
      | 3, _, hj => exact Or.inr (Or.inr (Or.inr (⟨rfl, (Option.some.inj hj).symm⟩)))
    clear hj hlt
    rcases hcs with ⟨rfl, rfl⟩ | ⟨rfl, rfl⟩ | ⟨rfl, rfl⟩ | ⟨rfl, rfl⟩
    · show WP _ _ 32 _ _ _ _ _ _
      refine WP_aload_n dX11_all_32 rfl ?_
      refine WP_getr dX11_all_33 fX11_283 rfl (ly_is hy 0 11 rfl) (rf hr 0 59 38 (by decide)) ?_
      refine WQ_bipush (32) (32) dX11_all_36 rfl rfl (fun v2358 hv2358 => ?_)
      refine WQ_ialdr dX11_all_38 (ly_is hy 38 13 rfl) (ly_n hy 38 35 rfl) (by omega) (by omega) (a := 32) (b := 33) (by omega) (by omega) (fun q hq1 hq2 => BT_get hI.1.1 38 32 33 (0) (23760) (0) (by decide) q hq1 hq2) (fun v2359 av2359 bv2359 => ?_)
      exact WP_iret dX11_all_39 rfl ⟨⟨rfl, rfl, rfl⟩, _, rfl⟩
    · show WP _ _ 40 _ _ _ _ _ _
      refine WP_aload_n dX11_all_40 rfl ?_
      refine WP_getr dX11_all_41 fX11_283 rfl (ly_is hy 0 11 rfl) (rf hr 0 59 38 (by decide)) ?_
      refine WQ_bipush (33) (33) dX11_all_44 rfl rfl (fun v2360 hv2360 => ?_)
      refine WQ_ialdr dX11_all_46 (ly_is hy 38 13 rfl) (ly_n hy 38 35 rfl) (by omega) (by omega) (a := 33) (b := 34) (by omega) (by omega) (fun q hq1 hq2 => BT_get hI.1.1 38 33 34 (0) (1) (0) (by decide) q hq1 hq2) (fun v2361 av2361 bv2361 => ?_)
      exact WP_iret dX11_all_47 rfl ⟨⟨rfl, rfl, rfl⟩, _, rfl⟩
    · show WP _ _ 48 _ _ _ _ _ _
      refine WP_aload_n dX11_all_48 rfl ?_
      refine WQ_getl dX11_all_49 fX11_346 rfl (ly_is hy 0 11 rfl) (fun l2362 el2362 => ?_)
      refine WP_lconst (0) dX11_all_52 rfl ?_
      obtain ⟨l2363, hl2363, el2363⟩ : ∃ v : Int64, v.toInt = 0 ∧ (0 : Int64) = v := ⟨_, rfl, rfl⟩
      rw [el2363]; clear el2363
      refine WQ_lcmp dX11_all_53 (fun v2364 av2364 bv2364 => ?_)
      refine WQ_if_ne 61 dX11_all_54 rfl (fun c2364 => ?_) (fun c2364 => ?_)
      · refine WP_ldc2 (1000) dX11_all_61 klX11_488 ?_
        obtain ⟨l2366, hl2366, el2366⟩ : ∃ v : Int64, v.toInt = (1000) ∧ ((1000) : Int64) = v := ⟨_, rfl, rfl⟩
        rw [el2366]; clear el2366
        refine WP_aload_n dX11_all_64 rfl ?_
        refine WP_aload_n dX11_all_65 rfl ?_
        refine WP_getr dX11_all_66 fX11_283 rfl (ly_is hy 0 11 rfl) (rf hr 0 59 38 (by decide)) ?_
        refine WP_callV1 (k := 11) dX11_all_69 ⟨⟨⟨by decide, by decide⟩, zX11_paidByAll⟩, lX11_490, by decide, rfl, vX11_paidByAll.1, vX11_paidByAll.2⟩ (ly_is hy 0 11 rfl) (sm_paidByAll hy hr hI  ) (Nat.le_of_ble_eq_true rfl) ?_
        intro r Ia Ja Ra hq
        obtain ⟨⟨ea, eb, ec⟩, v2367, rfl⟩ := hq
        show WP _ _ _ _ (.int _ :: _) _ _ _ _
        rw [ea, eb, ec]
        clear ea eb ec Ia Ja Ra
        refine WQ_i2l dX11_all_72 (fun l2368 hl2368 => ?_)
        refine WQ_lmul dX11_all_73 (fun l2369 => ?_)
        refine WP_aload_n dX11_all_74 rfl ?_
        refine WP_getl dX11_all_75 fX11_346 rfl (ly_is hy 0 11 rfl) ?_
        rw [el2362]
        refine WQ_ldiv dX11_all_78 (by omega) (fun l2370 => ?_)
        refine WQ_l2i dX11_all_79 (fun v2371 => ?_)
        exact WP_iret dX11_all_80 rfl ⟨⟨rfl, rfl, rfl⟩, _, rfl⟩
      · refine WQ_iconst (-1) (-1) dX11_all_57 rfl rfl (fun v2372 hv2372 => ?_)
        refine WP_goto 80 dX11_all_58 rfl ?_
        exact WP_iret dX11_all_80 rfl ⟨⟨rfl, rfl, rfl⟩, _, rfl⟩
    · show WP _ _ 81 _ _ _ _ _ _
      refine WP_aload_n dX11_all_81 rfl ?_
      refine WP_getr dX11_all_82 fX11_283 rfl (ly_is hy 0 11 rfl) (rf hr 0 59 38 (by decide)) ?_
      refine WQ_bipush (34) (34) dX11_all_85 rfl rfl (fun v2373 hv2373 => ?_)
      refine WQ_ialdu dX11_all_87 (ly_is hy 38 13 rfl) (ly_n hy 38 35 rfl) (by omega) (by omega) (fun v2374 => ?_)
      exact WP_iret dX11_all_88 rfl ⟨⟨rfl, rfl, rfl⟩, _, rfl⟩
set_option maxHeartbeats 4000000 in
set_option maxRecDepth 100000 in
theorem sm_lend {g : GG} {n : Int} {L : Int32} (hy : Ly g)  {I : pI} {J : pJ} {R : pR} (hr : Rf g R) (hI : MP g n L I) (c : Int32) (w : Int32) (y : Int32) (wh : Int32)  : SP g mX11_lend [.ref (ad g 0), .int c, .int w, .int y, .int wh] I J R (fun r I' J' R' => (I' = I ∧ J' = J ∧ R' = R) ∧ ∃ v : Int32, r = some (.int v)) := by
  refine SP_of ⟨by decide, rfl⟩ (Nat.le_of_ble_eq_true rfl) ?_
  have e2375 : I (ad g 0) 1 = L := hI.1.2
  have b2376 := BT_get hI.1.1 0 1 2 (0) (0) (900) (by decide) 1 (by decide) (by decide)
  rw [e2375] at b2376
  refine WP_iload_n dX11_lend_0 rfl ?_
  refine WQ_i2l dX11_lend_1 (fun l2377 hl2377 => ?_)
  refine WP_lconst (0) dX11_lend_2 rfl ?_
  obtain ⟨l2378, hl2378, el2378⟩ : ∃ v : Int64, v.toInt = 0 ∧ (0 : Int64) = v := ⟨_, rfl, rfl⟩
  rw [el2378]; clear el2378
  refine WP_ldc2 (999) dX11_lend_3 klX11_523 ?_
  obtain ⟨l2379, hl2379, el2379⟩ : ∃ v : Int64, v.toInt = (999) ∧ ((999) : Int64) = v := ⟨_, rfl, rfl⟩
  rw [el2379]; clear el2379
  refine WP_callS3 dX11_lend_6 ⟨⟨⟨by decide, by decide⟩, zX11_in⟩, lX11_52, tX11_in⟩ (sm_in hy hr hI l2377 l2378 l2379 ) (Nat.le_of_ble_eq_true rfl) ?_
  intro r Ia Ja Ra hq
  obtain ⟨⟨ea, eb, ec⟩, v2380, rfl, av2380, bv2380, cv2380⟩ := hq
  show WP _ _ _ _ (.int _ :: _) _ _ _ _
  rw [ea, eb, ec]
  clear ea eb ec Ia Ja Ra
  refine WQ_if_eq 47 dX11_lend_9 rfl (fun c2380 => ?_) (fun c2380 => ?_)
  · refine WQ_bipush (-2) (-2) dX11_lend_47 rfl rfl (fun v2382 hv2382 => ?_)
    exact WP_iret dX11_lend_49 rfl ⟨⟨rfl, rfl, rfl⟩, _, rfl⟩
  · refine WP_iload_n dX11_lend_12 rfl ?_
    refine WQ_i2l dX11_lend_13 (fun l2383 hl2383 => ?_)
    refine WP_lconst (0) dX11_lend_14 rfl ?_
    obtain ⟨l2384, hl2384, el2384⟩ : ∃ v : Int64, v.toInt = 0 ∧ (0 : Int64) = v := ⟨_, rfl, rfl⟩
    rw [el2384]; clear el2384
    refine WP_ldc2 (52) dX11_lend_15 klX11_525 ?_
    obtain ⟨l2385, hl2385, el2385⟩ : ∃ v : Int64, v.toInt = (52) ∧ ((52) : Int64) = v := ⟨_, rfl, rfl⟩
    rw [el2385]; clear el2385
    refine WP_callS3 dX11_lend_18 ⟨⟨⟨by decide, by decide⟩, zX11_in⟩, lX11_52, tX11_in⟩ (sm_in hy hr hI l2383 l2384 l2385 ) (Nat.le_of_ble_eq_true rfl) ?_
    intro r Ia Ja Ra hq
    obtain ⟨⟨ea, eb, ec⟩, v2386, rfl, av2386, bv2386, cv2386⟩ := hq
    show WP _ _ _ _ (.int _ :: _) _ _ _ _
    rw [ea, eb, ec]
    clear ea eb ec Ia Ja Ra
    refine WQ_if_eq 47 dX11_lend_21 rfl (fun c2386 => ?_) (fun c2386 => ?_)
    · refine WQ_bipush (-2) (-2) dX11_lend_47 rfl rfl (fun v2388 hv2388 => ?_)
      exact WP_iret dX11_lend_49 rfl ⟨⟨rfl, rfl, rfl⟩, _, rfl⟩
    · refine WP_iload_n dX11_lend_24 rfl ?_
      refine WQ_i2l dX11_lend_25 (fun l2389 hl2389 => ?_)
      refine WP_lconst (0) dX11_lend_26 rfl ?_
      obtain ⟨l2390, hl2390, el2390⟩ : ∃ v : Int64, v.toInt = 0 ∧ (0 : Int64) = v := ⟨_, rfl, rfl⟩
      rw [el2390]; clear el2390
      refine WP_ldc2 (1000) dX11_lend_27 klX11_488 ?_
      obtain ⟨l2391, hl2391, el2391⟩ : ∃ v : Int64, v.toInt = (1000) ∧ ((1000) : Int64) = v := ⟨_, rfl, rfl⟩
      rw [el2391]; clear el2391
      refine WP_callS3 dX11_lend_30 ⟨⟨⟨by decide, by decide⟩, zX11_in⟩, lX11_52, tX11_in⟩ (sm_in hy hr hI l2389 l2390 l2391 ) (Nat.le_of_ble_eq_true rfl) ?_
      intro r Ia Ja Ra hq
      obtain ⟨⟨ea, eb, ec⟩, v2392, rfl, av2392, bv2392, cv2392⟩ := hq
      show WP _ _ _ _ (.int _ :: _) _ _ _ _
      rw [ea, eb, ec]
      clear ea eb ec Ia Ja Ra
      refine WQ_if_eq 47 dX11_lend_33 rfl (fun c2392 => ?_) (fun c2392 => ?_)
      · refine WQ_bipush (-2) (-2) dX11_lend_47 rfl rfl (fun v2394 hv2394 => ?_)
        exact WP_iret dX11_lend_49 rfl ⟨⟨rfl, rfl, rfl⟩, _, rfl⟩
      · refine WP_iload dX11_lend_36 rfl ?_
        refine WQ_i2l dX11_lend_38 (fun l2395 hl2395 => ?_)
        refine WP_lconst (0) dX11_lend_39 rfl ?_
        obtain ⟨l2396, hl2396, el2396⟩ : ∃ v : Int64, v.toInt = 0 ∧ (0 : Int64) = v := ⟨_, rfl, rfl⟩
        rw [el2396]; clear el2396
        refine WP_lconst (1) dX11_lend_40 rfl ?_
        obtain ⟨l2397, hl2397, el2397⟩ : ∃ v : Int64, v.toInt = 1 ∧ (1 : Int64) = v := ⟨_, rfl, rfl⟩
        rw [el2397]; clear el2397
        refine WP_callS3 dX11_lend_41 ⟨⟨⟨by decide, by decide⟩, zX11_in⟩, lX11_52, tX11_in⟩ (sm_in hy hr hI l2395 l2396 l2397 ) (Nat.le_of_ble_eq_true rfl) ?_
        intro r Ia Ja Ra hq
        obtain ⟨⟨ea, eb, ec⟩, v2398, rfl, av2398, bv2398, cv2398⟩ := hq
        show WP _ _ _ _ (.int _ :: _) _ _ _ _
        rw [ea, eb, ec]
        clear ea eb ec Ia Ja Ra
        refine WQ_if_ne 50 dX11_lend_44 rfl (fun c2398 => ?_) (fun c2398 => ?_)
        · refine WP_iload_n dX11_lend_50 rfl ?_
          refine WP_istore (ls' := [(0, _), (1, _), (2, _), (3, _), (4, _), (5, _)]) dX11_lend_51 (by decide) rfl ?_
          refine WQ_iconst (0) (0) dX11_lend_53 rfl rfl (fun v2400 hv2400 => ?_)
          refine WP_istore (ls' := [(0, _), (1, _), (2, _), (3, _), (4, _), (5, _), (6, _)]) dX11_lend_54 (by decide) rfl ?_
          have lp56_2402 : ∀ (mz : Nat) (i2401 : Int32) (i2402 : Int32), 0 ≤ i2401.toInt → i2401.toInt ≤ 999 → 0 ≤ i2402.toInt → i2402.toInt ≤ 52 → (53 - i2402.toInt).toNat < mz → WP g mX11_lend 56 [(0, .ref (ad g 0)), (1, .int c), (2, .int w), (3, .int y), (4, .int wh), (5, .int i2401), (6, .int i2402)] [] I J R (fun r I' J' R' => (I' = I ∧ J' = J ∧ R' = R) ∧ ∃ v : Int32, r = some (.int v)) := by
            intro mz
            induction mz with
            | zero =>
              intro i2401 i2402 ai2401 bi2401 ai2402 bi2402 hmlp56_2402
              exact absurd hmlp56_2402 (Nat.not_lt_zero _)
            | succ mz ihlp56_2402 =>
              intro i2401 i2402 ai2401 bi2401 ai2402 bi2402 hmlp56_2402
              refine WP_iload dX11_lend_56 rfl ?_
              refine WP_iload_n dX11_lend_58 rfl ?_
              refine WQ_icmp_ge 87 dX11_lend_59 rfl (fun c2403 => ?_) (fun c2403 => ?_)
              · refine WQ_iconst (0) (0) dX11_lend_87 rfl rfl (fun v2405 hv2405 => ?_)
                refine WP_istore (ls' := [(0, _), (1, _), (2, _), (3, _), (4, _), (5, _), (6, _)]) dX11_lend_88 (by decide) rfl ?_
                have lp90_2407 : ∀ (mz : Nat) (i2406 : Int32) (i2407 : Int32), 0 ≤ i2406.toInt → i2406.toInt ≤ 999 → 0 ≤ i2407.toInt → i2407.toInt ≤ 364 → (365 - i2407.toInt).toNat < mz → WP g mX11_lend 90 [(0, .ref (ad g 0)), (1, .int c), (2, .int w), (3, .int y), (4, .int wh), (5, .int i2406), (6, .int i2407)] [] I J R (fun r I' J' R' => (I' = I ∧ J' = J ∧ R' = R) ∧ ∃ v : Int32, r = some (.int v)) := by
                  intro mz
                  induction mz with
                  | zero =>
                    intro i2406 i2407 ai2406 bi2406 ai2407 bi2407 hmlp90_2407
                    exact absurd hmlp90_2407 (Nat.not_lt_zero _)
                  | succ mz ihlp90_2407 =>
                    intro i2406 i2407 ai2406 bi2406 ai2407 bi2407 hmlp90_2407
                    refine WP_iload dX11_lend_90 rfl ?_
                    refine WQ_bipush (7) (7) dX11_lend_92 rfl rfl (fun v2409 hv2409 => ?_)
                    refine WP_iload_n dX11_lend_94 rfl ?_
                    refine WQ_imulK (7) dX11_lend_95 hv2409 (by omega) (by omega) (fun v2410 hv2410 => ?_)
                    refine WQ_icmp_ge 131 dX11_lend_96 rfl (fun c2410 => ?_) (fun c2410 => ?_)
                    · refine WP_iload dX11_lend_131 rfl ?_
                      exact WP_iret dX11_lend_133 rfl ⟨⟨rfl, rfl, rfl⟩, _, rfl⟩
                    · refine WP_iload dX11_lend_99 rfl ?_
                      refine WQ_iconst (1) (1) dX11_lend_101 rfl rfl (fun v2412 hv2412 => ?_)
                      refine WQ_icmp_ne 131 dX11_lend_102 rfl (fun c2412 => ?_) (fun c2412 => ?_)
                      · refine WP_iload dX11_lend_131 rfl ?_
                        exact WP_iret dX11_lend_133 rfl ⟨⟨rfl, rfl, rfl⟩, _, rfl⟩
                      · refine WP_iload dX11_lend_105 rfl ?_
                        refine WP_iload dX11_lend_107 rfl ?_
                        refine WP_aload_n dX11_lend_109 rfl ?_
                        refine WP_getr dX11_lend_110 fX11_233 rfl (ly_is hy 0 11 rfl) (rf hr 0 24 6 (by decide)) ?_
                        refine WP_iload dX11_lend_113 rfl ?_
                        refine WQ_bipush (7) (7) dX11_lend_115 rfl rfl (fun v2414 hv2414 => ?_)
                        refine WQ_iremk (7) dX11_lend_117 hv2414 (by decide) (by omega) (fun v2415 hv2415 => ?_)
                        refine WQ_iald dX11_lend_118 (ly_is hy 6 13 rfl) (ly_n hy 6 7 rfl) (by omega) (by omega) (fun q hq => BT_get hI.1.1 6 0 7 (0) (0) (900) (by decide) q (Nat.zero_le _) hq) (fun v2416 av2416 bv2416 ev2416 => ?_)
                        clear ev2416
                        refine WP_callS2 dX11_lend_119 ⟨⟨⟨by decide, by decide⟩, zX11_stampsOf⟩, lX11_380, tX11_stampsOf⟩ (sm_stampsOf hy hr hI i2406 v2416 (by omega) (by omega) (by omega) (by omega)) (Nat.le_of_ble_eq_true rfl) ?_
                        intro r Ia Ja Ra hq
                        obtain ⟨⟨ea, eb, ec⟩, v2417, rfl, av2417, bv2417, cv2417⟩ := hq
                        show WP _ _ _ _ (.int _ :: _) _ _ _ _
                        rw [ea, eb, ec]
                        clear ea eb ec Ia Ja Ra
                        refine WQ_isub dX11_lend_122 (by omega) (by omega) (fun v2418 hv2418 => ?_)
                        refine WP_istore (ls' := [(0, _), (1, _), (2, _), (3, _), (4, _), (5, _), (6, _)]) dX11_lend_123 (by decide) rfl ?_
                        refine WP_iinc (ls' := [(0, _), (1, _), (2, _), (3, _), (4, _), (5, _), (6, _)]) dX11_lend_125 rfl (by decide) rfl ?_
                        have hv2419 : (i2407 + Int32.ofInt (1)).toInt = i2407.toInt + (1) := ia_n rfl (by omega) (by omega)
                        generalize i2407 + Int32.ofInt (1) = v2419 at hv2419 ⊢
                        refine WP_goto 90 dX11_lend_128 rfl ?_
                        exact WP_sub (fc rfl (fc rfl (fc rfl (fc rfl (fc rfl (fc rfl (fc rfl fn))))))) (ihlp90_2407 v2418 v2419 (by omega) (by omega) (by omega) (by omega) (by omega))
                exact WP_sub (fc rfl (fc rfl (fc rfl (fc rfl (fc rfl (fc rfl (fc rfl fn))))))) (lp90_2407 _ i2401 v2405 (by omega) (by omega) (by omega) (by omega) (Nat.lt_succ_self _))
              · refine WP_iload dX11_lend_62 rfl ?_
                refine WQ_if_ne 87 dX11_lend_64 rfl (fun c2419 => ?_) (fun c2419 => ?_)
                · refine WQ_iconst (0) (0) dX11_lend_87 rfl rfl (fun v2421 hv2421 => ?_)
                  refine WP_istore (ls' := [(0, _), (1, _), (2, _), (3, _), (4, _), (5, _), (6, _)]) dX11_lend_88 (by decide) rfl ?_
                  have lp90_2423 : ∀ (mz : Nat) (i2422 : Int32) (i2423 : Int32), 0 ≤ i2422.toInt → i2422.toInt ≤ 999 → 0 ≤ i2423.toInt → i2423.toInt ≤ 364 → (365 - i2423.toInt).toNat < mz → WP g mX11_lend 90 [(0, .ref (ad g 0)), (1, .int c), (2, .int w), (3, .int y), (4, .int wh), (5, .int i2422), (6, .int i2423)] [] I J R (fun r I' J' R' => (I' = I ∧ J' = J ∧ R' = R) ∧ ∃ v : Int32, r = some (.int v)) := by
                    intro mz
                    induction mz with
                    | zero =>
                      intro i2422 i2423 ai2422 bi2422 ai2423 bi2423 hmlp90_2423
                      exact absurd hmlp90_2423 (Nat.not_lt_zero _)
                    | succ mz ihlp90_2423 =>
                      intro i2422 i2423 ai2422 bi2422 ai2423 bi2423 hmlp90_2423
                      refine WP_iload dX11_lend_90 rfl ?_
                      refine WQ_bipush (7) (7) dX11_lend_92 rfl rfl (fun v2425 hv2425 => ?_)
                      refine WP_iload_n dX11_lend_94 rfl ?_
                      refine WQ_imulK (7) dX11_lend_95 hv2425 (by omega) (by omega) (fun v2426 hv2426 => ?_)
                      refine WQ_icmp_ge 131 dX11_lend_96 rfl (fun c2426 => ?_) (fun c2426 => ?_)
                      · refine WP_iload dX11_lend_131 rfl ?_
                        exact WP_iret dX11_lend_133 rfl ⟨⟨rfl, rfl, rfl⟩, _, rfl⟩
                      · refine WP_iload dX11_lend_99 rfl ?_
                        refine WQ_iconst (1) (1) dX11_lend_101 rfl rfl (fun v2428 hv2428 => ?_)
                        refine WQ_icmp_ne 131 dX11_lend_102 rfl (fun c2428 => False.elim (by omega)) (fun c2428 => ?_)
                        refine WP_iload dX11_lend_105 rfl ?_
                        refine WP_iload dX11_lend_107 rfl ?_
                        refine WP_aload_n dX11_lend_109 rfl ?_
                        refine WP_getr dX11_lend_110 fX11_233 rfl (ly_is hy 0 11 rfl) (rf hr 0 24 6 (by decide)) ?_
                        refine WP_iload dX11_lend_113 rfl ?_
                        refine WQ_bipush (7) (7) dX11_lend_115 rfl rfl (fun v2430 hv2430 => ?_)
                        refine WQ_iremk (7) dX11_lend_117 hv2430 (by decide) (by omega) (fun v2431 hv2431 => ?_)
                        refine WQ_iald dX11_lend_118 (ly_is hy 6 13 rfl) (ly_n hy 6 7 rfl) (by omega) (by omega) (fun q hq => BT_get hI.1.1 6 0 7 (0) (0) (900) (by decide) q (Nat.zero_le _) hq) (fun v2432 av2432 bv2432 ev2432 => ?_)
                        clear ev2432
                        refine WP_callS2 dX11_lend_119 ⟨⟨⟨by decide, by decide⟩, zX11_stampsOf⟩, lX11_380, tX11_stampsOf⟩ (sm_stampsOf hy hr hI i2422 v2432 (by omega) (by omega) (by omega) (by omega)) (Nat.le_of_ble_eq_true rfl) ?_
                        intro r Ia Ja Ra hq
                        obtain ⟨⟨ea, eb, ec⟩, v2433, rfl, av2433, bv2433, cv2433⟩ := hq
                        show WP _ _ _ _ (.int _ :: _) _ _ _ _
                        rw [ea, eb, ec]
                        clear ea eb ec Ia Ja Ra
                        refine WQ_isub dX11_lend_122 (by omega) (by omega) (fun v2434 hv2434 => ?_)
                        refine WP_istore (ls' := [(0, _), (1, _), (2, _), (3, _), (4, _), (5, _), (6, _)]) dX11_lend_123 (by decide) rfl ?_
                        refine WP_iinc (ls' := [(0, _), (1, _), (2, _), (3, _), (4, _), (5, _), (6, _)]) dX11_lend_125 rfl (by decide) rfl ?_
                        have hv2435 : (i2423 + Int32.ofInt (1)).toInt = i2423.toInt + (1) := ia_n rfl (by omega) (by omega)
                        generalize i2423 + Int32.ofInt (1) = v2435 at hv2435 ⊢
                        refine WP_goto 90 dX11_lend_128 rfl ?_
                        exact WP_sub (fc rfl (fc rfl (fc rfl (fc rfl (fc rfl (fc rfl (fc rfl fn))))))) (ihlp90_2423 v2434 v2435 (by omega) (by omega) (by omega) (by omega) (by omega))
                  exact WP_sub (fc rfl (fc rfl (fc rfl (fc rfl (fc rfl (fc rfl (fc rfl fn))))))) (lp90_2423 _ i2401 v2421 (by omega) (by omega) (by omega) (by omega) (Nat.lt_succ_self _))
                · refine WP_iload dX11_lend_67 rfl ?_
                  refine WQ_sipush (1000) (1000) dX11_lend_69 rfl rfl (fun v2436 hv2436 => ?_)
                  refine WP_iload_n dX11_lend_72 rfl ?_
                  refine WQ_isub dX11_lend_73 (by omega) (by omega) (fun v2437 hv2437 => ?_)
                  refine WQ_imulb (999) (1000) dX11_lend_74 ⟨by omega, by omega⟩ ⟨by omega, by omega⟩ (by decide) (fun v2438 pv2438 av2438 bv2438 cv2438 => ?_)
                  refine WQ_sipush (1000) (1000) dX11_lend_75 rfl rfl (fun v2439 hv2439 => ?_)
                  refine WQ_idivk (1000) dX11_lend_78 hv2439 (by decide) (by omega) (fun v2440 hv2440 => ?_)
                  refine WP_istore (ls' := [(0, _), (1, _), (2, _), (3, _), (4, _), (5, _), (6, _)]) dX11_lend_79 (by decide) rfl ?_
                  refine WP_iinc (ls' := [(0, _), (1, _), (2, _), (3, _), (4, _), (5, _), (6, _)]) dX11_lend_81 rfl (by decide) rfl ?_
                  have hv2441 : (i2402 + Int32.ofInt (1)).toInt = i2402.toInt + (1) := ia_n rfl (by omega) (by omega)
                  generalize i2402 + Int32.ofInt (1) = v2441 at hv2441 ⊢
                  refine WP_goto 56 dX11_lend_84 rfl ?_
                  exact WP_sub (fc rfl (fc rfl (fc rfl (fc rfl (fc rfl (fc rfl (fc rfl fn))))))) (ihlp56_2402 v2440 v2441 (by omega) (by omega) (by omega) (by omega) (by omega))
          exact WP_sub (fc rfl (fc rfl (fc rfl (fc rfl (fc rfl (fc rfl (fc rfl fn))))))) (lp56_2402 _ c v2400 (by omega) (by omega) (by omega) (by omega) (Nat.lt_succ_self _))
        · refine WQ_bipush (-2) (-2) dX11_lend_47 rfl rfl (fun v2442 hv2442 => ?_)
          exact WP_iret dX11_lend_49 rfl ⟨⟨rfl, rfl, rfl⟩, _, rfl⟩
set_option maxHeartbeats 4000000 in
set_option maxRecDepth 100000 in
theorem sm_early {g : GG} {n : Int} {L : Int32} (hy : Ly g)  {I : pI} {J : pJ} {R : pR} (hr : Rf g R) (hI : MP g n L I) (c : Int32) (dd : Int32) (da : Int32)  : SP g mX11_early [.ref (ad g 0), .int c, .int dd, .int da] I J R (fun r I' J' R' => (I' = I ∧ J' = J ∧ R' = R) ∧ ∃ v : Int32, r = some (.int v)) := by
  refine SP_of ⟨by decide, rfl⟩ (Nat.le_of_ble_eq_true rfl) ?_
  have e2443 : I (ad g 0) 1 = L := hI.1.2
  have b2444 := BT_get hI.1.1 0 1 2 (0) (0) (900) (by decide) 1 (by decide) (by decide)
  rw [e2443] at b2444
  refine WP_iload_n dX11_early_0 rfl ?_
  refine WQ_i2l dX11_early_1 (fun l2445 hl2445 => ?_)
  refine WP_lconst (0) dX11_early_2 rfl ?_
  obtain ⟨l2446, hl2446, el2446⟩ : ∃ v : Int64, v.toInt = 0 ∧ (0 : Int64) = v := ⟨_, rfl, rfl⟩
  rw [el2446]; clear el2446
  refine WP_ldc2 (999) dX11_early_3 klX11_523 ?_
  obtain ⟨l2447, hl2447, el2447⟩ : ∃ v : Int64, v.toInt = (999) ∧ ((999) : Int64) = v := ⟨_, rfl, rfl⟩
  rw [el2447]; clear el2447
  refine WP_callS3 dX11_early_6 ⟨⟨⟨by decide, by decide⟩, zX11_in⟩, lX11_52, tX11_in⟩ (sm_in hy hr hI l2445 l2446 l2447 ) (Nat.le_of_ble_eq_true rfl) ?_
  intro r Ia Ja Ra hq
  obtain ⟨⟨ea, eb, ec⟩, v2448, rfl, av2448, bv2448, cv2448⟩ := hq
  show WP _ _ _ _ (.int _ :: _) _ _ _ _
  rw [ea, eb, ec]
  clear ea eb ec Ia Ja Ra
  refine WQ_if_eq 31 dX11_early_9 rfl (fun c2448 => ?_) (fun c2448 => ?_)
  · refine WQ_bipush (-2) (-2) dX11_early_31 rfl rfl (fun v2450 hv2450 => ?_)
    exact WP_iret dX11_early_33 rfl ⟨⟨rfl, rfl, rfl⟩, _, rfl⟩
  · refine WP_iload_n dX11_early_12 rfl ?_
    refine WQ_i2l dX11_early_13 (fun l2451 hl2451 => ?_)
    refine WP_lconst (0) dX11_early_14 rfl ?_
    obtain ⟨l2452, hl2452, el2452⟩ : ∃ v : Int64, v.toInt = 0 ∧ (0 : Int64) = v := ⟨_, rfl, rfl⟩
    rw [el2452]; clear el2452
    refine WP_ldc2 (60) dX11_early_15 klX11_361 ?_
    obtain ⟨l2453, hl2453, el2453⟩ : ∃ v : Int64, v.toInt = (60) ∧ ((60) : Int64) = v := ⟨_, rfl, rfl⟩
    rw [el2453]; clear el2453
    refine WP_callS3 dX11_early_18 ⟨⟨⟨by decide, by decide⟩, zX11_in⟩, lX11_52, tX11_in⟩ (sm_in hy hr hI l2451 l2452 l2453 ) (Nat.le_of_ble_eq_true rfl) ?_
    intro r Ia Ja Ra hq
    obtain ⟨⟨ea, eb, ec⟩, v2454, rfl, av2454, bv2454, cv2454⟩ := hq
    show WP _ _ _ _ (.int _ :: _) _ _ _ _
    rw [ea, eb, ec]
    clear ea eb ec Ia Ja Ra
    refine WQ_if_eq 31 dX11_early_21 rfl (fun c2454 => ?_) (fun c2454 => ?_)
    · refine WQ_bipush (-2) (-2) dX11_early_31 rfl rfl (fun v2456 hv2456 => ?_)
      exact WP_iret dX11_early_33 rfl ⟨⟨rfl, rfl, rfl⟩, _, rfl⟩
    · refine WP_iload_n dX11_early_24 rfl ?_
      refine WP_callS1 dX11_early_25 ⟨⟨⟨by decide, by decide⟩, zX11_isDay⟩, lX11_370, tX11_isDay⟩ (sm_isDay hy hr hI da ) (Nat.le_of_ble_eq_true rfl) ?_
      intro r Ia Ja Ra hq
      obtain ⟨⟨ea, eb, ec⟩, v2457, rfl, av2457, bv2457, cv2457⟩ := hq
      show WP _ _ _ _ (.int _ :: _) _ _ _ _
      rw [ea, eb, ec]
      clear ea eb ec Ia Ja Ra
      refine WQ_if_ne 34 dX11_early_28 rfl (fun c2457 => ?_) (fun c2457 => ?_)
      · refine WQ_iconst (0) (0) dX11_early_34 rfl rfl (fun v2459 hv2459 => ?_)
        refine WP_istore (ls' := [(0, _), (1, _), (2, _), (3, _), (4, _)]) dX11_early_35 (by decide) rfl ?_
        have lp37_2460 : ∀ (mz : Nat) (i2460 : Int32), 0 ≤ i2460.toInt → i2460.toInt ≤ 1000 → (1001 - i2460.toInt).toNat < mz → WP g mX11_early 37 [(0, .ref (ad g 0)), (1, .int c), (2, .int dd), (3, .int da), (4, .int i2460)] [] I J R (fun r I' J' R' => (I' = I ∧ J' = J ∧ R' = R) ∧ ∃ v : Int32, r = some (.int v)) := by
          intro mz
          induction mz with
          | zero =>
            intro i2460 ai2460 bi2460 hmlp37_2460
            exact absurd hmlp37_2460 (Nat.not_lt_zero _)
          | succ mz ihlp37_2460 =>
            intro i2460 ai2460 bi2460 hmlp37_2460
            refine WP_iload dX11_early_37 rfl ?_
            refine WQ_sipush (999) (999) dX11_early_39 rfl rfl (fun v2462 hv2462 => ?_)
            refine WQ_icmp_gt 101 dX11_early_42 rfl (fun c2462 => ?_) (fun c2462 => ?_)
            · refine WQ_iconst (-1) (-1) dX11_early_101 rfl rfl (fun v2464 hv2464 => ?_)
              exact WP_iret dX11_early_102 rfl ⟨⟨rfl, rfl, rfl⟩, _, rfl⟩
            · refine WP_iload dX11_early_45 rfl ?_
              refine WP_istore (ls' := [(0, _), (1, _), (2, _), (3, _), (4, _), (5, _)]) dX11_early_47 (by decide) rfl ?_
              refine WQ_iconst (0) (0) dX11_early_49 rfl rfl (fun v2465 hv2465 => ?_)
              refine WP_istore (ls' := [(0, _), (1, _), (2, _), (3, _), (4, _), (5, _), (6, _)]) dX11_early_50 (by decide) rfl ?_
              have lp52_2467 : ∀ (mz : Nat) (i2466 : Int32) (i2467 : Int32), 0 ≤ i2466.toInt → i2466.toInt ≤ 999 → 0 ≤ i2467.toInt → i2467.toInt ≤ 60 → (61 - i2467.toInt).toNat < mz → WP g mX11_early 52 [(0, .ref (ad g 0)), (1, .int c), (2, .int dd), (3, .int da), (4, .int i2460), (5, .int i2466), (6, .int i2467)] [] I J R (fun r I' J' R' => (I' = I ∧ J' = J ∧ R' = R) ∧ ∃ v : Int32, r = some (.int v)) := by
                intro mz
                induction mz with
                | zero =>
                  intro i2466 i2467 ai2466 bi2466 ai2467 bi2467 hmlp52_2467
                  exact absurd hmlp52_2467 (Nat.not_lt_zero _)
                | succ mz ihlp52_2467 =>
                  intro i2466 i2467 ai2466 bi2466 ai2467 bi2467 hmlp52_2467
                  refine WP_iload dX11_early_52 rfl ?_
                  refine WP_iload_n dX11_early_54 rfl ?_
                  refine WQ_icmp_ge 86 dX11_early_55 rfl (fun c2468 => ?_) (fun c2468 => ?_)
                  · refine WP_iload dX11_early_86 rfl ?_
                    refine WP_iload_n dX11_early_88 rfl ?_
                    refine WQ_icmp_lt 95 dX11_early_89 rfl (fun c2469 => ?_) (fun c2469 => ?_)
                    · refine WP_iinc (ls' := [(0, _), (1, _), (2, _), (3, _), (4, _), (5, _), (6, _)]) dX11_early_95 rfl (by decide) rfl ?_
                      have hv2471 : (i2460 + Int32.ofInt (1)).toInt = i2460.toInt + (1) := ia_n rfl (by omega) (by omega)
                      generalize i2460 + Int32.ofInt (1) = v2471 at hv2471 ⊢
                      refine WP_goto 37 dX11_early_98 rfl ?_
                      exact WP_sub (fc rfl (fc rfl (fc rfl (fc rfl (fc rfl fn))))) (ihlp37_2460 v2471 (by omega) (by omega) (by omega))
                    · refine WP_iload dX11_early_92 rfl ?_
                      exact WP_iret dX11_early_94 rfl ⟨⟨rfl, rfl, rfl⟩, _, rfl⟩
                  · refine WP_iload dX11_early_58 rfl ?_
                    refine WP_iload dX11_early_60 rfl ?_
                    refine WP_aload_n dX11_early_62 rfl ?_
                    refine WP_getr dX11_early_63 fX11_233 rfl (ly_is hy 0 11 rfl) (rf hr 0 24 6 (by decide)) ?_
                    refine WP_iload_n dX11_early_66 rfl ?_
                    refine WP_iload dX11_early_67 rfl ?_
                    refine WQ_iadd dX11_early_69 (by omega) (by omega) (fun v2472 hv2472 => ?_)
                    refine WQ_bipush (7) (7) dX11_early_70 rfl rfl (fun v2473 hv2473 => ?_)
                    refine WQ_iremk (7) dX11_early_72 hv2473 (by decide) (by omega) (fun v2474 hv2474 => ?_)
                    refine WQ_iald dX11_early_73 (ly_is hy 6 13 rfl) (ly_n hy 6 7 rfl) (by omega) (by omega) (fun q hq => BT_get hI.1.1 6 0 7 (0) (0) (900) (by decide) q (Nat.zero_le _) hq) (fun v2475 av2475 bv2475 ev2475 => ?_)
                    clear ev2475
                    refine WP_callS2 dX11_early_74 ⟨⟨⟨by decide, by decide⟩, zX11_stampsOf⟩, lX11_380, tX11_stampsOf⟩ (sm_stampsOf hy hr hI i2466 v2475 (by omega) (by omega) (by omega) (by omega)) (Nat.le_of_ble_eq_true rfl) ?_
                    intro r Ia Ja Ra hq
                    obtain ⟨⟨ea, eb, ec⟩, v2476, rfl, av2476, bv2476, cv2476⟩ := hq
                    show WP _ _ _ _ (.int _ :: _) _ _ _ _
                    rw [ea, eb, ec]
                    clear ea eb ec Ia Ja Ra
                    refine WQ_isub dX11_early_77 (by omega) (by omega) (fun v2477 hv2477 => ?_)
                    refine WP_istore (ls' := [(0, _), (1, _), (2, _), (3, _), (4, _), (5, _), (6, _)]) dX11_early_78 (by decide) rfl ?_
                    refine WP_iinc (ls' := [(0, _), (1, _), (2, _), (3, _), (4, _), (5, _), (6, _)]) dX11_early_80 rfl (by decide) rfl ?_
                    have hv2478 : (i2467 + Int32.ofInt (1)).toInt = i2467.toInt + (1) := ia_n rfl (by omega) (by omega)
                    generalize i2467 + Int32.ofInt (1) = v2478 at hv2478 ⊢
                    refine WP_goto 52 dX11_early_83 rfl ?_
                    exact WP_sub (fc rfl (fc rfl (fc rfl (fc rfl (fc rfl (fc rfl (fc rfl fn))))))) (ihlp52_2467 v2477 v2478 (by omega) (by omega) (by omega) (by omega) (by omega))
              exact WP_sub (fc rfl (fc rfl (fc rfl (fc rfl (fc rfl (fc rfl (fc rfl fn))))))) (lp52_2467 _ i2460 v2465 (by omega) (by omega) (by omega) (by omega) (Nat.lt_succ_self _))
        exact WP_sub (fc rfl (fc rfl (fc rfl (fc rfl (fc rfl fn))))) (lp37_2460 _ v2459 (by omega) (by omega) (Nat.lt_succ_self _))
      · refine WQ_bipush (-2) (-2) dX11_early_31 rfl rfl (fun v2479 hv2479 => ?_)
        exact WP_iret dX11_early_33 rfl ⟨⟨rfl, rfl, rfl⟩, _, rfl⟩
set_option maxHeartbeats 4000000 in
set_option maxRecDepth 100000 in
theorem sm_isLost {g : GG} {n : Int} {L : Int32} (hy : Ly g)  {I : pI} {J : pJ} {R : pR} (hr : Rf g R) (hI : MP g n L I) (so : Int32) (th : Int32) (da : Int32) (un : Int32) (co : Int32) (so_lo : 0 ≤ so.toInt) (so_hi : so.toInt ≤ 3) (th_lo : -1 ≤ th.toInt) (th_hi : th.toInt ≤ 3) (da_lo : 0 ≤ da.toInt) (da_hi : da.toInt ≤ 6) (un_lo : 0 ≤ un.toInt) (un_hi : un.toInt ≤ 1000) (co_lo : 0 ≤ co.toInt) (co_hi : co.toInt ≤ 1000) : SP g mX11_isLost [.ref (ad g 0), .int so, .int th, .int da, .int un, .int co] I J R (fun r I' J' R' => (I' = I ∧ J' = J ∧ R' = R) ∧ ∃ v : Int32, r = some (.int v) ∧ 0 ≤ v.toInt ∧ v.toInt ≤ 1) := by
  refine SP_of ⟨by decide, rfl⟩ (Nat.le_of_ble_eq_true rfl) ?_
  have e2480 : I (ad g 0) 1 = L := hI.1.2
  have b2481 := BT_get hI.1.1 0 1 2 (0) (0) (900) (by decide) 1 (by decide) (by decide)
  rw [e2480] at b2481
  refine WQ_bipush (7) (7) dX11_isLost_0 rfl rfl (fun v2482 hv2482 => ?_)
  refine WP_iload_n dX11_isLost_2 rfl ?_
  refine WQ_imulK (7) dX11_isLost_3 hv2482 (by omega) (by omega) (fun v2483 hv2483 => ?_)
  refine WP_iload_n dX11_isLost_4 rfl ?_
  refine WQ_iadd dX11_isLost_5 (by omega) (by omega) (fun v2484 hv2484 => ?_)
  refine WP_istore (ls' := [(0, _), (1, _), (2, _), (3, _), (4, _), (5, _), (6, _)]) dX11_isLost_6 (by decide) rfl ?_
  refine WP_aload_n dX11_isLost_8 rfl ?_
  refine WP_getr dX11_isLost_9 fX11_261 rfl (ly_is hy 0 11 rfl) (rf hr 0 42 24 (by decide)) ?_
  refine WP_iload dX11_isLost_12 rfl ?_
  refine WQ_iald dX11_isLost_14 (ly_is hy 24 13 rfl) (ly_n hy 24 28 rfl) (by omega) (by omega) (fun q hq => BT_get hI.1.1 24 0 28 (-1) (0) (2) (by decide) q (Nat.zero_le _) hq) (fun v2485 av2485 bv2485 ev2485 => ?_)
  clear ev2485
  refine WP_iload_n dX11_isLost_15 rfl ?_
  refine WQ_icmp_ne 31 dX11_isLost_16 rfl (fun c2485 => ?_) (fun c2485 => ?_)
  · refine WQ_iconst (1) (1) dX11_isLost_31 rfl rfl (fun v2487 hv2487 => ?_)
    exact WP_zret dX11_isLost_32 rfl (nar_z (by omega)) ⟨⟨rfl, rfl, rfl⟩, _, rfl, by omega, by omega⟩
  · refine WP_aload_n dX11_isLost_19 rfl ?_
    refine WP_getr dX11_isLost_20 fX11_264 rfl (ly_is hy 0 11 rfl) (rf hr 0 43 25 (by decide)) ?_
    refine WP_iload dX11_isLost_23 rfl ?_
    refine WQ_iald dX11_isLost_25 (ly_is hy 25 13 rfl) (ly_n hy 25 28 rfl) (by omega) (by omega) (fun q hq => BT_get hI.1.1 25 0 28 (0) (0) (3) (by decide) q (Nat.zero_le _) hq) (fun v2488 av2488 bv2488 ev2488 => ?_)
    clear ev2488
    refine WP_iload dX11_isLost_26 rfl ?_
    refine WQ_icmp_ge 33 dX11_isLost_28 rfl (fun c2488 => ?_) (fun c2488 => ?_)
    · refine WP_aload_n dX11_isLost_33 rfl ?_
      refine WP_getr dX11_isLost_34 fX11_267 rfl (ly_is hy 0 11 rfl) (rf hr 0 44 26 (by decide)) ?_
      refine WP_iload dX11_isLost_37 rfl ?_
      refine WQ_iald dX11_isLost_39 (ly_is hy 26 13 rfl) (ly_n hy 26 28 rfl) (by omega) (by omega) (fun q hq => BT_get hI.1.1 26 0 28 (0) (0) (99) (by decide) q (Nat.zero_le _) hq) (fun v2490 av2490 bv2490 ev2490 => ?_)
      clear ev2490
      refine WP_iload dX11_isLost_40 rfl ?_
      have jn86_2505 : ∀ (v2505 : Int32), 0 ≤ v2505.toInt → v2505.toInt ≤ 1 → WP g mX11_isLost 86 [(0, .ref (ad g 0)), (1, .int so), (2, .int th), (3, .int da), (4, .int un), (5, .int co), (6, .int v2484)] [.int v2505] I J R (fun r I' J' R' => (I' = I ∧ J' = J ∧ R' = R) ∧ ∃ v : Int32, r = some (.int v) ∧ 0 ≤ v.toInt ∧ v.toInt ≤ 1) := by
        intro v2505 av2505 bv2505
        exact WP_zret dX11_isLost_86 rfl (nar_z (by omega)) ⟨⟨rfl, rfl, rfl⟩, _, rfl, by omega, by omega⟩
      refine WQ_icmp_ge 85 dX11_isLost_42 rfl (fun c2506 => ?_) (fun c2506 => ?_)
      · refine WQ_iconst (0) (0) dX11_isLost_85 rfl rfl (fun v2508 hv2508 => ?_)
        exact WP_sub (fc rfl (fc rfl (fc rfl (fc rfl (fc rfl (fc rfl (fc rfl fn))))))) (jn86_2505 v2508 (by omega) (by omega))
      · refine WP_aload_n dX11_isLost_45 rfl ?_
        refine WP_getr dX11_isLost_46 fX11_233 rfl (ly_is hy 0 11 rfl) (rf hr 0 24 6 (by decide)) ?_
        refine WP_iload_n dX11_isLost_49 rfl ?_
        refine WQ_iald dX11_isLost_50 (ly_is hy 6 13 rfl) (ly_n hy 6 7 rfl) (by omega) (by omega) (fun q hq => BT_get hI.1.1 6 0 7 (0) (0) (900) (by decide) q (Nat.zero_le _) hq) (fun v2509 av2509 bv2509 ev2509 => ?_)
        clear ev2509
        refine WQ_if_le 81 dX11_isLost_51 rfl (fun c2509 => ?_) (fun c2509 => ?_)
        · refine WQ_iconst (1) (1) dX11_isLost_81 rfl rfl (fun v2511 hv2511 => ?_)
          refine WP_goto 86 dX11_isLost_82 rfl ?_
          exact WP_sub (fc rfl (fc rfl (fc rfl (fc rfl (fc rfl (fc rfl (fc rfl fn))))))) (jn86_2505 v2511 (by omega) (by omega))
        · refine WP_aload_n dX11_isLost_54 rfl ?_
          refine WP_getr dX11_isLost_55 fX11_267 rfl (ly_is hy 0 11 rfl) (rf hr 0 44 26 (by decide)) ?_
          refine WP_iload dX11_isLost_58 rfl ?_
          refine WQ_iald dX11_isLost_60 (ly_is hy 26 13 rfl) (ly_n hy 26 28 rfl) (by omega) (by omega) (fun q hq => BT_get hI.1.1 26 0 28 (0) (0) (99) (by decide) q (Nat.zero_le _) hq) (fun v2512 av2512 bv2512 ev2512 => ?_)
          clear ev2512
          refine WQ_sipush (1000) (1000) dX11_isLost_61 rfl rfl (fun v2513 hv2513 => ?_)
          refine WQ_imulk (1000) dX11_isLost_64 hv2513 (by omega) (by omega) (fun v2514 hv2514 => ?_)
          refine WP_iload dX11_isLost_65 rfl ?_
          refine WQ_sipush (1000) (1000) dX11_isLost_67 rfl rfl (fun v2515 hv2515 => ?_)
          refine WP_aload_n dX11_isLost_70 rfl ?_
          refine WP_getr dX11_isLost_71 fX11_233 rfl (ly_is hy 0 11 rfl) (rf hr 0 24 6 (by decide)) ?_
          refine WP_iload_n dX11_isLost_74 rfl ?_
          refine WQ_iald dX11_isLost_75 (ly_is hy 6 13 rfl) (ly_n hy 6 7 rfl) (by omega) (by omega) (fun q hq => BT_get hI.1.1 6 0 7 (0) (0) (900) (by decide) q (Nat.zero_le _) hq) (fun v2516 av2516 bv2516 ev2516 => ?_)
          clear ev2516
          refine WQ_isub dX11_isLost_76 (by omega) (by omega) (fun v2517 hv2517 => ?_)
          refine WQ_imulb (1000) (1000) dX11_isLost_77 ⟨by omega, by omega⟩ ⟨by omega, by omega⟩ (by decide) (fun v2518 pv2518 av2518 bv2518 cv2518 => ?_)
          refine WQ_icmp_ge 85 dX11_isLost_78 rfl (fun c2518 => ?_) (fun c2518 => ?_)
          · refine WQ_iconst (0) (0) dX11_isLost_85 rfl rfl (fun v2520 hv2520 => ?_)
            exact WP_sub (fc rfl (fc rfl (fc rfl (fc rfl (fc rfl (fc rfl (fc rfl fn))))))) (jn86_2505 v2520 (by omega) (by omega))
          · refine WQ_iconst (1) (1) dX11_isLost_81 rfl rfl (fun v2521 hv2521 => ?_)
            refine WP_goto 86 dX11_isLost_82 rfl ?_
            exact WP_sub (fc rfl (fc rfl (fc rfl (fc rfl (fc rfl (fc rfl (fc rfl fn))))))) (jn86_2505 v2521 (by omega) (by omega))
    · refine WQ_iconst (1) (1) dX11_isLost_31 rfl rfl (fun v2522 hv2522 => ?_)
      exact WP_zret dX11_isLost_32 rfl (nar_z (by omega)) ⟨⟨rfl, rfl, rfl⟩, _, rfl, by omega, by omega⟩
