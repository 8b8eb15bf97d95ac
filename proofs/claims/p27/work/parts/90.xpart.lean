set_option maxHeartbeats 4000000 in
set_option maxRecDepth 100000 in
theorem sx_name_6_1 {g : GG} {n : Int} {L : Int32} (hy : LyX g)  {I : pI} {J : pJ} {R : pR} (hr : RfX g R) (hI : XI g n L I) (os : Int32) (wd : Int64) (os_lo : 1 ≤ os.toInt) (os_hi : os.toInt ≤ 1) (hb : (I (ad g 6) 1).toInt ≤ 3) : SP g mX7_name [.ref (ad g 6), .int os, .long wd] I J R (fun r I' J' R' => (I' = I ∧ R' = R) ∧ r = none) := by
  refine SP_of ⟨by decide, rfl⟩ (Nat.le_of_ble_eq_true rfl) ?_
  have e5184 : I (ad g 1) 1 = L := hI.2
  have b5185 := BT_get hI.1 1 1 2 (0) (0) (900) (by decide) 1 (by decide) (by decide)
  rw [e5184] at b5185
  obtain ⟨w5186, ew5186⟩ : ∃ w : Int32, I (ad g 6) 1 = w := ⟨_, rfl⟩
  have bw5186 := BT_get hI.1 6 1 2 (0) (0) (4) (by decide) 1 (by decide) (by decide)
  rw [ew5186] at bw5186
  rw [ew5186] at hb
  refine WP_aload_n dX7_name_0 rfl ?_
  refine WP_getr dX7_name_1 fX7_51 rfl (lyx_is hy 6 7 rfl) (rfx hr 6 18 20 (by decide)) ?_
  refine WP_iload_n dX7_name_4 rfl ?_
  have jn21_5187 : ∀ (v5187 : Int32), 0 ≤ v5187.toInt → v5187.toInt ≤ 3 → WP g mX7_name 21 [(0, .ref (ad g 6)), (1, .int os), (2, .long wd)] [.int v5187, .ref (ad g 20)] I J R (fun r I' J' R' => (I' = I ∧ R' = R) ∧ r = none) := by
    intro v5187 av5187 bv5187
    refine WP_lload_n dX7_name_21 rfl ?_
    refine WQ_last dX7_name_22 (lyx_is hy 20 14 rfl) (lyx_n hy 20 7 rfl) (by omega) (by omega) (fun J5189 eJ5189 => ?_)
    clear eJ5189
    exact WP_vret dX7_name_23 rfl ⟨⟨rfl, rfl⟩, rfl⟩
  refine WQ_if_eq 15 dX7_name_5 rfl (fun c5189 => False.elim (by omega)) (fun c5189 => ?_)
  refine WP_aload_n dX7_name_8 rfl ?_
  refine WQ_getim dX7_name_9 fX7_65 rfl (lyx_is hy 6 7 rfl) ew5186 ?_
  refine WP_goto 21 dX7_name_12 rfl ?_
  exact WP_sub (fc rfl (fc rfl (fc rfl fn))) (jn21_5187 w5186 (by omega) (by omega))
set_option maxHeartbeats 4000000 in
set_option maxRecDepth 100000 in
theorem sx_name_6_0 {g : GG} {n : Int} {L : Int32} (hy : LyX g)  {I : pI} {J : pJ} {R : pR} (hr : RfX g R) (hI : XI g n L I) (os : Int32) (wd : Int64) (os_lo : 0 ≤ os.toInt) (os_hi : os.toInt ≤ 0) (hb : (I (ad g 6) 2).toInt ≤ 2) : SP g mX7_name [.ref (ad g 6), .int os, .long wd] I J R (fun r I' J' R' => (I' = I ∧ R' = R) ∧ r = none) := by
  refine SP_of ⟨by decide, rfl⟩ (Nat.le_of_ble_eq_true rfl) ?_
  have e5191 : I (ad g 1) 1 = L := hI.2
  have b5192 := BT_get hI.1 1 1 2 (0) (0) (900) (by decide) 1 (by decide) (by decide)
  rw [e5191] at b5192
  obtain ⟨w5193, ew5193⟩ : ∃ w : Int32, I (ad g 6) 2 = w := ⟨_, rfl⟩
  have bw5193 := BT_get hI.1 6 2 3 (0) (0) (3) (by decide) 2 (by decide) (by decide)
  rw [ew5193] at bw5193
  rw [ew5193] at hb
  refine WP_aload_n dX7_name_0 rfl ?_
  refine WP_getr dX7_name_1 fX7_51 rfl (lyx_is hy 6 7 rfl) (rfx hr 6 18 20 (by decide)) ?_
  refine WP_iload_n dX7_name_4 rfl ?_
  have jn21_5196 : ∀ (v5196 : Int32), 4 ≤ v5196.toInt → v5196.toInt ≤ 6 → WP g mX7_name 21 [(0, .ref (ad g 6)), (1, .int os), (2, .long wd)] [.int v5196, .ref (ad g 20)] I J R (fun r I' J' R' => (I' = I ∧ R' = R) ∧ r = none) := by
    intro v5196 av5196 bv5196
    refine WP_lload_n dX7_name_21 rfl ?_
    refine WQ_last dX7_name_22 (lyx_is hy 20 14 rfl) (lyx_n hy 20 7 rfl) (by omega) (by omega) (fun J5198 eJ5198 => ?_)
    clear eJ5198
    exact WP_vret dX7_name_23 rfl ⟨⟨rfl, rfl⟩, rfl⟩
  refine WQ_if_eq 15 dX7_name_5 rfl (fun c5198 => ?_) (fun c5198 => False.elim (by omega))
  refine WQ_iconst (4) (4) dX7_name_15 rfl rfl (fun v5200 hv5200 => ?_)
  refine WP_aload_n dX7_name_16 rfl ?_
  refine WQ_getim dX7_name_17 fX7_68 rfl (lyx_is hy 6 7 rfl) ew5193 ?_
  refine WQ_iadd dX7_name_20 (by omega) (by omega) (fun v5201 hv5201 => ?_)
  exact WP_sub (fc rfl (fc rfl (fc rfl fn))) (jn21_5196 v5201 (by omega) (by omega))
set_option maxHeartbeats 4000000 in
set_option maxRecDepth 100000 in
theorem sx_part_6_0_0 {g : GG} {n : Int} {L : Int32} (hy : LyX g)  {I : pI} {J : pJ} {R : pR} (hr : RfX g R) (hI : XI g n L I) (pa : Int32) (cz : Int32) (ix : Int32) (pa_lo : 68 ≤ pa.toInt) (pa_hi : pa.toInt ≤ 68) (cz_lo : 0 ≤ cz.toInt) (cz_hi : cz.toInt ≤ 0) (ix_lo : 0 ≤ ix.toInt) (ix_hi : ix.toInt ≤ 0) : SP g mX3_faultOfNumber [.ref (ad g 3), .int pa, .int cz, .int ix, .ref (ad g 6)] I J R (fun r I' J' R' => (XI g n L I' ∧ R' = R ∧ True ∧ I' (ad g 6) 1 = I (ad g 6) 1 ∧ I' (ad g 6) 2 = I (ad g 6) 2) ∧ ∃ v : Int32, r = some (.int v) ∧ 0 ≤ v.toInt ∧ v.toInt ≤ 5 ∧ (v.toInt = 0 → (I' (ad g 4) 0).toInt ≤ 6)) := by
  refine SP_of ⟨by decide, rfl⟩ (Nat.le_of_ble_eq_true rfl) ?_
  have e5202 : I (ad g 1) 1 = L := hI.2
  have b5203 := BT_get hI.1 1 1 2 (0) (0) (900) (by decide) 1 (by decide) (by decide)
  rw [e5202] at b5203
  obtain ⟨w5204, ew5204⟩ : ∃ w : Int32, I (ad g 6) 1 = w := ⟨_, rfl⟩
  have bw5204 := BT_get hI.1 6 1 2 (0) (0) (4) (by decide) 1 (by decide) (by decide)
  rw [ew5204] at bw5204
  obtain ⟨w5205, ew5205⟩ : ∃ w : Int32, I (ad g 6) 2 = w := ⟨_, rfl⟩
  have bw5205 := BT_get hI.1 6 2 3 (0) (0) (3) (by decide) 2 (by decide) (by decide)
  rw [ew5205] at bw5205
  refine WP_aload_n dX3_faultOfNumber_0 rfl ?_
  refine WP_getr dX3_faultOfNumber_1 fX3_15 rfl (lyx_is hy 3 3 rfl) (rfx hr 3 2 1 (by decide)) ?_
  refine WQ_getiu dX3_faultOfNumber_4 fX3_118 rfl (lyx_is hy 1 5 rfl) (fun v5206 ev5206 => ?_)
  refine WP_istore (ls' := [(0, _), (1, _), (2, _), (3, _), (4, _), (5, _)]) dX3_faultOfNumber_7 (by decide) rfl ?_
  refine WP_iload dX3_faultOfNumber_9 rfl ?_
  refine WP_iload_n dX3_faultOfNumber_11 rfl ?_
  refine WP_callS1 dX3_faultOfNumber_12 ⟨⟨⟨by decide, by decide⟩, zX3_leastOf⟩, lX3_121, tX3_leastOf⟩ (sx_leastOf hy hr hI pa ) (Nat.le_of_ble_eq_true rfl) ?_
  intro r Ia Ja Ra hq
  obtain ⟨⟨ea, eb, ec⟩, v5207, rfl, av5207, bv5207⟩ := hq
  show WP _ _ _ _ (.int _ :: _) _ _ _ _
  rw [ea, eb, ec]
  clear ea eb ec Ia Ja Ra
  refine WQ_icmp_lt 27 dX3_faultOfNumber_15 rfl (fun c5207 => ?_) (fun c5207 => ?_)
  · refine WQ_iconst (2) (2) dX3_faultOfNumber_27 rfl rfl (fun v5209 hv5209 => ?_)
    obtain ⟨w5210, ew5210⟩ : ∃ w : Int32, I (ad g 4) 0 = w := ⟨_, rfl⟩
    have bw5210 := BT_get hI.1 4 0 5 (0) (0) (1000) (by decide) 0 (by decide) (by decide)
    rw [ew5210] at bw5210
    exact WP_iret dX3_faultOfNumber_28 rfl ⟨⟨hI, rfl, ⟨trivial, rfl, rfl⟩⟩, _, rfl, by omega, by omega, by (try rw [ew5210]); omega⟩
  · refine WP_iload dX3_faultOfNumber_18 rfl ?_
    refine WP_iload_n dX3_faultOfNumber_20 rfl ?_
    refine WP_callS1 dX3_faultOfNumber_21 ⟨⟨⟨by decide, by decide⟩, zX3_mostOf⟩, lX3_125, tX3_mostOf⟩ (sx_mostOf hy hr hI pa ) (Nat.le_of_ble_eq_true rfl) ?_
    intro r Ia Ja Ra hq
    obtain ⟨⟨ea, eb, ec⟩, v5211, rfl, av5211, bv5211, cv5211⟩ := hq
    show WP _ _ _ _ (.int _ :: _) _ _ _ _
    rw [ea, eb, ec]
    clear ea eb ec Ia Ja Ra
    refine WQ_icmp_le 29 dX3_faultOfNumber_24 rfl (fun c5211 => ?_) (fun c5211 => ?_)
    · refine WP_aload_n dX3_faultOfNumber_29 rfl ?_
      refine WP_getr dX3_faultOfNumber_30 fX3_9 rfl (lyx_is hy 3 3 rfl) (rfx hr 3 3 4 (by decide)) ?_
      refine WP_iload_n dX3_faultOfNumber_33 rfl ?_
      refine WP_iload dX3_faultOfNumber_34 rfl ?_
      refine WQ_iast dX3_faultOfNumber_36 (lyx_is hy 4 13 rfl) (lyx_n hy 4 5 rfl) (by omega) (by omega) (fun I5213 fI5213 => ?_)
      have eI5213 := fI5213
      rw [cl (x := ix) (n := 0) (by omega)] at eI5213
      clear fI5213
      have hI5213 : XI g n L I5213 := by rw [eI5213]; exact (xi_f hy hI (c := 4) (0) (0) (1000) (by decide) (Or.inl (by decide)) (by decide) (by omega) (by omega))
      have e5214 : I5213 (ad g 1) 1 = L := by rw [eI5213, pp_ne _ _ (Or.inl (lyx_ne hy (by decide) (by decide) (by decide)))]; exact e5202
      have e5215 : I5213 (ad g 6) 1 = w5204 := by rw [eI5213, pp_ne _ _ (Or.inl (lyx_ne hy (by decide) (by decide) (by decide)))]; exact ew5204
      have e5216 : I5213 (ad g 6) 2 = w5205 := by rw [eI5213, pp_ne _ _ (Or.inl (lyx_ne hy (by decide) (by decide) (by decide)))]; exact ew5205
      have e5217 : I5213 (ad g 1) 4 = v5206 := by rw [eI5213, pp_ne _ _ (Or.inl (lyx_ne hy (by decide) (by decide) (by decide)))]; exact ev5206
      have e5218 : I5213 (ad g 4) 0 = v5206 := by rw [eI5213, pp_self]
      clear eI5213
      refine WP_iload_n dX3_faultOfNumber_37 rfl ?_
      refine WQ_bipush (68) (68) dX3_faultOfNumber_38 rfl rfl (fun v5219 hv5219 => ?_)
      refine WQ_icmp_eq 45 dX3_faultOfNumber_40 rfl (fun c5219 => ?_) (fun c5219 => False.elim (by omega))
      refine WP_aload dX3_faultOfNumber_45 rfl ?_
      refine WP_iload_n dX3_faultOfNumber_47 rfl ?_
      refine WP_iload_n dX3_faultOfNumber_48 rfl ?_
      refine WQ_if_ne 56 dX3_faultOfNumber_49 rfl (fun c5220 => False.elim (by omega)) (fun c5220 => ?_)
      refine WQ_iconst (0) (0) dX3_faultOfNumber_52 rfl rfl (fun v5222 hv5222 => ?_)
      refine WP_goto 62 dX3_faultOfNumber_53 rfl ?_
      refine WP_iload dX3_faultOfNumber_62 rfl ?_
      refine WP_callV3 (k := 7) dX3_faultOfNumber_64 ⟨⟨⟨by decide, by decide⟩, zX7_isTold⟩, lX3_114, by decide, rfl, vX7_isTold.1, vX7_isTold.2⟩ (lyx_is hy 6 7 rfl) (sx_isTold_6 hy hr hI5213 cz v5222 v5206 (by omega) (by omega) (by omega) (by omega) ) (Nat.le_of_ble_eq_true rfl) ?_
      intro r Ia Ja Ra hq
      obtain ⟨⟨ea, eb, ec⟩, v5223, rfl, av5223, bv5223⟩ := hq
      show WP _ _ _ _ (.int _ :: _) _ _ _ _
      rw [ea, eb, ec]
      clear ea eb ec Ia Ja Ra
      refine WQ_if_eq 74 dX3_faultOfNumber_67 rfl (fun c5223 => ?_) (fun c5223 => ?_)
      · refine WQ_iconst (0) (0) dX3_faultOfNumber_74 rfl rfl (fun v5225 hv5225 => ?_)
        exact WP_iret dX3_faultOfNumber_75 rfl ⟨⟨hI5213, rfl, ⟨trivial, (by rw [e5215, ew5204] <;> exact (eq32 _ _).mpr (by omega)), (by rw [e5216, ew5205] <;> exact (eq32 _ _).mpr (by omega))⟩⟩, _, rfl, by omega, by omega, by (try rw [e5218]); omega⟩
      · refine WQ_iconst (3) (3) dX3_faultOfNumber_70 rfl rfl (fun v5226 hv5226 => ?_)
        refine WP_goto 75 dX3_faultOfNumber_71 rfl ?_
        exact WP_iret dX3_faultOfNumber_75 rfl ⟨⟨hI5213, rfl, ⟨trivial, (by rw [e5215, ew5204] <;> exact (eq32 _ _).mpr (by omega)), (by rw [e5216, ew5205] <;> exact (eq32 _ _).mpr (by omega))⟩⟩, _, rfl, by omega, by omega, by (try rw [e5218]); omega⟩
    · refine WQ_iconst (2) (2) dX3_faultOfNumber_27 rfl rfl (fun v5227 hv5227 => ?_)
      obtain ⟨w5228, ew5228⟩ : ∃ w : Int32, I (ad g 4) 0 = w := ⟨_, rfl⟩
      have bw5228 := BT_get hI.1 4 0 5 (0) (0) (1000) (by decide) 0 (by decide) (by decide)
      rw [ew5228] at bw5228
      exact WP_iret dX3_faultOfNumber_28 rfl ⟨⟨hI, rfl, ⟨trivial, rfl, rfl⟩⟩, _, rfl, by omega, by omega, by (try rw [ew5228]); omega⟩
set_option maxHeartbeats 4000000 in
set_option maxRecDepth 100000 in
theorem sx_part_6_0_1 {g : GG} {n : Int} {L : Int32} (hy : LyX g)  {I : pI} {J : pJ} {R : pR} (hr : RfX g R) (hI : XI g n L I) (pa : Int32) (cz : Int32) (ix : Int32) (pa_lo : 76 ≤ pa.toInt) (pa_hi : pa.toInt ≤ 76) (cz_lo : 0 ≤ cz.toInt) (cz_hi : cz.toInt ≤ 0) (ix_lo : 1 ≤ ix.toInt) (ix_hi : ix.toInt ≤ 1) : SP g mX3_faultOfNumber [.ref (ad g 3), .int pa, .int cz, .int ix, .ref (ad g 6)] I J R (fun r I' J' R' => (XI g n L I' ∧ R' = R ∧ True ∧ I' (ad g 4) 0 = I (ad g 4) 0 ∧ I' (ad g 6) 1 = I (ad g 6) 1 ∧ I' (ad g 6) 2 = I (ad g 6) 2) ∧ ∃ v : Int32, r = some (.int v) ∧ 0 ≤ v.toInt ∧ v.toInt ≤ 5 ∧ (v.toInt = 0 → (I' (ad g 4) 1).toInt ≤ 900)) := by
  refine SP_of ⟨by decide, rfl⟩ (Nat.le_of_ble_eq_true rfl) ?_
  have e5229 : I (ad g 1) 1 = L := hI.2
  have b5230 := BT_get hI.1 1 1 2 (0) (0) (900) (by decide) 1 (by decide) (by decide)
  rw [e5229] at b5230
  obtain ⟨w5231, ew5231⟩ : ∃ w : Int32, I (ad g 4) 0 = w := ⟨_, rfl⟩
  have bw5231 := BT_get hI.1 4 0 5 (0) (0) (1000) (by decide) 0 (by decide) (by decide)
  rw [ew5231] at bw5231
  obtain ⟨w5232, ew5232⟩ : ∃ w : Int32, I (ad g 6) 1 = w := ⟨_, rfl⟩
  have bw5232 := BT_get hI.1 6 1 2 (0) (0) (4) (by decide) 1 (by decide) (by decide)
  rw [ew5232] at bw5232
  obtain ⟨w5233, ew5233⟩ : ∃ w : Int32, I (ad g 6) 2 = w := ⟨_, rfl⟩
  have bw5233 := BT_get hI.1 6 2 3 (0) (0) (3) (by decide) 2 (by decide) (by decide)
  rw [ew5233] at bw5233
  refine WP_aload_n dX3_faultOfNumber_0 rfl ?_
  refine WP_getr dX3_faultOfNumber_1 fX3_15 rfl (lyx_is hy 3 3 rfl) (rfx hr 3 2 1 (by decide)) ?_
  refine WQ_getiu dX3_faultOfNumber_4 fX3_118 rfl (lyx_is hy 1 5 rfl) (fun v5234 ev5234 => ?_)
  refine WP_istore (ls' := [(0, _), (1, _), (2, _), (3, _), (4, _), (5, _)]) dX3_faultOfNumber_7 (by decide) rfl ?_
  refine WP_iload dX3_faultOfNumber_9 rfl ?_
  refine WP_iload_n dX3_faultOfNumber_11 rfl ?_
  refine WP_callS1 dX3_faultOfNumber_12 ⟨⟨⟨by decide, by decide⟩, zX3_leastOf⟩, lX3_121, tX3_leastOf⟩ (sx_leastOf hy hr hI pa ) (Nat.le_of_ble_eq_true rfl) ?_
  intro r Ia Ja Ra hq
  obtain ⟨⟨ea, eb, ec⟩, v5235, rfl, av5235, bv5235⟩ := hq
  show WP _ _ _ _ (.int _ :: _) _ _ _ _
  rw [ea, eb, ec]
  clear ea eb ec Ia Ja Ra
  refine WQ_icmp_lt 27 dX3_faultOfNumber_15 rfl (fun c5235 => ?_) (fun c5235 => ?_)
  · refine WQ_iconst (2) (2) dX3_faultOfNumber_27 rfl rfl (fun v5237 hv5237 => ?_)
    obtain ⟨w5238, ew5238⟩ : ∃ w : Int32, I (ad g 4) 1 = w := ⟨_, rfl⟩
    have bw5238 := BT_get hI.1 4 0 5 (0) (0) (1000) (by decide) 1 (by decide) (by decide)
    rw [ew5238] at bw5238
    exact WP_iret dX3_faultOfNumber_28 rfl ⟨⟨hI, rfl, ⟨trivial, rfl, rfl, rfl⟩⟩, _, rfl, by omega, by omega, by (try rw [ew5238]); omega⟩
  · refine WP_iload dX3_faultOfNumber_18 rfl ?_
    refine WP_iload_n dX3_faultOfNumber_20 rfl ?_
    refine WP_callS1 dX3_faultOfNumber_21 ⟨⟨⟨by decide, by decide⟩, zX3_mostOf⟩, lX3_125, tX3_mostOf⟩ (sx_mostOf hy hr hI pa ) (Nat.le_of_ble_eq_true rfl) ?_
    intro r Ia Ja Ra hq
    obtain ⟨⟨ea, eb, ec⟩, v5239, rfl, av5239, bv5239, cv5239⟩ := hq
    show WP _ _ _ _ (.int _ :: _) _ _ _ _
    rw [ea, eb, ec]
    clear ea eb ec Ia Ja Ra
    refine WQ_icmp_le 29 dX3_faultOfNumber_24 rfl (fun c5239 => ?_) (fun c5239 => ?_)
    · refine WP_aload_n dX3_faultOfNumber_29 rfl ?_
      refine WP_getr dX3_faultOfNumber_30 fX3_9 rfl (lyx_is hy 3 3 rfl) (rfx hr 3 3 4 (by decide)) ?_
      refine WP_iload_n dX3_faultOfNumber_33 rfl ?_
      refine WP_iload dX3_faultOfNumber_34 rfl ?_
      refine WQ_iast dX3_faultOfNumber_36 (lyx_is hy 4 13 rfl) (lyx_n hy 4 5 rfl) (by omega) (by omega) (fun I5241 fI5241 => ?_)
      have eI5241 := fI5241
      rw [cl (x := ix) (n := 1) (by omega)] at eI5241
      clear fI5241
      have hI5241 : XI g n L I5241 := by rw [eI5241]; exact (xi_f hy hI (c := 4) (0) (0) (1000) (by decide) (Or.inl (by decide)) (by decide) (by omega) (by omega))
      have e5242 : I5241 (ad g 1) 1 = L := by rw [eI5241, pp_ne _ _ (Or.inl (lyx_ne hy (by decide) (by decide) (by decide)))]; exact e5229
      have e5243 : I5241 (ad g 4) 0 = w5231 := by rw [eI5241, pp_ne _ _ (Or.inr (by decide))]; exact ew5231
      have e5244 : I5241 (ad g 6) 1 = w5232 := by rw [eI5241, pp_ne _ _ (Or.inl (lyx_ne hy (by decide) (by decide) (by decide)))]; exact ew5232
      have e5245 : I5241 (ad g 6) 2 = w5233 := by rw [eI5241, pp_ne _ _ (Or.inl (lyx_ne hy (by decide) (by decide) (by decide)))]; exact ew5233
      have e5246 : I5241 (ad g 1) 4 = v5234 := by rw [eI5241, pp_ne _ _ (Or.inl (lyx_ne hy (by decide) (by decide) (by decide)))]; exact ev5234
      have e5247 : I5241 (ad g 4) 1 = v5234 := by rw [eI5241, pp_self]
      clear eI5241
      refine WP_iload_n dX3_faultOfNumber_37 rfl ?_
      refine WQ_bipush (68) (68) dX3_faultOfNumber_38 rfl rfl (fun v5248 hv5248 => ?_)
      refine WQ_icmp_eq 45 dX3_faultOfNumber_40 rfl (fun c5248 => False.elim (by omega)) (fun c5248 => ?_)
      refine WQ_iconst (0) (0) dX3_faultOfNumber_43 rfl rfl (fun v5250 hv5250 => ?_)
      exact WP_iret dX3_faultOfNumber_44 rfl ⟨⟨hI5241, rfl, ⟨trivial, (by rw [e5243, ew5231] <;> exact (eq32 _ _).mpr (by omega)), (by rw [e5244, ew5232] <;> exact (eq32 _ _).mpr (by omega)), (by rw [e5245, ew5233] <;> exact (eq32 _ _).mpr (by omega))⟩⟩, _, rfl, by omega, by omega, by (try rw [e5247]); omega⟩
    · refine WQ_iconst (2) (2) dX3_faultOfNumber_27 rfl rfl (fun v5251 hv5251 => ?_)
      obtain ⟨w5252, ew5252⟩ : ∃ w : Int32, I (ad g 4) 1 = w := ⟨_, rfl⟩
      have bw5252 := BT_get hI.1 4 0 5 (0) (0) (1000) (by decide) 1 (by decide) (by decide)
      rw [ew5252] at bw5252
      exact WP_iret dX3_faultOfNumber_28 rfl ⟨⟨hI, rfl, ⟨trivial, rfl, rfl, rfl⟩⟩, _, rfl, by omega, by omega, by (try rw [ew5252]); omega⟩
set_option maxHeartbeats 4000000 in
set_option maxRecDepth 100000 in
theorem sx_part_6_1_0 {g : GG} {n : Int} {L : Int32} (hy : LyX g)  {I : pI} {J : pJ} {R : pR} (hr : RfX g R) (hI : XI g n L I) (pa : Int32) (cz : Int32) (ix : Int32) (pa_lo : 110 ≤ pa.toInt) (pa_hi : pa.toInt ≤ 110) (cz_lo : 1 ≤ cz.toInt) (cz_hi : cz.toInt ≤ 1) (ix_lo : 0 ≤ ix.toInt) (ix_hi : ix.toInt ≤ 0) (hb : (I (ad g 6) 1).toInt ≤ 3) : SP g mX3_faultOfName [.ref (ad g 3), .int pa, .int cz, .int ix, .ref (ad g 6)] I J R (fun r I' J' R' => (XI g n L I' ∧ R' = R ∧ True ∧ I' (ad g 6) 1 = I (ad g 6) 1 ∧ I' (ad g 6) 2 = I (ad g 6) 2) ∧ ∃ v : Int32, r = some (.int v) ∧ 0 ≤ v.toInt ∧ v.toInt ≤ 5) := by
  refine SP_of ⟨by decide, rfl⟩ (Nat.le_of_ble_eq_true rfl) ?_
  have e5253 : I (ad g 1) 1 = L := hI.2
  have b5254 := BT_get hI.1 1 1 2 (0) (0) (900) (by decide) 1 (by decide) (by decide)
  rw [e5253] at b5254
  obtain ⟨w5255, ew5255⟩ : ∃ w : Int32, I (ad g 6) 1 = w := ⟨_, rfl⟩
  have bw5255 := BT_get hI.1 6 1 2 (0) (0) (4) (by decide) 1 (by decide) (by decide)
  rw [ew5255] at bw5255
  obtain ⟨w5256, ew5256⟩ : ∃ w : Int32, I (ad g 6) 2 = w := ⟨_, rfl⟩
  have bw5256 := BT_get hI.1 6 2 3 (0) (0) (3) (by decide) 2 (by decide) (by decide)
  rw [ew5256] at bw5256
  rw [ew5255] at hb
  refine WP_iload_n dX3_faultOfName_0 rfl ?_
  refine WQ_bipush (115) (115) dX3_faultOfName_1 rfl rfl (fun v5257 hv5257 => ?_)
  have jn17_5261 : ∀ (v5261 : Int32), 1 ≤ v5261.toInt → v5261.toInt ≤ 1 → WP g mX3_faultOfName 17 [(0, .ref (ad g 3)), (1, .int pa), (2, .int cz), (3, .int ix), (4, .ref (ad g 6))] [.int v5261] I J R (fun r I' J' R' => (XI g n L I' ∧ R' = R ∧ True ∧ I' (ad g 6) 1 = I (ad g 6) 1 ∧ I' (ad g 6) 2 = I (ad g 6) 2) ∧ ∃ v : Int32, r = some (.int v) ∧ 0 ≤ v.toInt ∧ v.toInt ≤ 5) := by
    intro v5261 av5261 bv5261
    refine WP_istore (ls' := [(0, _), (1, _), (2, _), (3, _), (4, _), (5, _)]) dX3_faultOfName_17 (by decide) rfl ?_
    refine WP_iload dX3_faultOfName_19 rfl ?_
    have jn51_5265 : ∀ (v5265 : Int32), -1 ≤ v5265.toInt → v5265.toInt ≤ 3 → WP g mX3_faultOfName 51 [(0, .ref (ad g 3)), (1, .int pa), (2, .int cz), (3, .int ix), (4, .ref (ad g 6)), (5, .int v5261)] [.int v5265] I J R (fun r I' J' R' => (XI g n L I' ∧ R' = R ∧ True ∧ I' (ad g 6) 1 = I (ad g 6) 1 ∧ I' (ad g 6) 2 = I (ad g 6) 2) ∧ ∃ v : Int32, r = some (.int v) ∧ 0 ≤ v.toInt ∧ v.toInt ≤ 5) := by
      intro v5265 av5265 bv5265
      refine WP_istore (ls' := [(0, _), (1, _), (2, _), (3, _), (4, _), (5, _), (6, _)]) dX3_faultOfName_51 (by decide) rfl ?_
      refine WP_iload_n dX3_faultOfName_53 rfl ?_
      refine WQ_bipush (110) (110) dX3_faultOfName_54 rfl rfl (fun v5267 hv5267 => ?_)
      refine WQ_icmp_eq 65 dX3_faultOfName_56 rfl (fun c5267 => ?_) (fun c5267 => False.elim (by omega))
      refine WP_iload dX3_faultOfName_65 rfl ?_
      refine WQ_iconst (-1) (-1) dX3_faultOfName_67 rfl rfl (fun v5269 hv5269 => ?_)
      refine WQ_icmp_eq 73 dX3_faultOfName_68 rfl (fun c5269 => ?_) (fun c5269 => ?_)
      · refine WP_aload dX3_faultOfName_73 rfl ?_
        refine WP_iload_n dX3_faultOfName_75 rfl ?_
        refine WQ_bipush (110) (110) dX3_faultOfName_76 rfl rfl (fun v5271 hv5271 => ?_)
        have jn86_5273 : ∀ (v5273 : Int32), 1 ≤ v5273.toInt → v5273.toInt ≤ 1 → WP g mX3_faultOfName 86 [(0, .ref (ad g 3)), (1, .int pa), (2, .int cz), (3, .int ix), (4, .ref (ad g 6)), (5, .int v5261), (6, .int v5265)] [.int v5273, .ref (ad g 6)] I J R (fun r I' J' R' => (XI g n L I' ∧ R' = R ∧ True ∧ I' (ad g 6) 1 = I (ad g 6) 1 ∧ I' (ad g 6) 2 = I (ad g 6) 2) ∧ ∃ v : Int32, r = some (.int v) ∧ 0 ≤ v.toInt ∧ v.toInt ≤ 5) := by
          intro v5273 av5273 bv5273
          refine WP_aload_n dX3_faultOfName_86 rfl ?_
          refine WP_getr dX3_faultOfName_87 fX3_15 rfl (lyx_is hy 3 3 rfl) (rfx hr 3 2 1 (by decide)) ?_
          refine WQ_getl dX3_faultOfName_90 fX3_80 rfl (lyx_is hy 1 5 rfl) (fun l5275 el5275 => ?_)
          refine WP_callV2 (k := 7) dX3_faultOfName_93 ⟨⟨⟨by decide, by decide⟩, zX7_name⟩, lX3_110, by decide, rfl, vX7_name.1, vX7_name.2⟩ (lyx_is hy 6 7 rfl) (sx_name_6_1 hy hr hI v5273 l5275 (by omega) (by omega) (by rw [ew5255]; omega)) (Nat.le_of_ble_eq_true rfl) ?_
          intro r Ia J5276 Ra hq
          obtain ⟨⟨ea, ec⟩, rfl⟩ := hq
          rw [ea, ec]
          clear ea ec Ia Ra
          refine WQ_iconst (0) (0) dX3_faultOfName_96 rfl rfl (fun v5277 hv5277 => ?_)
          exact WP_iret dX3_faultOfName_97 rfl ⟨⟨hI, rfl, ⟨trivial, rfl, rfl⟩⟩, _, rfl, by omega, by omega⟩
        refine WQ_icmp_ne 85 dX3_faultOfName_78 rfl (fun c5277 => False.elim (by omega)) (fun c5277 => ?_)
        refine WQ_iconst (1) (1) dX3_faultOfName_81 rfl rfl (fun v5279 hv5279 => ?_)
        refine WP_goto 86 dX3_faultOfName_82 rfl ?_
        exact WP_sub (fc rfl (fc rfl (fc rfl (fc rfl (fc rfl (fc rfl (fc rfl fn))))))) (jn86_5273 v5279 (by omega) (by omega))
      · refine WQ_iconst (3) (3) dX3_faultOfName_71 rfl rfl (fun v5280 hv5280 => ?_)
        exact WP_iret dX3_faultOfName_72 rfl ⟨⟨hI, rfl, ⟨trivial, rfl, rfl⟩⟩, _, rfl, by omega, by omega⟩
    refine WQ_if_eq 39 dX3_faultOfName_21 rfl (fun c5280 => False.elim (by omega)) (fun c5280 => ?_)
    refine WP_aload dX3_faultOfName_24 rfl ?_
    refine WP_aload_n dX3_faultOfName_26 rfl ?_
    refine WP_getr dX3_faultOfName_27 fX3_15 rfl (lyx_is hy 3 3 rfl) (rfx hr 3 2 1 (by decide)) ?_
    refine WQ_getl dX3_faultOfName_30 fX3_80 rfl (lyx_is hy 1 5 rfl) (fun l5282 el5282 => ?_)
    refine WP_callV1 (k := 7) dX3_faultOfName_33 ⟨⟨⟨by decide, by decide⟩, zX7_sortNamed⟩, lX3_103, by decide, rfl, vX7_sortNamed.1, vX7_sortNamed.2⟩ (lyx_is hy 6 7 rfl) (sx_sortNamed_6 hy hr hI l5282 ) (Nat.le_of_ble_eq_true rfl) ?_
    intro r Ia Ja Ra hq
    obtain ⟨⟨ea, eb, ec⟩, v5283, rfl, av5283, bv5283⟩ := hq
    show WP _ _ _ _ (.int _ :: _) _ _ _ _
    rw [ea, eb, ec]
    clear ea eb ec Ia Ja Ra
    refine WP_goto 51 dX3_faultOfName_36 rfl ?_
    exact WP_sub (fc rfl (fc rfl (fc rfl (fc rfl (fc rfl (fc rfl fn)))))) (jn51_5265 v5283 (by omega) (by omega))
  refine WQ_icmp_eq 12 dX3_faultOfName_3 rfl (fun c5283 => False.elim (by omega)) (fun c5283 => ?_)
  refine WP_iload_n dX3_faultOfName_6 rfl ?_
  refine WQ_bipush (110) (110) dX3_faultOfName_7 rfl rfl (fun v5285 hv5285 => ?_)
  refine WQ_icmp_ne 16 dX3_faultOfName_9 rfl (fun c5285 => False.elim (by omega)) (fun c5285 => ?_)
  refine WQ_iconst (1) (1) dX3_faultOfName_12 rfl rfl (fun v5287 hv5287 => ?_)
  refine WP_goto 17 dX3_faultOfName_13 rfl ?_
  exact WP_sub (fc rfl (fc rfl (fc rfl (fc rfl (fc rfl fn))))) (jn17_5261 v5287 (by omega) (by omega))
set_option maxHeartbeats 4000000 in
set_option maxRecDepth 100000 in
theorem sx_part_6_1_1 {g : GG} {n : Int} {L : Int32} (hy : LyX g)  {I : pI} {J : pJ} {R : pR} (hr : RfX g R) (hI : XI g n L I) (pa : Int32) (cz : Int32) (ix : Int32) (pa_lo : 80 ≤ pa.toInt) (pa_hi : pa.toInt ≤ 80) (cz_lo : 1 ≤ cz.toInt) (cz_hi : cz.toInt ≤ 1) (ix_lo : 1 ≤ ix.toInt) (ix_hi : ix.toInt ≤ 1) : SP g mX3_faultOfNumber [.ref (ad g 3), .int pa, .int cz, .int ix, .ref (ad g 6)] I J R (fun r I' J' R' => (XI g n L I' ∧ R' = R ∧ True ∧ I' (ad g 4) 0 = I (ad g 4) 0 ∧ I' (ad g 6) 1 = I (ad g 6) 1 ∧ I' (ad g 6) 2 = I (ad g 6) 2) ∧ ∃ v : Int32, r = some (.int v) ∧ 0 ≤ v.toInt ∧ v.toInt ≤ 5 ∧ (v.toInt = 0 → (I' (ad g 4) 1).toInt ≤ 99)) := by
  refine SP_of ⟨by decide, rfl⟩ (Nat.le_of_ble_eq_true rfl) ?_
  have e5288 : I (ad g 1) 1 = L := hI.2
  have b5289 := BT_get hI.1 1 1 2 (0) (0) (900) (by decide) 1 (by decide) (by decide)
  rw [e5288] at b5289
  obtain ⟨w5290, ew5290⟩ : ∃ w : Int32, I (ad g 4) 0 = w := ⟨_, rfl⟩
  have bw5290 := BT_get hI.1 4 0 5 (0) (0) (1000) (by decide) 0 (by decide) (by decide)
  rw [ew5290] at bw5290
  obtain ⟨w5291, ew5291⟩ : ∃ w : Int32, I (ad g 6) 1 = w := ⟨_, rfl⟩
  have bw5291 := BT_get hI.1 6 1 2 (0) (0) (4) (by decide) 1 (by decide) (by decide)
  rw [ew5291] at bw5291
  obtain ⟨w5292, ew5292⟩ : ∃ w : Int32, I (ad g 6) 2 = w := ⟨_, rfl⟩
  have bw5292 := BT_get hI.1 6 2 3 (0) (0) (3) (by decide) 2 (by decide) (by decide)
  rw [ew5292] at bw5292
  refine WP_aload_n dX3_faultOfNumber_0 rfl ?_
  refine WP_getr dX3_faultOfNumber_1 fX3_15 rfl (lyx_is hy 3 3 rfl) (rfx hr 3 2 1 (by decide)) ?_
  refine WQ_getiu dX3_faultOfNumber_4 fX3_118 rfl (lyx_is hy 1 5 rfl) (fun v5293 ev5293 => ?_)
  refine WP_istore (ls' := [(0, _), (1, _), (2, _), (3, _), (4, _), (5, _)]) dX3_faultOfNumber_7 (by decide) rfl ?_
  refine WP_iload dX3_faultOfNumber_9 rfl ?_
  refine WP_iload_n dX3_faultOfNumber_11 rfl ?_
  refine WP_callS1 dX3_faultOfNumber_12 ⟨⟨⟨by decide, by decide⟩, zX3_leastOf⟩, lX3_121, tX3_leastOf⟩ (sx_leastOf hy hr hI pa ) (Nat.le_of_ble_eq_true rfl) ?_
  intro r Ia Ja Ra hq
  obtain ⟨⟨ea, eb, ec⟩, v5294, rfl, av5294, bv5294⟩ := hq
  show WP _ _ _ _ (.int _ :: _) _ _ _ _
  rw [ea, eb, ec]
  clear ea eb ec Ia Ja Ra
  refine WQ_icmp_lt 27 dX3_faultOfNumber_15 rfl (fun c5294 => ?_) (fun c5294 => ?_)
  · refine WQ_iconst (2) (2) dX3_faultOfNumber_27 rfl rfl (fun v5296 hv5296 => ?_)
    obtain ⟨w5297, ew5297⟩ : ∃ w : Int32, I (ad g 4) 1 = w := ⟨_, rfl⟩
    have bw5297 := BT_get hI.1 4 0 5 (0) (0) (1000) (by decide) 1 (by decide) (by decide)
    rw [ew5297] at bw5297
    exact WP_iret dX3_faultOfNumber_28 rfl ⟨⟨hI, rfl, ⟨trivial, rfl, rfl, rfl⟩⟩, _, rfl, by omega, by omega, by (try rw [ew5297]); omega⟩
  · refine WP_iload dX3_faultOfNumber_18 rfl ?_
    refine WP_iload_n dX3_faultOfNumber_20 rfl ?_
    refine WP_callS1 dX3_faultOfNumber_21 ⟨⟨⟨by decide, by decide⟩, zX3_mostOf⟩, lX3_125, tX3_mostOf⟩ (sx_mostOf hy hr hI pa ) (Nat.le_of_ble_eq_true rfl) ?_
    intro r Ia Ja Ra hq
    obtain ⟨⟨ea, eb, ec⟩, v5298, rfl, av5298, bv5298, cv5298⟩ := hq
    show WP _ _ _ _ (.int _ :: _) _ _ _ _
    rw [ea, eb, ec]
    clear ea eb ec Ia Ja Ra
    refine WQ_icmp_le 29 dX3_faultOfNumber_24 rfl (fun c5298 => ?_) (fun c5298 => ?_)
    · refine WP_aload_n dX3_faultOfNumber_29 rfl ?_
      refine WP_getr dX3_faultOfNumber_30 fX3_9 rfl (lyx_is hy 3 3 rfl) (rfx hr 3 3 4 (by decide)) ?_
      refine WP_iload_n dX3_faultOfNumber_33 rfl ?_
      refine WP_iload dX3_faultOfNumber_34 rfl ?_
      refine WQ_iast dX3_faultOfNumber_36 (lyx_is hy 4 13 rfl) (lyx_n hy 4 5 rfl) (by omega) (by omega) (fun I5300 fI5300 => ?_)
      have eI5300 := fI5300
      rw [cl (x := ix) (n := 1) (by omega)] at eI5300
      clear fI5300
      have hI5300 : XI g n L I5300 := by rw [eI5300]; exact (xi_f hy hI (c := 4) (0) (0) (1000) (by decide) (Or.inl (by decide)) (by decide) (by omega) (by omega))
      have e5301 : I5300 (ad g 1) 1 = L := by rw [eI5300, pp_ne _ _ (Or.inl (lyx_ne hy (by decide) (by decide) (by decide)))]; exact e5288
      have e5302 : I5300 (ad g 4) 0 = w5290 := by rw [eI5300, pp_ne _ _ (Or.inr (by decide))]; exact ew5290
      have e5303 : I5300 (ad g 6) 1 = w5291 := by rw [eI5300, pp_ne _ _ (Or.inl (lyx_ne hy (by decide) (by decide) (by decide)))]; exact ew5291
      have e5304 : I5300 (ad g 6) 2 = w5292 := by rw [eI5300, pp_ne _ _ (Or.inl (lyx_ne hy (by decide) (by decide) (by decide)))]; exact ew5292
      have e5305 : I5300 (ad g 1) 4 = v5293 := by rw [eI5300, pp_ne _ _ (Or.inl (lyx_ne hy (by decide) (by decide) (by decide)))]; exact ev5293
      have e5306 : I5300 (ad g 4) 1 = v5293 := by rw [eI5300, pp_self]
      clear eI5300
      refine WP_iload_n dX3_faultOfNumber_37 rfl ?_
      refine WQ_bipush (68) (68) dX3_faultOfNumber_38 rfl rfl (fun v5307 hv5307 => ?_)
      refine WQ_icmp_eq 45 dX3_faultOfNumber_40 rfl (fun c5307 => False.elim (by omega)) (fun c5307 => ?_)
      refine WQ_iconst (0) (0) dX3_faultOfNumber_43 rfl rfl (fun v5309 hv5309 => ?_)
      exact WP_iret dX3_faultOfNumber_44 rfl ⟨⟨hI5300, rfl, ⟨trivial, (by rw [e5302, ew5290] <;> exact (eq32 _ _).mpr (by omega)), (by rw [e5303, ew5291] <;> exact (eq32 _ _).mpr (by omega)), (by rw [e5304, ew5292] <;> exact (eq32 _ _).mpr (by omega))⟩⟩, _, rfl, by omega, by omega, by (try rw [e5306]); omega⟩
    · refine WQ_iconst (2) (2) dX3_faultOfNumber_27 rfl rfl (fun v5310 hv5310 => ?_)
      obtain ⟨w5311, ew5311⟩ : ∃ w : Int32, I (ad g 4) 1 = w := ⟨_, rfl⟩
      have bw5311 := BT_get hI.1 4 0 5 (0) (0) (1000) (by decide) 1 (by decide) (by decide)
      rw [ew5311] at bw5311
      exact WP_iret dX3_faultOfNumber_28 rfl ⟨⟨hI, rfl, ⟨trivial, rfl, rfl, rfl⟩⟩, _, rfl, by omega, by omega, by (try rw [ew5311]); omega⟩
set_option maxHeartbeats 4000000 in
set_option maxRecDepth 100000 in
theorem sx_part_6_1_2 {g : GG} {n : Int} {L : Int32} (hy : LyX g)  {I : pI} {J : pJ} {R : pR} (hr : RfX g R) (hI : XI g n L I) (pa : Int32) (cz : Int32) (ix : Int32) (pa_lo : 72 ≤ pa.toInt) (pa_hi : pa.toInt ≤ 72) (cz_lo : 1 ≤ cz.toInt) (cz_hi : cz.toInt ≤ 1) (ix_lo : 2 ≤ ix.toInt) (ix_hi : ix.toInt ≤ 2) : SP g mX3_faultOfNumber [.ref (ad g 3), .int pa, .int cz, .int ix, .ref (ad g 6)] I J R (fun r I' J' R' => (XI g n L I' ∧ R' = R ∧ True ∧ I' (ad g 4) 0 = I (ad g 4) 0 ∧ I' (ad g 4) 1 = I (ad g 4) 1 ∧ I' (ad g 6) 1 = I (ad g 6) 1 ∧ I' (ad g 6) 2 = I (ad g 6) 2) ∧ ∃ v : Int32, r = some (.int v) ∧ 0 ≤ v.toInt ∧ v.toInt ≤ 5 ∧ (v.toInt = 0 → (I' (ad g 4) 2).toInt ≤ 1000)) := by
  refine SP_of ⟨by decide, rfl⟩ (Nat.le_of_ble_eq_true rfl) ?_
  have e5312 : I (ad g 1) 1 = L := hI.2
  have b5313 := BT_get hI.1 1 1 2 (0) (0) (900) (by decide) 1 (by decide) (by decide)
  rw [e5312] at b5313
  obtain ⟨w5314, ew5314⟩ : ∃ w : Int32, I (ad g 4) 0 = w := ⟨_, rfl⟩
  have bw5314 := BT_get hI.1 4 0 5 (0) (0) (1000) (by decide) 0 (by decide) (by decide)
  rw [ew5314] at bw5314
  obtain ⟨w5315, ew5315⟩ : ∃ w : Int32, I (ad g 4) 1 = w := ⟨_, rfl⟩
  have bw5315 := BT_get hI.1 4 0 5 (0) (0) (1000) (by decide) 1 (by decide) (by decide)
  rw [ew5315] at bw5315
  obtain ⟨w5316, ew5316⟩ : ∃ w : Int32, I (ad g 6) 1 = w := ⟨_, rfl⟩
  have bw5316 := BT_get hI.1 6 1 2 (0) (0) (4) (by decide) 1 (by decide) (by decide)
  rw [ew5316] at bw5316
  obtain ⟨w5317, ew5317⟩ : ∃ w : Int32, I (ad g 6) 2 = w := ⟨_, rfl⟩
  have bw5317 := BT_get hI.1 6 2 3 (0) (0) (3) (by decide) 2 (by decide) (by decide)
  rw [ew5317] at bw5317
  refine WP_aload_n dX3_faultOfNumber_0 rfl ?_
  refine WP_getr dX3_faultOfNumber_1 fX3_15 rfl (lyx_is hy 3 3 rfl) (rfx hr 3 2 1 (by decide)) ?_
  refine WQ_getiu dX3_faultOfNumber_4 fX3_118 rfl (lyx_is hy 1 5 rfl) (fun v5318 ev5318 => ?_)
  refine WP_istore (ls' := [(0, _), (1, _), (2, _), (3, _), (4, _), (5, _)]) dX3_faultOfNumber_7 (by decide) rfl ?_
  refine WP_iload dX3_faultOfNumber_9 rfl ?_
  refine WP_iload_n dX3_faultOfNumber_11 rfl ?_
  refine WP_callS1 dX3_faultOfNumber_12 ⟨⟨⟨by decide, by decide⟩, zX3_leastOf⟩, lX3_121, tX3_leastOf⟩ (sx_leastOf hy hr hI pa ) (Nat.le_of_ble_eq_true rfl) ?_
  intro r Ia Ja Ra hq
  obtain ⟨⟨ea, eb, ec⟩, v5319, rfl, av5319, bv5319⟩ := hq
  show WP _ _ _ _ (.int _ :: _) _ _ _ _
  rw [ea, eb, ec]
  clear ea eb ec Ia Ja Ra
  refine WQ_icmp_lt 27 dX3_faultOfNumber_15 rfl (fun c5319 => ?_) (fun c5319 => ?_)
  · refine WQ_iconst (2) (2) dX3_faultOfNumber_27 rfl rfl (fun v5321 hv5321 => ?_)
    obtain ⟨w5322, ew5322⟩ : ∃ w : Int32, I (ad g 4) 2 = w := ⟨_, rfl⟩
    have bw5322 := BT_get hI.1 4 0 5 (0) (0) (1000) (by decide) 2 (by decide) (by decide)
    rw [ew5322] at bw5322
    exact WP_iret dX3_faultOfNumber_28 rfl ⟨⟨hI, rfl, ⟨trivial, rfl, rfl, rfl, rfl⟩⟩, _, rfl, by omega, by omega, by (try rw [ew5322]); omega⟩
  · refine WP_iload dX3_faultOfNumber_18 rfl ?_
    refine WP_iload_n dX3_faultOfNumber_20 rfl ?_
    refine WP_callS1 dX3_faultOfNumber_21 ⟨⟨⟨by decide, by decide⟩, zX3_mostOf⟩, lX3_125, tX3_mostOf⟩ (sx_mostOf hy hr hI pa ) (Nat.le_of_ble_eq_true rfl) ?_
    intro r Ia Ja Ra hq
    obtain ⟨⟨ea, eb, ec⟩, v5323, rfl, av5323, bv5323, cv5323⟩ := hq
    show WP _ _ _ _ (.int _ :: _) _ _ _ _
    rw [ea, eb, ec]
    clear ea eb ec Ia Ja Ra
    refine WQ_icmp_le 29 dX3_faultOfNumber_24 rfl (fun c5323 => ?_) (fun c5323 => ?_)
    · refine WP_aload_n dX3_faultOfNumber_29 rfl ?_
      refine WP_getr dX3_faultOfNumber_30 fX3_9 rfl (lyx_is hy 3 3 rfl) (rfx hr 3 3 4 (by decide)) ?_
      refine WP_iload_n dX3_faultOfNumber_33 rfl ?_
      refine WP_iload dX3_faultOfNumber_34 rfl ?_
      refine WQ_iast dX3_faultOfNumber_36 (lyx_is hy 4 13 rfl) (lyx_n hy 4 5 rfl) (by omega) (by omega) (fun I5325 fI5325 => ?_)
      have eI5325 := fI5325
      rw [cl (x := ix) (n := 2) (by omega)] at eI5325
      clear fI5325
      have hI5325 : XI g n L I5325 := by rw [eI5325]; exact (xi_f hy hI (c := 4) (0) (0) (1000) (by decide) (Or.inl (by decide)) (by decide) (by omega) (by omega))
      have e5326 : I5325 (ad g 1) 1 = L := by rw [eI5325, pp_ne _ _ (Or.inl (lyx_ne hy (by decide) (by decide) (by decide)))]; exact e5312
      have e5327 : I5325 (ad g 4) 0 = w5314 := by rw [eI5325, pp_ne _ _ (Or.inr (by decide))]; exact ew5314
      have e5328 : I5325 (ad g 4) 1 = w5315 := by rw [eI5325, pp_ne _ _ (Or.inr (by decide))]; exact ew5315
      have e5329 : I5325 (ad g 6) 1 = w5316 := by rw [eI5325, pp_ne _ _ (Or.inl (lyx_ne hy (by decide) (by decide) (by decide)))]; exact ew5316
      have e5330 : I5325 (ad g 6) 2 = w5317 := by rw [eI5325, pp_ne _ _ (Or.inl (lyx_ne hy (by decide) (by decide) (by decide)))]; exact ew5317
      have e5331 : I5325 (ad g 1) 4 = v5318 := by rw [eI5325, pp_ne _ _ (Or.inl (lyx_ne hy (by decide) (by decide) (by decide)))]; exact ev5318
      have e5332 : I5325 (ad g 4) 2 = v5318 := by rw [eI5325, pp_self]
      clear eI5325
      refine WP_iload_n dX3_faultOfNumber_37 rfl ?_
      refine WQ_bipush (68) (68) dX3_faultOfNumber_38 rfl rfl (fun v5333 hv5333 => ?_)
      refine WQ_icmp_eq 45 dX3_faultOfNumber_40 rfl (fun c5333 => False.elim (by omega)) (fun c5333 => ?_)
      refine WQ_iconst (0) (0) dX3_faultOfNumber_43 rfl rfl (fun v5335 hv5335 => ?_)
      exact WP_iret dX3_faultOfNumber_44 rfl ⟨⟨hI5325, rfl, ⟨trivial, (by rw [e5327, ew5314] <;> exact (eq32 _ _).mpr (by omega)), (by rw [e5328, ew5315] <;> exact (eq32 _ _).mpr (by omega)), (by rw [e5329, ew5316] <;> exact (eq32 _ _).mpr (by omega)), (by rw [e5330, ew5317] <;> exact (eq32 _ _).mpr (by omega))⟩⟩, _, rfl, by omega, by omega, by (try rw [e5332]); omega⟩
    · refine WQ_iconst (2) (2) dX3_faultOfNumber_27 rfl rfl (fun v5336 hv5336 => ?_)
      obtain ⟨w5337, ew5337⟩ : ∃ w : Int32, I (ad g 4) 2 = w := ⟨_, rfl⟩
      have bw5337 := BT_get hI.1 4 0 5 (0) (0) (1000) (by decide) 2 (by decide) (by decide)
      rw [ew5337] at bw5337
      exact WP_iret dX3_faultOfNumber_28 rfl ⟨⟨hI, rfl, ⟨trivial, rfl, rfl, rfl, rfl⟩⟩, _, rfl, by omega, by omega, by (try rw [ew5337]); omega⟩
set_option maxHeartbeats 4000000 in
set_option maxRecDepth 100000 in
theorem sx_part_6_1_3 {g : GG} {n : Int} {L : Int32} (hy : LyX g)  {I : pI} {J : pJ} {R : pR} (hr : RfX g R) (hI : XI g n L I) (pa : Int32) (cz : Int32) (ix : Int32) (pa_lo : 67 ≤ pa.toInt) (pa_hi : pa.toInt ≤ 67) (cz_lo : 1 ≤ cz.toInt) (cz_hi : cz.toInt ≤ 1) (ix_lo : 3 ≤ ix.toInt) (ix_hi : ix.toInt ≤ 3) : SP g mX3_faultOfNumber [.ref (ad g 3), .int pa, .int cz, .int ix, .ref (ad g 6)] I J R (fun r I' J' R' => (XI g n L I' ∧ R' = R ∧ True ∧ I' (ad g 4) 0 = I (ad g 4) 0 ∧ I' (ad g 4) 1 = I (ad g 4) 1 ∧ I' (ad g 4) 2 = I (ad g 4) 2 ∧ I' (ad g 6) 1 = I (ad g 6) 1 ∧ I' (ad g 6) 2 = I (ad g 6) 2) ∧ ∃ v : Int32, r = some (.int v) ∧ 0 ≤ v.toInt ∧ v.toInt ≤ 5 ∧ (v.toInt = 0 → (I' (ad g 4) 3).toInt ≤ 60)) := by
  refine SP_of ⟨by decide, rfl⟩ (Nat.le_of_ble_eq_true rfl) ?_
  have e5338 : I (ad g 1) 1 = L := hI.2
  have b5339 := BT_get hI.1 1 1 2 (0) (0) (900) (by decide) 1 (by decide) (by decide)
  rw [e5338] at b5339
  obtain ⟨w5340, ew5340⟩ : ∃ w : Int32, I (ad g 4) 0 = w := ⟨_, rfl⟩
  have bw5340 := BT_get hI.1 4 0 5 (0) (0) (1000) (by decide) 0 (by decide) (by decide)
  rw [ew5340] at bw5340
  obtain ⟨w5341, ew5341⟩ : ∃ w : Int32, I (ad g 4) 1 = w := ⟨_, rfl⟩
  have bw5341 := BT_get hI.1 4 0 5 (0) (0) (1000) (by decide) 1 (by decide) (by decide)
  rw [ew5341] at bw5341
  obtain ⟨w5342, ew5342⟩ : ∃ w : Int32, I (ad g 4) 2 = w := ⟨_, rfl⟩
  have bw5342 := BT_get hI.1 4 0 5 (0) (0) (1000) (by decide) 2 (by decide) (by decide)
  rw [ew5342] at bw5342
  obtain ⟨w5343, ew5343⟩ : ∃ w : Int32, I (ad g 6) 1 = w := ⟨_, rfl⟩
  have bw5343 := BT_get hI.1 6 1 2 (0) (0) (4) (by decide) 1 (by decide) (by decide)
  rw [ew5343] at bw5343
  obtain ⟨w5344, ew5344⟩ : ∃ w : Int32, I (ad g 6) 2 = w := ⟨_, rfl⟩
  have bw5344 := BT_get hI.1 6 2 3 (0) (0) (3) (by decide) 2 (by decide) (by decide)
  rw [ew5344] at bw5344
  refine WP_aload_n dX3_faultOfNumber_0 rfl ?_
  refine WP_getr dX3_faultOfNumber_1 fX3_15 rfl (lyx_is hy 3 3 rfl) (rfx hr 3 2 1 (by decide)) ?_
  refine WQ_getiu dX3_faultOfNumber_4 fX3_118 rfl (lyx_is hy 1 5 rfl) (fun v5345 ev5345 => ?_)
  refine WP_istore (ls' := [(0, _), (1, _), (2, _), (3, _), (4, _), (5, _)]) dX3_faultOfNumber_7 (by decide) rfl ?_
  refine WP_iload dX3_faultOfNumber_9 rfl ?_
  refine WP_iload_n dX3_faultOfNumber_11 rfl ?_
  refine WP_callS1 dX3_faultOfNumber_12 ⟨⟨⟨by decide, by decide⟩, zX3_leastOf⟩, lX3_121, tX3_leastOf⟩ (sx_leastOf hy hr hI pa ) (Nat.le_of_ble_eq_true rfl) ?_
  intro r Ia Ja Ra hq
  obtain ⟨⟨ea, eb, ec⟩, v5346, rfl, av5346, bv5346⟩ := hq
  show WP _ _ _ _ (.int _ :: _) _ _ _ _
  rw [ea, eb, ec]
  clear ea eb ec Ia Ja Ra
  refine WQ_icmp_lt 27 dX3_faultOfNumber_15 rfl (fun c5346 => ?_) (fun c5346 => ?_)
  · refine WQ_iconst (2) (2) dX3_faultOfNumber_27 rfl rfl (fun v5348 hv5348 => ?_)
    obtain ⟨w5349, ew5349⟩ : ∃ w : Int32, I (ad g 4) 3 = w := ⟨_, rfl⟩
    have bw5349 := BT_get hI.1 4 0 5 (0) (0) (1000) (by decide) 3 (by decide) (by decide)
    rw [ew5349] at bw5349
    exact WP_iret dX3_faultOfNumber_28 rfl ⟨⟨hI, rfl, ⟨trivial, rfl, rfl, rfl, rfl, rfl⟩⟩, _, rfl, by omega, by omega, by (try rw [ew5349]); omega⟩
  · refine WP_iload dX3_faultOfNumber_18 rfl ?_
    refine WP_iload_n dX3_faultOfNumber_20 rfl ?_
    refine WP_callS1 dX3_faultOfNumber_21 ⟨⟨⟨by decide, by decide⟩, zX3_mostOf⟩, lX3_125, tX3_mostOf⟩ (sx_mostOf hy hr hI pa ) (Nat.le_of_ble_eq_true rfl) ?_
    intro r Ia Ja Ra hq
    obtain ⟨⟨ea, eb, ec⟩, v5350, rfl, av5350, bv5350, cv5350⟩ := hq
    show WP _ _ _ _ (.int _ :: _) _ _ _ _
    rw [ea, eb, ec]
    clear ea eb ec Ia Ja Ra
    refine WQ_icmp_le 29 dX3_faultOfNumber_24 rfl (fun c5350 => ?_) (fun c5350 => ?_)
    · refine WP_aload_n dX3_faultOfNumber_29 rfl ?_
      refine WP_getr dX3_faultOfNumber_30 fX3_9 rfl (lyx_is hy 3 3 rfl) (rfx hr 3 3 4 (by decide)) ?_
      refine WP_iload_n dX3_faultOfNumber_33 rfl ?_
      refine WP_iload dX3_faultOfNumber_34 rfl ?_
      refine WQ_iast dX3_faultOfNumber_36 (lyx_is hy 4 13 rfl) (lyx_n hy 4 5 rfl) (by omega) (by omega) (fun I5352 fI5352 => ?_)
      have eI5352 := fI5352
      rw [cl (x := ix) (n := 3) (by omega)] at eI5352
      clear fI5352
      have hI5352 : XI g n L I5352 := by rw [eI5352]; exact (xi_f hy hI (c := 4) (0) (0) (1000) (by decide) (Or.inl (by decide)) (by decide) (by omega) (by omega))
      have e5353 : I5352 (ad g 1) 1 = L := by rw [eI5352, pp_ne _ _ (Or.inl (lyx_ne hy (by decide) (by decide) (by decide)))]; exact e5338
      have e5354 : I5352 (ad g 4) 0 = w5340 := by rw [eI5352, pp_ne _ _ (Or.inr (by decide))]; exact ew5340
      have e5355 : I5352 (ad g 4) 1 = w5341 := by rw [eI5352, pp_ne _ _ (Or.inr (by decide))]; exact ew5341
      have e5356 : I5352 (ad g 4) 2 = w5342 := by rw [eI5352, pp_ne _ _ (Or.inr (by decide))]; exact ew5342
      have e5357 : I5352 (ad g 6) 1 = w5343 := by rw [eI5352, pp_ne _ _ (Or.inl (lyx_ne hy (by decide) (by decide) (by decide)))]; exact ew5343
      have e5358 : I5352 (ad g 6) 2 = w5344 := by rw [eI5352, pp_ne _ _ (Or.inl (lyx_ne hy (by decide) (by decide) (by decide)))]; exact ew5344
      have e5359 : I5352 (ad g 1) 4 = v5345 := by rw [eI5352, pp_ne _ _ (Or.inl (lyx_ne hy (by decide) (by decide) (by decide)))]; exact ev5345
      have e5360 : I5352 (ad g 4) 3 = v5345 := by rw [eI5352, pp_self]
      clear eI5352
      refine WP_iload_n dX3_faultOfNumber_37 rfl ?_
      refine WQ_bipush (68) (68) dX3_faultOfNumber_38 rfl rfl (fun v5361 hv5361 => ?_)
      refine WQ_icmp_eq 45 dX3_faultOfNumber_40 rfl (fun c5361 => False.elim (by omega)) (fun c5361 => ?_)
      refine WQ_iconst (0) (0) dX3_faultOfNumber_43 rfl rfl (fun v5363 hv5363 => ?_)
      exact WP_iret dX3_faultOfNumber_44 rfl ⟨⟨hI5352, rfl, ⟨trivial, (by rw [e5354, ew5340] <;> exact (eq32 _ _).mpr (by omega)), (by rw [e5355, ew5341] <;> exact (eq32 _ _).mpr (by omega)), (by rw [e5356, ew5342] <;> exact (eq32 _ _).mpr (by omega)), (by rw [e5357, ew5343] <;> exact (eq32 _ _).mpr (by omega)), (by rw [e5358, ew5344] <;> exact (eq32 _ _).mpr (by omega))⟩⟩, _, rfl, by omega, by omega, by (try rw [e5360]); omega⟩
    · refine WQ_iconst (2) (2) dX3_faultOfNumber_27 rfl rfl (fun v5364 hv5364 => ?_)
      obtain ⟨w5365, ew5365⟩ : ∃ w : Int32, I (ad g 4) 3 = w := ⟨_, rfl⟩
      have bw5365 := BT_get hI.1 4 0 5 (0) (0) (1000) (by decide) 3 (by decide) (by decide)
      rw [ew5365] at bw5365
      exact WP_iret dX3_faultOfNumber_28 rfl ⟨⟨hI, rfl, ⟨trivial, rfl, rfl, rfl, rfl, rfl⟩⟩, _, rfl, by omega, by omega, by (try rw [ew5365]); omega⟩
set_option maxHeartbeats 4000000 in
set_option maxRecDepth 100000 in
theorem sx_part_6_2_0 {g : GG} {n : Int} {L : Int32} (hy : LyX g)  {I : pI} {J : pJ} {R : pR} (hr : RfX g R) (hI : XI g n L I) (pa : Int32) (cz : Int32) (ix : Int32) (pa_lo : 109 ≤ pa.toInt) (pa_hi : pa.toInt ≤ 109) (cz_lo : 2 ≤ cz.toInt) (cz_hi : cz.toInt ≤ 2) (ix_lo : 0 ≤ ix.toInt) (ix_hi : ix.toInt ≤ 0) (hb : (I (ad g 6) 2).toInt ≤ 2) : SP g mX3_faultOfName [.ref (ad g 3), .int pa, .int cz, .int ix, .ref (ad g 6)] I J R (fun r I' J' R' => (XI g n L I' ∧ R' = R ∧ True ∧ I' (ad g 6) 1 = I (ad g 6) 1 ∧ I' (ad g 6) 2 = I (ad g 6) 2) ∧ ∃ v : Int32, r = some (.int v) ∧ 0 ≤ v.toInt ∧ v.toInt ≤ 5) := by
  refine SP_of ⟨by decide, rfl⟩ (Nat.le_of_ble_eq_true rfl) ?_
  have e5366 : I (ad g 1) 1 = L := hI.2
  have b5367 := BT_get hI.1 1 1 2 (0) (0) (900) (by decide) 1 (by decide) (by decide)
  rw [e5366] at b5367
  obtain ⟨w5368, ew5368⟩ : ∃ w : Int32, I (ad g 6) 1 = w := ⟨_, rfl⟩
  have bw5368 := BT_get hI.1 6 1 2 (0) (0) (4) (by decide) 1 (by decide) (by decide)
  rw [ew5368] at bw5368
  obtain ⟨w5369, ew5369⟩ : ∃ w : Int32, I (ad g 6) 2 = w := ⟨_, rfl⟩
  have bw5369 := BT_get hI.1 6 2 3 (0) (0) (3) (by decide) 2 (by decide) (by decide)
  rw [ew5369] at bw5369
  rw [ew5369] at hb
  refine WP_iload_n dX3_faultOfName_0 rfl ?_
  refine WQ_bipush (115) (115) dX3_faultOfName_1 rfl rfl (fun v5370 hv5370 => ?_)
  have jn17_5374 : ∀ (v5374 : Int32), 0 ≤ v5374.toInt → v5374.toInt ≤ 0 → WP g mX3_faultOfName 17 [(0, .ref (ad g 3)), (1, .int pa), (2, .int cz), (3, .int ix), (4, .ref (ad g 6))] [.int v5374] I J R (fun r I' J' R' => (XI g n L I' ∧ R' = R ∧ True ∧ I' (ad g 6) 1 = I (ad g 6) 1 ∧ I' (ad g 6) 2 = I (ad g 6) 2) ∧ ∃ v : Int32, r = some (.int v) ∧ 0 ≤ v.toInt ∧ v.toInt ≤ 5) := by
    intro v5374 av5374 bv5374
    refine WP_istore (ls' := [(0, _), (1, _), (2, _), (3, _), (4, _), (5, _)]) dX3_faultOfName_17 (by decide) rfl ?_
    refine WP_iload dX3_faultOfName_19 rfl ?_
    have jn51_5378 : ∀ (v5378 : Int32), -1 ≤ v5378.toInt → v5378.toInt ≤ 2 → WP g mX3_faultOfName 51 [(0, .ref (ad g 3)), (1, .int pa), (2, .int cz), (3, .int ix), (4, .ref (ad g 6)), (5, .int v5374)] [.int v5378] I J R (fun r I' J' R' => (XI g n L I' ∧ R' = R ∧ True ∧ I' (ad g 6) 1 = I (ad g 6) 1 ∧ I' (ad g 6) 2 = I (ad g 6) 2) ∧ ∃ v : Int32, r = some (.int v) ∧ 0 ≤ v.toInt ∧ v.toInt ≤ 5) := by
      intro v5378 av5378 bv5378
      refine WP_istore (ls' := [(0, _), (1, _), (2, _), (3, _), (4, _), (5, _), (6, _)]) dX3_faultOfName_51 (by decide) rfl ?_
      refine WP_iload_n dX3_faultOfName_53 rfl ?_
      refine WQ_bipush (110) (110) dX3_faultOfName_54 rfl rfl (fun v5380 hv5380 => ?_)
      refine WQ_icmp_eq 65 dX3_faultOfName_56 rfl (fun c5380 => False.elim (by omega)) (fun c5380 => ?_)
      refine WP_iload_n dX3_faultOfName_59 rfl ?_
      refine WQ_bipush (109) (109) dX3_faultOfName_60 rfl rfl (fun v5382 hv5382 => ?_)
      refine WQ_icmp_ne 98 dX3_faultOfName_62 rfl (fun c5382 => False.elim (by omega)) (fun c5382 => ?_)
      refine WP_iload dX3_faultOfName_65 rfl ?_
      refine WQ_iconst (-1) (-1) dX3_faultOfName_67 rfl rfl (fun v5384 hv5384 => ?_)
      refine WQ_icmp_eq 73 dX3_faultOfName_68 rfl (fun c5384 => ?_) (fun c5384 => ?_)
      · refine WP_aload dX3_faultOfName_73 rfl ?_
        refine WP_iload_n dX3_faultOfName_75 rfl ?_
        refine WQ_bipush (110) (110) dX3_faultOfName_76 rfl rfl (fun v5386 hv5386 => ?_)
        have jn86_5388 : ∀ (v5388 : Int32), 0 ≤ v5388.toInt → v5388.toInt ≤ 0 → WP g mX3_faultOfName 86 [(0, .ref (ad g 3)), (1, .int pa), (2, .int cz), (3, .int ix), (4, .ref (ad g 6)), (5, .int v5374), (6, .int v5378)] [.int v5388, .ref (ad g 6)] I J R (fun r I' J' R' => (XI g n L I' ∧ R' = R ∧ True ∧ I' (ad g 6) 1 = I (ad g 6) 1 ∧ I' (ad g 6) 2 = I (ad g 6) 2) ∧ ∃ v : Int32, r = some (.int v) ∧ 0 ≤ v.toInt ∧ v.toInt ≤ 5) := by
          intro v5388 av5388 bv5388
          refine WP_aload_n dX3_faultOfName_86 rfl ?_
          refine WP_getr dX3_faultOfName_87 fX3_15 rfl (lyx_is hy 3 3 rfl) (rfx hr 3 2 1 (by decide)) ?_
          refine WQ_getl dX3_faultOfName_90 fX3_80 rfl (lyx_is hy 1 5 rfl) (fun l5390 el5390 => ?_)
          refine WP_callV2 (k := 7) dX3_faultOfName_93 ⟨⟨⟨by decide, by decide⟩, zX7_name⟩, lX3_110, by decide, rfl, vX7_name.1, vX7_name.2⟩ (lyx_is hy 6 7 rfl) (sx_name_6_0 hy hr hI v5388 l5390 (by omega) (by omega) (by rw [ew5369]; omega)) (Nat.le_of_ble_eq_true rfl) ?_
          intro r Ia J5391 Ra hq
          obtain ⟨⟨ea, ec⟩, rfl⟩ := hq
          rw [ea, ec]
          clear ea ec Ia Ra
          refine WQ_iconst (0) (0) dX3_faultOfName_96 rfl rfl (fun v5392 hv5392 => ?_)
          exact WP_iret dX3_faultOfName_97 rfl ⟨⟨hI, rfl, ⟨trivial, rfl, rfl⟩⟩, _, rfl, by omega, by omega⟩
        refine WQ_icmp_ne 85 dX3_faultOfName_78 rfl (fun c5392 => ?_) (fun c5392 => False.elim (by omega))
        refine WQ_iconst (0) (0) dX3_faultOfName_85 rfl rfl (fun v5394 hv5394 => ?_)
        exact WP_sub (fc rfl (fc rfl (fc rfl (fc rfl (fc rfl (fc rfl (fc rfl fn))))))) (jn86_5388 v5394 (by omega) (by omega))
      · refine WQ_iconst (3) (3) dX3_faultOfName_71 rfl rfl (fun v5395 hv5395 => ?_)
        exact WP_iret dX3_faultOfName_72 rfl ⟨⟨hI, rfl, ⟨trivial, rfl, rfl⟩⟩, _, rfl, by omega, by omega⟩
    refine WQ_if_eq 39 dX3_faultOfName_21 rfl (fun c5395 => ?_) (fun c5395 => False.elim (by omega))
    refine WP_aload dX3_faultOfName_39 rfl ?_
    refine WP_aload_n dX3_faultOfName_41 rfl ?_
    refine WP_getr dX3_faultOfName_42 fX3_15 rfl (lyx_is hy 3 3 rfl) (rfx hr 3 2 1 (by decide)) ?_
    refine WQ_getl dX3_faultOfName_45 fX3_80 rfl (lyx_is hy 1 5 rfl) (fun l5397 el5397 => ?_)
    refine WP_callV1 (k := 7) dX3_faultOfName_48 ⟨⟨⟨by decide, by decide⟩, zX7_thingNamed⟩, lX3_107, by decide, rfl, vX7_thingNamed.1, vX7_thingNamed.2⟩ (lyx_is hy 6 7 rfl) (sx_thingNamed_6 hy hr hI l5397 ) (Nat.le_of_ble_eq_true rfl) ?_
    intro r Ia Ja Ra hq
    obtain ⟨⟨ea, eb, ec⟩, v5398, rfl, av5398, bv5398⟩ := hq
    show WP _ _ _ _ (.int _ :: _) _ _ _ _
    rw [ea, eb, ec]
    clear ea eb ec Ia Ja Ra
    exact WP_sub (fc rfl (fc rfl (fc rfl (fc rfl (fc rfl (fc rfl fn)))))) (jn51_5378 v5398 (by omega) (by omega))
  refine WQ_icmp_eq 12 dX3_faultOfName_3 rfl (fun c5398 => False.elim (by omega)) (fun c5398 => ?_)
  refine WP_iload_n dX3_faultOfName_6 rfl ?_
  refine WQ_bipush (110) (110) dX3_faultOfName_7 rfl rfl (fun v5400 hv5400 => ?_)
  refine WQ_icmp_ne 16 dX3_faultOfName_9 rfl (fun c5400 => ?_) (fun c5400 => False.elim (by omega))
  refine WQ_iconst (0) (0) dX3_faultOfName_16 rfl rfl (fun v5402 hv5402 => ?_)
  exact WP_sub (fc rfl (fc rfl (fc rfl (fc rfl (fc rfl fn))))) (jn17_5374 v5402 (by omega) (by omega))
set_option maxHeartbeats 4000000 in
set_option maxRecDepth 100000 in
theorem sx_part_6_2_1 {g : GG} {n : Int} {L : Int32} (hy : LyX g)  {I : pI} {J : pJ} {R : pR} (hr : RfX g R) (hI : XI g n L I) (pa : Int32) (cz : Int32) (ix : Int32) (pa_lo : 72 ≤ pa.toInt) (pa_hi : pa.toInt ≤ 72) (cz_lo : 2 ≤ cz.toInt) (cz_hi : cz.toInt ≤ 2) (ix_lo : 1 ≤ ix.toInt) (ix_hi : ix.toInt ≤ 1) : SP g mX3_faultOfNumber [.ref (ad g 3), .int pa, .int cz, .int ix, .ref (ad g 6)] I J R (fun r I' J' R' => (XI g n L I' ∧ R' = R ∧ True ∧ I' (ad g 4) 0 = I (ad g 4) 0 ∧ I' (ad g 6) 1 = I (ad g 6) 1 ∧ I' (ad g 6) 2 = I (ad g 6) 2) ∧ ∃ v : Int32, r = some (.int v) ∧ 0 ≤ v.toInt ∧ v.toInt ≤ 5 ∧ (v.toInt = 0 → (I' (ad g 4) 1).toInt ≤ 1000)) := by
  refine SP_of ⟨by decide, rfl⟩ (Nat.le_of_ble_eq_true rfl) ?_
  have e5403 : I (ad g 1) 1 = L := hI.2
  have b5404 := BT_get hI.1 1 1 2 (0) (0) (900) (by decide) 1 (by decide) (by decide)
  rw [e5403] at b5404
  obtain ⟨w5405, ew5405⟩ : ∃ w : Int32, I (ad g 4) 0 = w := ⟨_, rfl⟩
  have bw5405 := BT_get hI.1 4 0 5 (0) (0) (1000) (by decide) 0 (by decide) (by decide)
  rw [ew5405] at bw5405
  obtain ⟨w5406, ew5406⟩ : ∃ w : Int32, I (ad g 6) 1 = w := ⟨_, rfl⟩
  have bw5406 := BT_get hI.1 6 1 2 (0) (0) (4) (by decide) 1 (by decide) (by decide)
  rw [ew5406] at bw5406
  obtain ⟨w5407, ew5407⟩ : ∃ w : Int32, I (ad g 6) 2 = w := ⟨_, rfl⟩
  have bw5407 := BT_get hI.1 6 2 3 (0) (0) (3) (by decide) 2 (by decide) (by decide)
  rw [ew5407] at bw5407
  refine WP_aload_n dX3_faultOfNumber_0 rfl ?_
  refine WP_getr dX3_faultOfNumber_1 fX3_15 rfl (lyx_is hy 3 3 rfl) (rfx hr 3 2 1 (by decide)) ?_
  refine WQ_getiu dX3_faultOfNumber_4 fX3_118 rfl (lyx_is hy 1 5 rfl) (fun v5408 ev5408 => ?_)
  refine WP_istore (ls' := [(0, _), (1, _), (2, _), (3, _), (4, _), (5, _)]) dX3_faultOfNumber_7 (by decide) rfl ?_
  refine WP_iload dX3_faultOfNumber_9 rfl ?_
  refine WP_iload_n dX3_faultOfNumber_11 rfl ?_
  refine WP_callS1 dX3_faultOfNumber_12 ⟨⟨⟨by decide, by decide⟩, zX3_leastOf⟩, lX3_121, tX3_leastOf⟩ (sx_leastOf hy hr hI pa ) (Nat.le_of_ble_eq_true rfl) ?_
  intro r Ia Ja Ra hq
  obtain ⟨⟨ea, eb, ec⟩, v5409, rfl, av5409, bv5409⟩ := hq
  show WP _ _ _ _ (.int _ :: _) _ _ _ _
  rw [ea, eb, ec]
  clear ea eb ec Ia Ja Ra
  refine WQ_icmp_lt 27 dX3_faultOfNumber_15 rfl (fun c5409 => ?_) (fun c5409 => ?_)
  · refine WQ_iconst (2) (2) dX3_faultOfNumber_27 rfl rfl (fun v5411 hv5411 => ?_)
    obtain ⟨w5412, ew5412⟩ : ∃ w : Int32, I (ad g 4) 1 = w := ⟨_, rfl⟩
    have bw5412 := BT_get hI.1 4 0 5 (0) (0) (1000) (by decide) 1 (by decide) (by decide)
    rw [ew5412] at bw5412
    exact WP_iret dX3_faultOfNumber_28 rfl ⟨⟨hI, rfl, ⟨trivial, rfl, rfl, rfl⟩⟩, _, rfl, by omega, by omega, by (try rw [ew5412]); omega⟩
  · refine WP_iload dX3_faultOfNumber_18 rfl ?_
    refine WP_iload_n dX3_faultOfNumber_20 rfl ?_
    refine WP_callS1 dX3_faultOfNumber_21 ⟨⟨⟨by decide, by decide⟩, zX3_mostOf⟩, lX3_125, tX3_mostOf⟩ (sx_mostOf hy hr hI pa ) (Nat.le_of_ble_eq_true rfl) ?_
    intro r Ia Ja Ra hq
    obtain ⟨⟨ea, eb, ec⟩, v5413, rfl, av5413, bv5413, cv5413⟩ := hq
    show WP _ _ _ _ (.int _ :: _) _ _ _ _
    rw [ea, eb, ec]
    clear ea eb ec Ia Ja Ra
    refine WQ_icmp_le 29 dX3_faultOfNumber_24 rfl (fun c5413 => ?_) (fun c5413 => ?_)
    · refine WP_aload_n dX3_faultOfNumber_29 rfl ?_
      refine WP_getr dX3_faultOfNumber_30 fX3_9 rfl (lyx_is hy 3 3 rfl) (rfx hr 3 3 4 (by decide)) ?_
      refine WP_iload_n dX3_faultOfNumber_33 rfl ?_
      refine WP_iload dX3_faultOfNumber_34 rfl ?_
      refine WQ_iast dX3_faultOfNumber_36 (lyx_is hy 4 13 rfl) (lyx_n hy 4 5 rfl) (by omega) (by omega) (fun I5415 fI5415 => ?_)
      have eI5415 := fI5415
      rw [cl (x := ix) (n := 1) (by omega)] at eI5415
      clear fI5415
      have hI5415 : XI g n L I5415 := by rw [eI5415]; exact (xi_f hy hI (c := 4) (0) (0) (1000) (by decide) (Or.inl (by decide)) (by decide) (by omega) (by omega))
      have e5416 : I5415 (ad g 1) 1 = L := by rw [eI5415, pp_ne _ _ (Or.inl (lyx_ne hy (by decide) (by decide) (by decide)))]; exact e5403
      have e5417 : I5415 (ad g 4) 0 = w5405 := by rw [eI5415, pp_ne _ _ (Or.inr (by decide))]; exact ew5405
      have e5418 : I5415 (ad g 6) 1 = w5406 := by rw [eI5415, pp_ne _ _ (Or.inl (lyx_ne hy (by decide) (by decide) (by decide)))]; exact ew5406
      have e5419 : I5415 (ad g 6) 2 = w5407 := by rw [eI5415, pp_ne _ _ (Or.inl (lyx_ne hy (by decide) (by decide) (by decide)))]; exact ew5407
      have e5420 : I5415 (ad g 1) 4 = v5408 := by rw [eI5415, pp_ne _ _ (Or.inl (lyx_ne hy (by decide) (by decide) (by decide)))]; exact ev5408
      have e5421 : I5415 (ad g 4) 1 = v5408 := by rw [eI5415, pp_self]
      clear eI5415
      refine WP_iload_n dX3_faultOfNumber_37 rfl ?_
      refine WQ_bipush (68) (68) dX3_faultOfNumber_38 rfl rfl (fun v5422 hv5422 => ?_)
      refine WQ_icmp_eq 45 dX3_faultOfNumber_40 rfl (fun c5422 => False.elim (by omega)) (fun c5422 => ?_)
      refine WQ_iconst (0) (0) dX3_faultOfNumber_43 rfl rfl (fun v5424 hv5424 => ?_)
      exact WP_iret dX3_faultOfNumber_44 rfl ⟨⟨hI5415, rfl, ⟨trivial, (by rw [e5417, ew5405] <;> exact (eq32 _ _).mpr (by omega)), (by rw [e5418, ew5406] <;> exact (eq32 _ _).mpr (by omega)), (by rw [e5419, ew5407] <;> exact (eq32 _ _).mpr (by omega))⟩⟩, _, rfl, by omega, by omega, by (try rw [e5421]); omega⟩
    · refine WQ_iconst (2) (2) dX3_faultOfNumber_27 rfl rfl (fun v5425 hv5425 => ?_)
      obtain ⟨w5426, ew5426⟩ : ∃ w : Int32, I (ad g 4) 1 = w := ⟨_, rfl⟩
      have bw5426 := BT_get hI.1 4 0 5 (0) (0) (1000) (by decide) 1 (by decide) (by decide)
      rw [ew5426] at bw5426
      exact WP_iret dX3_faultOfNumber_28 rfl ⟨⟨hI, rfl, ⟨trivial, rfl, rfl, rfl⟩⟩, _, rfl, by omega, by omega, by (try rw [ew5426]); omega⟩
set_option maxHeartbeats 4000000 in
set_option maxRecDepth 100000 in
theorem sx_part_6_2_2 {g : GG} {n : Int} {L : Int32} (hy : LyX g)  {I : pI} {J : pJ} {R : pR} (hr : RfX g R) (hI : XI g n L I) (pa : Int32) (cz : Int32) (ix : Int32) (pa_lo : 71 ≤ pa.toInt) (pa_hi : pa.toInt ≤ 71) (cz_lo : 2 ≤ cz.toInt) (cz_hi : cz.toInt ≤ 2) (ix_lo : 2 ≤ ix.toInt) (ix_hi : ix.toInt ≤ 2) : SP g mX3_faultOfNumber [.ref (ad g 3), .int pa, .int cz, .int ix, .ref (ad g 6)] I J R (fun r I' J' R' => (XI g n L I' ∧ R' = R ∧ True ∧ I' (ad g 4) 0 = I (ad g 4) 0 ∧ I' (ad g 4) 1 = I (ad g 4) 1 ∧ I' (ad g 6) 1 = I (ad g 6) 1 ∧ I' (ad g 6) 2 = I (ad g 6) 2) ∧ ∃ v : Int32, r = some (.int v) ∧ 0 ≤ v.toInt ∧ v.toInt ≤ 5 ∧ (v.toInt = 0 → (I' (ad g 4) 2).toInt ≤ 9)) := by
  refine SP_of ⟨by decide, rfl⟩ (Nat.le_of_ble_eq_true rfl) ?_
  have e5427 : I (ad g 1) 1 = L := hI.2
  have b5428 := BT_get hI.1 1 1 2 (0) (0) (900) (by decide) 1 (by decide) (by decide)
  rw [e5427] at b5428
  obtain ⟨w5429, ew5429⟩ : ∃ w : Int32, I (ad g 4) 0 = w := ⟨_, rfl⟩
  have bw5429 := BT_get hI.1 4 0 5 (0) (0) (1000) (by decide) 0 (by decide) (by decide)
  rw [ew5429] at bw5429
  obtain ⟨w5430, ew5430⟩ : ∃ w : Int32, I (ad g 4) 1 = w := ⟨_, rfl⟩
  have bw5430 := BT_get hI.1 4 0 5 (0) (0) (1000) (by decide) 1 (by decide) (by decide)
  rw [ew5430] at bw5430
  obtain ⟨w5431, ew5431⟩ : ∃ w : Int32, I (ad g 6) 1 = w := ⟨_, rfl⟩
  have bw5431 := BT_get hI.1 6 1 2 (0) (0) (4) (by decide) 1 (by decide) (by decide)
  rw [ew5431] at bw5431
  obtain ⟨w5432, ew5432⟩ : ∃ w : Int32, I (ad g 6) 2 = w := ⟨_, rfl⟩
  have bw5432 := BT_get hI.1 6 2 3 (0) (0) (3) (by decide) 2 (by decide) (by decide)
  rw [ew5432] at bw5432
  refine WP_aload_n dX3_faultOfNumber_0 rfl ?_
  refine WP_getr dX3_faultOfNumber_1 fX3_15 rfl (lyx_is hy 3 3 rfl) (rfx hr 3 2 1 (by decide)) ?_
  refine WQ_getiu dX3_faultOfNumber_4 fX3_118 rfl (lyx_is hy 1 5 rfl) (fun v5433 ev5433 => ?_)
  refine WP_istore (ls' := [(0, _), (1, _), (2, _), (3, _), (4, _), (5, _)]) dX3_faultOfNumber_7 (by decide) rfl ?_
  refine WP_iload dX3_faultOfNumber_9 rfl ?_
  refine WP_iload_n dX3_faultOfNumber_11 rfl ?_
  refine WP_callS1 dX3_faultOfNumber_12 ⟨⟨⟨by decide, by decide⟩, zX3_leastOf⟩, lX3_121, tX3_leastOf⟩ (sx_leastOf hy hr hI pa ) (Nat.le_of_ble_eq_true rfl) ?_
  intro r Ia Ja Ra hq
  obtain ⟨⟨ea, eb, ec⟩, v5434, rfl, av5434, bv5434⟩ := hq
  show WP _ _ _ _ (.int _ :: _) _ _ _ _
  rw [ea, eb, ec]
  clear ea eb ec Ia Ja Ra
  refine WQ_icmp_lt 27 dX3_faultOfNumber_15 rfl (fun c5434 => ?_) (fun c5434 => ?_)
  · refine WQ_iconst (2) (2) dX3_faultOfNumber_27 rfl rfl (fun v5436 hv5436 => ?_)
    obtain ⟨w5437, ew5437⟩ : ∃ w : Int32, I (ad g 4) 2 = w := ⟨_, rfl⟩
    have bw5437 := BT_get hI.1 4 0 5 (0) (0) (1000) (by decide) 2 (by decide) (by decide)
    rw [ew5437] at bw5437
    exact WP_iret dX3_faultOfNumber_28 rfl ⟨⟨hI, rfl, ⟨trivial, rfl, rfl, rfl, rfl⟩⟩, _, rfl, by omega, by omega, by (try rw [ew5437]); omega⟩
  · refine WP_iload dX3_faultOfNumber_18 rfl ?_
    refine WP_iload_n dX3_faultOfNumber_20 rfl ?_
    refine WP_callS1 dX3_faultOfNumber_21 ⟨⟨⟨by decide, by decide⟩, zX3_mostOf⟩, lX3_125, tX3_mostOf⟩ (sx_mostOf hy hr hI pa ) (Nat.le_of_ble_eq_true rfl) ?_
    intro r Ia Ja Ra hq
    obtain ⟨⟨ea, eb, ec⟩, v5438, rfl, av5438, bv5438, cv5438⟩ := hq
    show WP _ _ _ _ (.int _ :: _) _ _ _ _
    rw [ea, eb, ec]
    clear ea eb ec Ia Ja Ra
    refine WQ_icmp_le 29 dX3_faultOfNumber_24 rfl (fun c5438 => ?_) (fun c5438 => ?_)
    · refine WP_aload_n dX3_faultOfNumber_29 rfl ?_
      refine WP_getr dX3_faultOfNumber_30 fX3_9 rfl (lyx_is hy 3 3 rfl) (rfx hr 3 3 4 (by decide)) ?_
      refine WP_iload_n dX3_faultOfNumber_33 rfl ?_
      refine WP_iload dX3_faultOfNumber_34 rfl ?_
      refine WQ_iast dX3_faultOfNumber_36 (lyx_is hy 4 13 rfl) (lyx_n hy 4 5 rfl) (by omega) (by omega) (fun I5440 fI5440 => ?_)
      have eI5440 := fI5440
      rw [cl (x := ix) (n := 2) (by omega)] at eI5440
      clear fI5440
      have hI5440 : XI g n L I5440 := by rw [eI5440]; exact (xi_f hy hI (c := 4) (0) (0) (1000) (by decide) (Or.inl (by decide)) (by decide) (by omega) (by omega))
      have e5441 : I5440 (ad g 1) 1 = L := by rw [eI5440, pp_ne _ _ (Or.inl (lyx_ne hy (by decide) (by decide) (by decide)))]; exact e5427
      have e5442 : I5440 (ad g 4) 0 = w5429 := by rw [eI5440, pp_ne _ _ (Or.inr (by decide))]; exact ew5429
      have e5443 : I5440 (ad g 4) 1 = w5430 := by rw [eI5440, pp_ne _ _ (Or.inr (by decide))]; exact ew5430
      have e5444 : I5440 (ad g 6) 1 = w5431 := by rw [eI5440, pp_ne _ _ (Or.inl (lyx_ne hy (by decide) (by decide) (by decide)))]; exact ew5431
      have e5445 : I5440 (ad g 6) 2 = w5432 := by rw [eI5440, pp_ne _ _ (Or.inl (lyx_ne hy (by decide) (by decide) (by decide)))]; exact ew5432
      have e5446 : I5440 (ad g 1) 4 = v5433 := by rw [eI5440, pp_ne _ _ (Or.inl (lyx_ne hy (by decide) (by decide) (by decide)))]; exact ev5433
      have e5447 : I5440 (ad g 4) 2 = v5433 := by rw [eI5440, pp_self]
      clear eI5440
      refine WP_iload_n dX3_faultOfNumber_37 rfl ?_
      refine WQ_bipush (68) (68) dX3_faultOfNumber_38 rfl rfl (fun v5448 hv5448 => ?_)
      refine WQ_icmp_eq 45 dX3_faultOfNumber_40 rfl (fun c5448 => False.elim (by omega)) (fun c5448 => ?_)
      refine WQ_iconst (0) (0) dX3_faultOfNumber_43 rfl rfl (fun v5450 hv5450 => ?_)
      exact WP_iret dX3_faultOfNumber_44 rfl ⟨⟨hI5440, rfl, ⟨trivial, (by rw [e5442, ew5429] <;> exact (eq32 _ _).mpr (by omega)), (by rw [e5443, ew5430] <;> exact (eq32 _ _).mpr (by omega)), (by rw [e5444, ew5431] <;> exact (eq32 _ _).mpr (by omega)), (by rw [e5445, ew5432] <;> exact (eq32 _ _).mpr (by omega))⟩⟩, _, rfl, by omega, by omega, by (try rw [e5447]); omega⟩
    · refine WQ_iconst (2) (2) dX3_faultOfNumber_27 rfl rfl (fun v5451 hv5451 => ?_)
      obtain ⟨w5452, ew5452⟩ : ∃ w : Int32, I (ad g 4) 2 = w := ⟨_, rfl⟩
      have bw5452 := BT_get hI.1 4 0 5 (0) (0) (1000) (by decide) 2 (by decide) (by decide)
      rw [ew5452] at bw5452
      exact WP_iret dX3_faultOfNumber_28 rfl ⟨⟨hI, rfl, ⟨trivial, rfl, rfl, rfl, rfl⟩⟩, _, rfl, by omega, by omega, by (try rw [ew5452]); omega⟩
set_option maxHeartbeats 4000000 in
set_option maxRecDepth 100000 in
theorem sx_part_6_3_0 {g : GG} {n : Int} {L : Int32} (hy : LyX g)  {I : pI} {J : pJ} {R : pR} (hr : RfX g R) (hI : XI g n L I) (pa : Int32) (cz : Int32) (ix : Int32) (pa_lo : 115 ≤ pa.toInt) (pa_hi : pa.toInt ≤ 115) (cz_lo : 3 ≤ cz.toInt) (cz_hi : cz.toInt ≤ 3) (ix_lo : 0 ≤ ix.toInt) (ix_hi : ix.toInt ≤ 0) : SP g mX3_faultOfName [.ref (ad g 3), .int pa, .int cz, .int ix, .ref (ad g 6)] I J R (fun r I' J' R' => (XI g n L I' ∧ R' = R ∧ True ∧ I' (ad g 6) 1 = I (ad g 6) 1 ∧ I' (ad g 6) 2 = I (ad g 6) 2) ∧ ∃ v : Int32, r = some (.int v) ∧ 0 ≤ v.toInt ∧ v.toInt ≤ 5 ∧ (v.toInt = 0 → (I' (ad g 4) 0).toInt ≤ 3)) := by
  refine SP_of ⟨by decide, rfl⟩ (Nat.le_of_ble_eq_true rfl) ?_
  have e5453 : I (ad g 1) 1 = L := hI.2
  have b5454 := BT_get hI.1 1 1 2 (0) (0) (900) (by decide) 1 (by decide) (by decide)
  rw [e5453] at b5454
  obtain ⟨w5455, ew5455⟩ : ∃ w : Int32, I (ad g 6) 1 = w := ⟨_, rfl⟩
  have bw5455 := BT_get hI.1 6 1 2 (0) (0) (4) (by decide) 1 (by decide) (by decide)
  rw [ew5455] at bw5455
  obtain ⟨w5456, ew5456⟩ : ∃ w : Int32, I (ad g 6) 2 = w := ⟨_, rfl⟩
  have bw5456 := BT_get hI.1 6 2 3 (0) (0) (3) (by decide) 2 (by decide) (by decide)
  rw [ew5456] at bw5456
  refine WP_iload_n dX3_faultOfName_0 rfl ?_
  refine WQ_bipush (115) (115) dX3_faultOfName_1 rfl rfl (fun v5457 hv5457 => ?_)
  refine WQ_icmp_eq 12 dX3_faultOfName_3 rfl (fun c5457 => ?_) (fun c5457 => False.elim (by omega))
  refine WQ_iconst (1) (1) dX3_faultOfName_12 rfl rfl (fun v5459 hv5459 => ?_)
  refine WP_goto 17 dX3_faultOfName_13 rfl ?_
  refine WP_istore (ls' := [(0, _), (1, _), (2, _), (3, _), (4, _), (5, _)]) dX3_faultOfName_17 (by decide) rfl ?_
  refine WP_iload dX3_faultOfName_19 rfl ?_
  refine WQ_if_eq 39 dX3_faultOfName_21 rfl (fun c5459 => False.elim (by omega)) (fun c5459 => ?_)
  refine WP_aload dX3_faultOfName_24 rfl ?_
  refine WP_aload_n dX3_faultOfName_26 rfl ?_
  refine WP_getr dX3_faultOfName_27 fX3_15 rfl (lyx_is hy 3 3 rfl) (rfx hr 3 2 1 (by decide)) ?_
  refine WQ_getl dX3_faultOfName_30 fX3_80 rfl (lyx_is hy 1 5 rfl) (fun l5461 el5461 => ?_)
  refine WP_callV1 (k := 7) dX3_faultOfName_33 ⟨⟨⟨by decide, by decide⟩, zX7_sortNamed⟩, lX3_103, by decide, rfl, vX7_sortNamed.1, vX7_sortNamed.2⟩ (lyx_is hy 6 7 rfl) (sx_sortNamed_6 hy hr hI l5461 ) (Nat.le_of_ble_eq_true rfl) ?_
  intro r Ia Ja Ra hq
  obtain ⟨⟨ea, eb, ec⟩, v5462, rfl, av5462, bv5462⟩ := hq
  show WP _ _ _ _ (.int _ :: _) _ _ _ _
  rw [ea, eb, ec]
  clear ea eb ec Ia Ja Ra
  refine WP_goto 51 dX3_faultOfName_36 rfl ?_
  refine WP_istore (ls' := [(0, _), (1, _), (2, _), (3, _), (4, _), (5, _), (6, _)]) dX3_faultOfName_51 (by decide) rfl ?_
  refine WP_iload_n dX3_faultOfName_53 rfl ?_
  refine WQ_bipush (110) (110) dX3_faultOfName_54 rfl rfl (fun v5463 hv5463 => ?_)
  refine WQ_icmp_eq 65 dX3_faultOfName_56 rfl (fun c5463 => False.elim (by omega)) (fun c5463 => ?_)
  refine WP_iload_n dX3_faultOfName_59 rfl ?_
  refine WQ_bipush (109) (109) dX3_faultOfName_60 rfl rfl (fun v5465 hv5465 => ?_)
  refine WQ_icmp_ne 98 dX3_faultOfName_62 rfl (fun c5465 => ?_) (fun c5465 => False.elim (by omega))
  refine WP_iload dX3_faultOfName_98 rfl ?_
  refine WQ_iconst (-1) (-1) dX3_faultOfName_100 rfl rfl (fun v5467 hv5467 => ?_)
  refine WQ_icmp_ne 106 dX3_faultOfName_101 rfl (fun c5467 => ?_) (fun c5467 => ?_)
  · refine WP_aload_n dX3_faultOfName_106 rfl ?_
    refine WP_getr dX3_faultOfName_107 fX3_9 rfl (lyx_is hy 3 3 rfl) (rfx hr 3 3 4 (by decide)) ?_
    refine WP_iload_n dX3_faultOfName_110 rfl ?_
    refine WP_iload dX3_faultOfName_111 rfl ?_
    refine WQ_iast dX3_faultOfName_113 (lyx_is hy 4 13 rfl) (lyx_n hy 4 5 rfl) (by omega) (by omega) (fun I5469 fI5469 => ?_)
    have eI5469 := fI5469
    rw [cl (x := ix) (n := 0) (by omega)] at eI5469
    clear fI5469
    have hI5469 : XI g n L I5469 := by rw [eI5469]; exact (xi_f hy hI (c := 4) (0) (0) (1000) (by decide) (Or.inl (by decide)) (by decide) (by omega) (by omega))
    have e5470 : I5469 (ad g 1) 1 = L := by rw [eI5469, pp_ne _ _ (Or.inl (lyx_ne hy (by decide) (by decide) (by decide)))]; exact e5453
    have e5471 : I5469 (ad g 6) 1 = w5455 := by rw [eI5469, pp_ne _ _ (Or.inl (lyx_ne hy (by decide) (by decide) (by decide)))]; exact ew5455
    have e5472 : I5469 (ad g 6) 2 = w5456 := by rw [eI5469, pp_ne _ _ (Or.inl (lyx_ne hy (by decide) (by decide) (by decide)))]; exact ew5456
    have e5473 : I5469 (ad g 4) 0 = v5462 := by rw [eI5469, pp_self]
    clear eI5469
    refine WP_iload_n dX3_faultOfName_114 rfl ?_
    refine WQ_bipush (7) (7) dX3_faultOfName_115 rfl rfl (fun v5474 hv5474 => ?_)
    refine WQ_icmp_ne 137 dX3_faultOfName_117 rfl (fun c5474 => ?_) (fun c5474 => False.elim (by omega))
    refine WQ_iconst (0) (0) dX3_faultOfName_137 rfl rfl (fun v5476 hv5476 => ?_)
    exact WP_iret dX3_faultOfName_138 rfl ⟨⟨hI5469, rfl, ⟨trivial, (by rw [e5471, ew5455] <;> exact (eq32 _ _).mpr (by omega)), (by rw [e5472, ew5456] <;> exact (eq32 _ _).mpr (by omega))⟩⟩, _, rfl, by omega, by omega, by (try rw [e5473]); omega⟩
  · refine WQ_iconst (5) (5) dX3_faultOfName_104 rfl rfl (fun v5477 hv5477 => ?_)
    obtain ⟨w5478, ew5478⟩ : ∃ w : Int32, I (ad g 4) 0 = w := ⟨_, rfl⟩
    have bw5478 := BT_get hI.1 4 0 5 (0) (0) (1000) (by decide) 0 (by decide) (by decide)
    rw [ew5478] at bw5478
    exact WP_iret dX3_faultOfName_105 rfl ⟨⟨hI, rfl, ⟨trivial, rfl, rfl⟩⟩, _, rfl, by omega, by omega, by (try rw [ew5478]); omega⟩
set_option maxHeartbeats 4000000 in
set_option maxRecDepth 100000 in
theorem sx_part_6_3_1 {g : GG} {n : Int} {L : Int32} (hy : LyX g)  {I : pI} {J : pJ} {R : pR} (hr : RfX g R) (hI : XI g n L I) (pa : Int32) (cz : Int32) (ix : Int32) (pa_lo : 68 ≤ pa.toInt) (pa_hi : pa.toInt ≤ 68) (cz_lo : 3 ≤ cz.toInt) (cz_hi : cz.toInt ≤ 3) (ix_lo : 1 ≤ ix.toInt) (ix_hi : ix.toInt ≤ 1) (hb : (I (ad g 4) 0).toInt ≤ 3) : SP g mX3_faultOfNumber [.ref (ad g 3), .int pa, .int cz, .int ix, .ref (ad g 6)] I J R (fun r I' J' R' => (XI g n L I' ∧ R' = R ∧ True ∧ I' (ad g 4) 0 = I (ad g 4) 0 ∧ I' (ad g 6) 1 = I (ad g 6) 1 ∧ I' (ad g 6) 2 = I (ad g 6) 2) ∧ ∃ v : Int32, r = some (.int v) ∧ 0 ≤ v.toInt ∧ v.toInt ≤ 5 ∧ (v.toInt = 0 → (I' (ad g 4) 1).toInt ≤ 6)) := by
  refine SP_of ⟨by decide, rfl⟩ (Nat.le_of_ble_eq_true rfl) ?_
  have e5479 : I (ad g 1) 1 = L := hI.2
  have b5480 := BT_get hI.1 1 1 2 (0) (0) (900) (by decide) 1 (by decide) (by decide)
  rw [e5479] at b5480
  obtain ⟨w5481, ew5481⟩ : ∃ w : Int32, I (ad g 4) 0 = w := ⟨_, rfl⟩
  have bw5481 := BT_get hI.1 4 0 5 (0) (0) (1000) (by decide) 0 (by decide) (by decide)
  rw [ew5481] at bw5481
  obtain ⟨w5482, ew5482⟩ : ∃ w : Int32, I (ad g 6) 1 = w := ⟨_, rfl⟩
  have bw5482 := BT_get hI.1 6 1 2 (0) (0) (4) (by decide) 1 (by decide) (by decide)
  rw [ew5482] at bw5482
  obtain ⟨w5483, ew5483⟩ : ∃ w : Int32, I (ad g 6) 2 = w := ⟨_, rfl⟩
  have bw5483 := BT_get hI.1 6 2 3 (0) (0) (3) (by decide) 2 (by decide) (by decide)
  rw [ew5483] at bw5483
  rw [ew5481] at hb
  refine WP_aload_n dX3_faultOfNumber_0 rfl ?_
  refine WP_getr dX3_faultOfNumber_1 fX3_15 rfl (lyx_is hy 3 3 rfl) (rfx hr 3 2 1 (by decide)) ?_
  refine WQ_getiu dX3_faultOfNumber_4 fX3_118 rfl (lyx_is hy 1 5 rfl) (fun v5484 ev5484 => ?_)
  refine WP_istore (ls' := [(0, _), (1, _), (2, _), (3, _), (4, _), (5, _)]) dX3_faultOfNumber_7 (by decide) rfl ?_
  refine WP_iload dX3_faultOfNumber_9 rfl ?_
  refine WP_iload_n dX3_faultOfNumber_11 rfl ?_
  refine WP_callS1 dX3_faultOfNumber_12 ⟨⟨⟨by decide, by decide⟩, zX3_leastOf⟩, lX3_121, tX3_leastOf⟩ (sx_leastOf hy hr hI pa ) (Nat.le_of_ble_eq_true rfl) ?_
  intro r Ia Ja Ra hq
  obtain ⟨⟨ea, eb, ec⟩, v5485, rfl, av5485, bv5485⟩ := hq
  show WP _ _ _ _ (.int _ :: _) _ _ _ _
  rw [ea, eb, ec]
  clear ea eb ec Ia Ja Ra
  refine WQ_icmp_lt 27 dX3_faultOfNumber_15 rfl (fun c5485 => ?_) (fun c5485 => ?_)
  · refine WQ_iconst (2) (2) dX3_faultOfNumber_27 rfl rfl (fun v5487 hv5487 => ?_)
    obtain ⟨w5488, ew5488⟩ : ∃ w : Int32, I (ad g 4) 1 = w := ⟨_, rfl⟩
    have bw5488 := BT_get hI.1 4 0 5 (0) (0) (1000) (by decide) 1 (by decide) (by decide)
    rw [ew5488] at bw5488
    exact WP_iret dX3_faultOfNumber_28 rfl ⟨⟨hI, rfl, ⟨trivial, rfl, rfl, rfl⟩⟩, _, rfl, by omega, by omega, by (try rw [ew5488]); omega⟩
  · refine WP_iload dX3_faultOfNumber_18 rfl ?_
    refine WP_iload_n dX3_faultOfNumber_20 rfl ?_
    refine WP_callS1 dX3_faultOfNumber_21 ⟨⟨⟨by decide, by decide⟩, zX3_mostOf⟩, lX3_125, tX3_mostOf⟩ (sx_mostOf hy hr hI pa ) (Nat.le_of_ble_eq_true rfl) ?_
    intro r Ia Ja Ra hq
    obtain ⟨⟨ea, eb, ec⟩, v5489, rfl, av5489, bv5489, cv5489⟩ := hq
    show WP _ _ _ _ (.int _ :: _) _ _ _ _
    rw [ea, eb, ec]
    clear ea eb ec Ia Ja Ra
    refine WQ_icmp_le 29 dX3_faultOfNumber_24 rfl (fun c5489 => ?_) (fun c5489 => ?_)
    · refine WP_aload_n dX3_faultOfNumber_29 rfl ?_
      refine WP_getr dX3_faultOfNumber_30 fX3_9 rfl (lyx_is hy 3 3 rfl) (rfx hr 3 3 4 (by decide)) ?_
      refine WP_iload_n dX3_faultOfNumber_33 rfl ?_
      refine WP_iload dX3_faultOfNumber_34 rfl ?_
      refine WQ_iast dX3_faultOfNumber_36 (lyx_is hy 4 13 rfl) (lyx_n hy 4 5 rfl) (by omega) (by omega) (fun I5491 fI5491 => ?_)
      have eI5491 := fI5491
      rw [cl (x := ix) (n := 1) (by omega)] at eI5491
      clear fI5491
      have hI5491 : XI g n L I5491 := by rw [eI5491]; exact (xi_f hy hI (c := 4) (0) (0) (1000) (by decide) (Or.inl (by decide)) (by decide) (by omega) (by omega))
      have e5492 : I5491 (ad g 1) 1 = L := by rw [eI5491, pp_ne _ _ (Or.inl (lyx_ne hy (by decide) (by decide) (by decide)))]; exact e5479
      have e5493 : I5491 (ad g 4) 0 = w5481 := by rw [eI5491, pp_ne _ _ (Or.inr (by decide))]; exact ew5481
      have e5494 : I5491 (ad g 6) 1 = w5482 := by rw [eI5491, pp_ne _ _ (Or.inl (lyx_ne hy (by decide) (by decide) (by decide)))]; exact ew5482
      have e5495 : I5491 (ad g 6) 2 = w5483 := by rw [eI5491, pp_ne _ _ (Or.inl (lyx_ne hy (by decide) (by decide) (by decide)))]; exact ew5483
      have e5496 : I5491 (ad g 1) 4 = v5484 := by rw [eI5491, pp_ne _ _ (Or.inl (lyx_ne hy (by decide) (by decide) (by decide)))]; exact ev5484
      have e5497 : I5491 (ad g 4) 1 = v5484 := by rw [eI5491, pp_self]
      clear eI5491
      refine WP_iload_n dX3_faultOfNumber_37 rfl ?_
      refine WQ_bipush (68) (68) dX3_faultOfNumber_38 rfl rfl (fun v5498 hv5498 => ?_)
      refine WQ_icmp_eq 45 dX3_faultOfNumber_40 rfl (fun c5498 => ?_) (fun c5498 => False.elim (by omega))
      refine WP_aload dX3_faultOfNumber_45 rfl ?_
      refine WP_iload_n dX3_faultOfNumber_47 rfl ?_
      refine WP_iload_n dX3_faultOfNumber_48 rfl ?_
      refine WQ_if_ne 56 dX3_faultOfNumber_49 rfl (fun c5499 => ?_) (fun c5499 => False.elim (by omega))
      refine WP_aload_n dX3_faultOfNumber_56 rfl ?_
      refine WP_getr dX3_faultOfNumber_57 fX3_9 rfl (lyx_is hy 3 3 rfl) (rfx hr 3 3 4 (by decide)) ?_
      refine WQ_iconst (0) (0) dX3_faultOfNumber_60 rfl rfl (fun v5501 hv5501 => ?_)
      refine WQ_ialdm (z := 0) dX3_faultOfNumber_61 (lyx_is hy 4 13 rfl) (lyx_n hy 4 5 rfl) hv5501 (by decide) e5493 ?_
      refine WP_iload dX3_faultOfNumber_62 rfl ?_
      refine WP_callV3 (k := 7) dX3_faultOfNumber_64 ⟨⟨⟨by decide, by decide⟩, zX7_isTold⟩, lX3_114, by decide, rfl, vX7_isTold.1, vX7_isTold.2⟩ (lyx_is hy 6 7 rfl) (sx_isTold_6 hy hr hI5491 cz w5481 v5484 (by omega) (by omega) (by omega) (by omega) ) (Nat.le_of_ble_eq_true rfl) ?_
      intro r Ia Ja Ra hq
      obtain ⟨⟨ea, eb, ec⟩, v5503, rfl, av5503, bv5503⟩ := hq
      show WP _ _ _ _ (.int _ :: _) _ _ _ _
      rw [ea, eb, ec]
      clear ea eb ec Ia Ja Ra
      refine WQ_if_eq 74 dX3_faultOfNumber_67 rfl (fun c5503 => ?_) (fun c5503 => ?_)
      · refine WQ_iconst (0) (0) dX3_faultOfNumber_74 rfl rfl (fun v5505 hv5505 => ?_)
        exact WP_iret dX3_faultOfNumber_75 rfl ⟨⟨hI5491, rfl, ⟨trivial, (by rw [e5493, ew5481] <;> exact (eq32 _ _).mpr (by omega)), (by rw [e5494, ew5482] <;> exact (eq32 _ _).mpr (by omega)), (by rw [e5495, ew5483] <;> exact (eq32 _ _).mpr (by omega))⟩⟩, _, rfl, by omega, by omega, by (try rw [e5497]); omega⟩
      · refine WQ_iconst (3) (3) dX3_faultOfNumber_70 rfl rfl (fun v5506 hv5506 => ?_)
        refine WP_goto 75 dX3_faultOfNumber_71 rfl ?_
        exact WP_iret dX3_faultOfNumber_75 rfl ⟨⟨hI5491, rfl, ⟨trivial, (by rw [e5493, ew5481] <;> exact (eq32 _ _).mpr (by omega)), (by rw [e5494, ew5482] <;> exact (eq32 _ _).mpr (by omega)), (by rw [e5495, ew5483] <;> exact (eq32 _ _).mpr (by omega))⟩⟩, _, rfl, by omega, by omega, by (try rw [e5497]); omega⟩
    · refine WQ_iconst (2) (2) dX3_faultOfNumber_27 rfl rfl (fun v5507 hv5507 => ?_)
      obtain ⟨w5508, ew5508⟩ : ∃ w : Int32, I (ad g 4) 1 = w := ⟨_, rfl⟩
      have bw5508 := BT_get hI.1 4 0 5 (0) (0) (1000) (by decide) 1 (by decide) (by decide)
      rw [ew5508] at bw5508
      exact WP_iret dX3_faultOfNumber_28 rfl ⟨⟨hI, rfl, ⟨trivial, rfl, rfl, rfl⟩⟩, _, rfl, by omega, by omega, by (try rw [ew5508]); omega⟩
set_option maxHeartbeats 4000000 in
set_option maxRecDepth 100000 in
theorem sx_part_6_3_2 {g : GG} {n : Int} {L : Int32} (hy : LyX g)  {I : pI} {J : pJ} {R : pR} (hr : RfX g R) (hI : XI g n L I) (pa : Int32) (cz : Int32) (ix : Int32) (pa_lo : 69 ≤ pa.toInt) (pa_hi : pa.toInt ≤ 69) (cz_lo : 3 ≤ cz.toInt) (cz_hi : cz.toInt ≤ 3) (ix_lo : 2 ≤ ix.toInt) (ix_hi : ix.toInt ≤ 2) : SP g mX3_faultOfNumber [.ref (ad g 3), .int pa, .int cz, .int ix, .ref (ad g 6)] I J R (fun r I' J' R' => (XI g n L I' ∧ R' = R ∧ True ∧ I' (ad g 4) 0 = I (ad g 4) 0 ∧ I' (ad g 4) 1 = I (ad g 4) 1 ∧ I' (ad g 6) 1 = I (ad g 6) 1 ∧ I' (ad g 6) 2 = I (ad g 6) 2) ∧ ∃ v : Int32, r = some (.int v) ∧ 0 ≤ v.toInt ∧ v.toInt ≤ 5 ∧ (v.toInt = 0 → (I' (ad g 4) 2).toInt ≤ 20)) := by
  refine SP_of ⟨by decide, rfl⟩ (Nat.le_of_ble_eq_true rfl) ?_
  have e5509 : I (ad g 1) 1 = L := hI.2
  have b5510 := BT_get hI.1 1 1 2 (0) (0) (900) (by decide) 1 (by decide) (by decide)
  rw [e5509] at b5510
  obtain ⟨w5511, ew5511⟩ : ∃ w : Int32, I (ad g 4) 0 = w := ⟨_, rfl⟩
  have bw5511 := BT_get hI.1 4 0 5 (0) (0) (1000) (by decide) 0 (by decide) (by decide)
  rw [ew5511] at bw5511
  obtain ⟨w5512, ew5512⟩ : ∃ w : Int32, I (ad g 4) 1 = w := ⟨_, rfl⟩
  have bw5512 := BT_get hI.1 4 0 5 (0) (0) (1000) (by decide) 1 (by decide) (by decide)
  rw [ew5512] at bw5512
  obtain ⟨w5513, ew5513⟩ : ∃ w : Int32, I (ad g 6) 1 = w := ⟨_, rfl⟩
  have bw5513 := BT_get hI.1 6 1 2 (0) (0) (4) (by decide) 1 (by decide) (by decide)
  rw [ew5513] at bw5513
  obtain ⟨w5514, ew5514⟩ : ∃ w : Int32, I (ad g 6) 2 = w := ⟨_, rfl⟩
  have bw5514 := BT_get hI.1 6 2 3 (0) (0) (3) (by decide) 2 (by decide) (by decide)
  rw [ew5514] at bw5514
  refine WP_aload_n dX3_faultOfNumber_0 rfl ?_
  refine WP_getr dX3_faultOfNumber_1 fX3_15 rfl (lyx_is hy 3 3 rfl) (rfx hr 3 2 1 (by decide)) ?_
  refine WQ_getiu dX3_faultOfNumber_4 fX3_118 rfl (lyx_is hy 1 5 rfl) (fun v5515 ev5515 => ?_)
  refine WP_istore (ls' := [(0, _), (1, _), (2, _), (3, _), (4, _), (5, _)]) dX3_faultOfNumber_7 (by decide) rfl ?_
  refine WP_iload dX3_faultOfNumber_9 rfl ?_
  refine WP_iload_n dX3_faultOfNumber_11 rfl ?_
  refine WP_callS1 dX3_faultOfNumber_12 ⟨⟨⟨by decide, by decide⟩, zX3_leastOf⟩, lX3_121, tX3_leastOf⟩ (sx_leastOf hy hr hI pa ) (Nat.le_of_ble_eq_true rfl) ?_
  intro r Ia Ja Ra hq
  obtain ⟨⟨ea, eb, ec⟩, v5516, rfl, av5516, bv5516⟩ := hq
  show WP _ _ _ _ (.int _ :: _) _ _ _ _
  rw [ea, eb, ec]
  clear ea eb ec Ia Ja Ra
  refine WQ_icmp_lt 27 dX3_faultOfNumber_15 rfl (fun c5516 => ?_) (fun c5516 => ?_)
  · refine WQ_iconst (2) (2) dX3_faultOfNumber_27 rfl rfl (fun v5518 hv5518 => ?_)
    obtain ⟨w5519, ew5519⟩ : ∃ w : Int32, I (ad g 4) 2 = w := ⟨_, rfl⟩
    have bw5519 := BT_get hI.1 4 0 5 (0) (0) (1000) (by decide) 2 (by decide) (by decide)
    rw [ew5519] at bw5519
    exact WP_iret dX3_faultOfNumber_28 rfl ⟨⟨hI, rfl, ⟨trivial, rfl, rfl, rfl, rfl⟩⟩, _, rfl, by omega, by omega, by (try rw [ew5519]); omega⟩
  · refine WP_iload dX3_faultOfNumber_18 rfl ?_
    refine WP_iload_n dX3_faultOfNumber_20 rfl ?_
    refine WP_callS1 dX3_faultOfNumber_21 ⟨⟨⟨by decide, by decide⟩, zX3_mostOf⟩, lX3_125, tX3_mostOf⟩ (sx_mostOf hy hr hI pa ) (Nat.le_of_ble_eq_true rfl) ?_
    intro r Ia Ja Ra hq
    obtain ⟨⟨ea, eb, ec⟩, v5520, rfl, av5520, bv5520, cv5520⟩ := hq
    show WP _ _ _ _ (.int _ :: _) _ _ _ _
    rw [ea, eb, ec]
    clear ea eb ec Ia Ja Ra
    refine WQ_icmp_le 29 dX3_faultOfNumber_24 rfl (fun c5520 => ?_) (fun c5520 => ?_)
    · refine WP_aload_n dX3_faultOfNumber_29 rfl ?_
      refine WP_getr dX3_faultOfNumber_30 fX3_9 rfl (lyx_is hy 3 3 rfl) (rfx hr 3 3 4 (by decide)) ?_
      refine WP_iload_n dX3_faultOfNumber_33 rfl ?_
      refine WP_iload dX3_faultOfNumber_34 rfl ?_
      refine WQ_iast dX3_faultOfNumber_36 (lyx_is hy 4 13 rfl) (lyx_n hy 4 5 rfl) (by omega) (by omega) (fun I5522 fI5522 => ?_)
      have eI5522 := fI5522
      rw [cl (x := ix) (n := 2) (by omega)] at eI5522
      clear fI5522
      have hI5522 : XI g n L I5522 := by rw [eI5522]; exact (xi_f hy hI (c := 4) (0) (0) (1000) (by decide) (Or.inl (by decide)) (by decide) (by omega) (by omega))
      have e5523 : I5522 (ad g 1) 1 = L := by rw [eI5522, pp_ne _ _ (Or.inl (lyx_ne hy (by decide) (by decide) (by decide)))]; exact e5509
      have e5524 : I5522 (ad g 4) 0 = w5511 := by rw [eI5522, pp_ne _ _ (Or.inr (by decide))]; exact ew5511
      have e5525 : I5522 (ad g 4) 1 = w5512 := by rw [eI5522, pp_ne _ _ (Or.inr (by decide))]; exact ew5512
      have e5526 : I5522 (ad g 6) 1 = w5513 := by rw [eI5522, pp_ne _ _ (Or.inl (lyx_ne hy (by decide) (by decide) (by decide)))]; exact ew5513
      have e5527 : I5522 (ad g 6) 2 = w5514 := by rw [eI5522, pp_ne _ _ (Or.inl (lyx_ne hy (by decide) (by decide) (by decide)))]; exact ew5514
      have e5528 : I5522 (ad g 1) 4 = v5515 := by rw [eI5522, pp_ne _ _ (Or.inl (lyx_ne hy (by decide) (by decide) (by decide)))]; exact ev5515
      have e5529 : I5522 (ad g 4) 2 = v5515 := by rw [eI5522, pp_self]
      clear eI5522
      refine WP_iload_n dX3_faultOfNumber_37 rfl ?_
      refine WQ_bipush (68) (68) dX3_faultOfNumber_38 rfl rfl (fun v5530 hv5530 => ?_)
      refine WQ_icmp_eq 45 dX3_faultOfNumber_40 rfl (fun c5530 => False.elim (by omega)) (fun c5530 => ?_)
      refine WQ_iconst (0) (0) dX3_faultOfNumber_43 rfl rfl (fun v5532 hv5532 => ?_)
      exact WP_iret dX3_faultOfNumber_44 rfl ⟨⟨hI5522, rfl, ⟨trivial, (by rw [e5524, ew5511] <;> exact (eq32 _ _).mpr (by omega)), (by rw [e5525, ew5512] <;> exact (eq32 _ _).mpr (by omega)), (by rw [e5526, ew5513] <;> exact (eq32 _ _).mpr (by omega)), (by rw [e5527, ew5514] <;> exact (eq32 _ _).mpr (by omega))⟩⟩, _, rfl, by omega, by omega, by (try rw [e5529]); omega⟩
    · refine WQ_iconst (2) (2) dX3_faultOfNumber_27 rfl rfl (fun v5533 hv5533 => ?_)
      obtain ⟨w5534, ew5534⟩ : ∃ w : Int32, I (ad g 4) 2 = w := ⟨_, rfl⟩
      have bw5534 := BT_get hI.1 4 0 5 (0) (0) (1000) (by decide) 2 (by decide) (by decide)
      rw [ew5534] at bw5534
      exact WP_iret dX3_faultOfNumber_28 rfl ⟨⟨hI, rfl, ⟨trivial, rfl, rfl, rfl, rfl⟩⟩, _, rfl, by omega, by omega, by (try rw [ew5534]); omega⟩
set_option maxHeartbeats 4000000 in
set_option maxRecDepth 100000 in
theorem sx_part_6_4_0 {g : GG} {n : Int} {L : Int32} (hy : LyX g)  {I : pI} {J : pJ} {R : pR} (hr : RfX g R) (hI : XI g n L I) (pa : Int32) (cz : Int32) (ix : Int32) (pa_lo : 116 ≤ pa.toInt) (pa_hi : pa.toInt ≤ 116) (cz_lo : 4 ≤ cz.toInt) (cz_hi : cz.toInt ≤ 4) (ix_lo : 0 ≤ ix.toInt) (ix_hi : ix.toInt ≤ 0) : SP g mX3_faultOfName [.ref (ad g 3), .int pa, .int cz, .int ix, .ref (ad g 6)] I J R (fun r I' J' R' => (XI g n L I' ∧ R' = R ∧ True ∧ I' (ad g 6) 1 = I (ad g 6) 1 ∧ I' (ad g 6) 2 = I (ad g 6) 2) ∧ ∃ v : Int32, r = some (.int v) ∧ 0 ≤ v.toInt ∧ v.toInt ≤ 5 ∧ (v.toInt = 0 → (I' (ad g 4) 0).toInt ≤ 2)) := by
  refine SP_of ⟨by decide, rfl⟩ (Nat.le_of_ble_eq_true rfl) ?_
  have e5535 : I (ad g 1) 1 = L := hI.2
  have b5536 := BT_get hI.1 1 1 2 (0) (0) (900) (by decide) 1 (by decide) (by decide)
  rw [e5535] at b5536
  obtain ⟨w5537, ew5537⟩ : ∃ w : Int32, I (ad g 6) 1 = w := ⟨_, rfl⟩
  have bw5537 := BT_get hI.1 6 1 2 (0) (0) (4) (by decide) 1 (by decide) (by decide)
  rw [ew5537] at bw5537
  obtain ⟨w5538, ew5538⟩ : ∃ w : Int32, I (ad g 6) 2 = w := ⟨_, rfl⟩
  have bw5538 := BT_get hI.1 6 2 3 (0) (0) (3) (by decide) 2 (by decide) (by decide)
  rw [ew5538] at bw5538
  refine WP_iload_n dX3_faultOfName_0 rfl ?_
  refine WQ_bipush (115) (115) dX3_faultOfName_1 rfl rfl (fun v5539 hv5539 => ?_)
  refine WQ_icmp_eq 12 dX3_faultOfName_3 rfl (fun c5539 => False.elim (by omega)) (fun c5539 => ?_)
  refine WP_iload_n dX3_faultOfName_6 rfl ?_
  refine WQ_bipush (110) (110) dX3_faultOfName_7 rfl rfl (fun v5541 hv5541 => ?_)
  refine WQ_icmp_ne 16 dX3_faultOfName_9 rfl (fun c5541 => ?_) (fun c5541 => False.elim (by omega))
  refine WQ_iconst (0) (0) dX3_faultOfName_16 rfl rfl (fun v5543 hv5543 => ?_)
  refine WP_istore (ls' := [(0, _), (1, _), (2, _), (3, _), (4, _), (5, _)]) dX3_faultOfName_17 (by decide) rfl ?_
  refine WP_iload dX3_faultOfName_19 rfl ?_
  refine WQ_if_eq 39 dX3_faultOfName_21 rfl (fun c5543 => ?_) (fun c5543 => False.elim (by omega))
  refine WP_aload dX3_faultOfName_39 rfl ?_
  refine WP_aload_n dX3_faultOfName_41 rfl ?_
  refine WP_getr dX3_faultOfName_42 fX3_15 rfl (lyx_is hy 3 3 rfl) (rfx hr 3 2 1 (by decide)) ?_
  refine WQ_getl dX3_faultOfName_45 fX3_80 rfl (lyx_is hy 1 5 rfl) (fun l5545 el5545 => ?_)
  refine WP_callV1 (k := 7) dX3_faultOfName_48 ⟨⟨⟨by decide, by decide⟩, zX7_thingNamed⟩, lX3_107, by decide, rfl, vX7_thingNamed.1, vX7_thingNamed.2⟩ (lyx_is hy 6 7 rfl) (sx_thingNamed_6 hy hr hI l5545 ) (Nat.le_of_ble_eq_true rfl) ?_
  intro r Ia Ja Ra hq
  obtain ⟨⟨ea, eb, ec⟩, v5546, rfl, av5546, bv5546⟩ := hq
  show WP _ _ _ _ (.int _ :: _) _ _ _ _
  rw [ea, eb, ec]
  clear ea eb ec Ia Ja Ra
  refine WP_istore (ls' := [(0, _), (1, _), (2, _), (3, _), (4, _), (5, _), (6, _)]) dX3_faultOfName_51 (by decide) rfl ?_
  refine WP_iload_n dX3_faultOfName_53 rfl ?_
  refine WQ_bipush (110) (110) dX3_faultOfName_54 rfl rfl (fun v5547 hv5547 => ?_)
  refine WQ_icmp_eq 65 dX3_faultOfName_56 rfl (fun c5547 => False.elim (by omega)) (fun c5547 => ?_)
  refine WP_iload_n dX3_faultOfName_59 rfl ?_
  refine WQ_bipush (109) (109) dX3_faultOfName_60 rfl rfl (fun v5549 hv5549 => ?_)
  refine WQ_icmp_ne 98 dX3_faultOfName_62 rfl (fun c5549 => ?_) (fun c5549 => False.elim (by omega))
  refine WP_iload dX3_faultOfName_98 rfl ?_
  refine WQ_iconst (-1) (-1) dX3_faultOfName_100 rfl rfl (fun v5551 hv5551 => ?_)
  refine WQ_icmp_ne 106 dX3_faultOfName_101 rfl (fun c5551 => ?_) (fun c5551 => ?_)
  · refine WP_aload_n dX3_faultOfName_106 rfl ?_
    refine WP_getr dX3_faultOfName_107 fX3_9 rfl (lyx_is hy 3 3 rfl) (rfx hr 3 3 4 (by decide)) ?_
    refine WP_iload_n dX3_faultOfName_110 rfl ?_
    refine WP_iload dX3_faultOfName_111 rfl ?_
    refine WQ_iast dX3_faultOfName_113 (lyx_is hy 4 13 rfl) (lyx_n hy 4 5 rfl) (by omega) (by omega) (fun I5553 fI5553 => ?_)
    have eI5553 := fI5553
    rw [cl (x := ix) (n := 0) (by omega)] at eI5553
    clear fI5553
    have hI5553 : XI g n L I5553 := by rw [eI5553]; exact (xi_f hy hI (c := 4) (0) (0) (1000) (by decide) (Or.inl (by decide)) (by decide) (by omega) (by omega))
    have e5554 : I5553 (ad g 1) 1 = L := by rw [eI5553, pp_ne _ _ (Or.inl (lyx_ne hy (by decide) (by decide) (by decide)))]; exact e5535
    have e5555 : I5553 (ad g 6) 1 = w5537 := by rw [eI5553, pp_ne _ _ (Or.inl (lyx_ne hy (by decide) (by decide) (by decide)))]; exact ew5537
    have e5556 : I5553 (ad g 6) 2 = w5538 := by rw [eI5553, pp_ne _ _ (Or.inl (lyx_ne hy (by decide) (by decide) (by decide)))]; exact ew5538
    have e5557 : I5553 (ad g 4) 0 = v5546 := by rw [eI5553, pp_self]
    clear eI5553
    refine WP_iload_n dX3_faultOfName_114 rfl ?_
    refine WQ_bipush (7) (7) dX3_faultOfName_115 rfl rfl (fun v5558 hv5558 => ?_)
    refine WQ_icmp_ne 137 dX3_faultOfName_117 rfl (fun c5558 => ?_) (fun c5558 => False.elim (by omega))
    refine WQ_iconst (0) (0) dX3_faultOfName_137 rfl rfl (fun v5560 hv5560 => ?_)
    exact WP_iret dX3_faultOfName_138 rfl ⟨⟨hI5553, rfl, ⟨trivial, (by rw [e5555, ew5537] <;> exact (eq32 _ _).mpr (by omega)), (by rw [e5556, ew5538] <;> exact (eq32 _ _).mpr (by omega))⟩⟩, _, rfl, by omega, by omega, by (try rw [e5557]); omega⟩
  · refine WQ_iconst (5) (5) dX3_faultOfName_104 rfl rfl (fun v5561 hv5561 => ?_)
    obtain ⟨w5562, ew5562⟩ : ∃ w : Int32, I (ad g 4) 0 = w := ⟨_, rfl⟩
    have bw5562 := BT_get hI.1 4 0 5 (0) (0) (1000) (by decide) 0 (by decide) (by decide)
    rw [ew5562] at bw5562
    exact WP_iret dX3_faultOfName_105 rfl ⟨⟨hI, rfl, ⟨trivial, rfl, rfl⟩⟩, _, rfl, by omega, by omega, by (try rw [ew5562]); omega⟩
set_option maxHeartbeats 4000000 in
set_option maxRecDepth 100000 in
theorem sx_part_6_4_1 {g : GG} {n : Int} {L : Int32} (hy : LyX g)  {I : pI} {J : pJ} {R : pR} (hr : RfX g R) (hI : XI g n L I) (pa : Int32) (cz : Int32) (ix : Int32) (pa_lo : 68 ≤ pa.toInt) (pa_hi : pa.toInt ≤ 68) (cz_lo : 4 ≤ cz.toInt) (cz_hi : cz.toInt ≤ 4) (ix_lo : 1 ≤ ix.toInt) (ix_hi : ix.toInt ≤ 1) (hb : (I (ad g 4) 0).toInt ≤ 3) : SP g mX3_faultOfNumber [.ref (ad g 3), .int pa, .int cz, .int ix, .ref (ad g 6)] I J R (fun r I' J' R' => (XI g n L I' ∧ R' = R ∧ True ∧ I' (ad g 4) 0 = I (ad g 4) 0 ∧ I' (ad g 6) 1 = I (ad g 6) 1 ∧ I' (ad g 6) 2 = I (ad g 6) 2) ∧ ∃ v : Int32, r = some (.int v) ∧ 0 ≤ v.toInt ∧ v.toInt ≤ 5 ∧ (v.toInt = 0 → (I' (ad g 4) 1).toInt ≤ 6)) := by
  refine SP_of ⟨by decide, rfl⟩ (Nat.le_of_ble_eq_true rfl) ?_
  have e5563 : I (ad g 1) 1 = L := hI.2
  have b5564 := BT_get hI.1 1 1 2 (0) (0) (900) (by decide) 1 (by decide) (by decide)
  rw [e5563] at b5564
  obtain ⟨w5565, ew5565⟩ : ∃ w : Int32, I (ad g 4) 0 = w := ⟨_, rfl⟩
  have bw5565 := BT_get hI.1 4 0 5 (0) (0) (1000) (by decide) 0 (by decide) (by decide)
  rw [ew5565] at bw5565
  obtain ⟨w5566, ew5566⟩ : ∃ w : Int32, I (ad g 6) 1 = w := ⟨_, rfl⟩
  have bw5566 := BT_get hI.1 6 1 2 (0) (0) (4) (by decide) 1 (by decide) (by decide)
  rw [ew5566] at bw5566
  obtain ⟨w5567, ew5567⟩ : ∃ w : Int32, I (ad g 6) 2 = w := ⟨_, rfl⟩
  have bw5567 := BT_get hI.1 6 2 3 (0) (0) (3) (by decide) 2 (by decide) (by decide)
  rw [ew5567] at bw5567
  rw [ew5565] at hb
  refine WP_aload_n dX3_faultOfNumber_0 rfl ?_
  refine WP_getr dX3_faultOfNumber_1 fX3_15 rfl (lyx_is hy 3 3 rfl) (rfx hr 3 2 1 (by decide)) ?_
  refine WQ_getiu dX3_faultOfNumber_4 fX3_118 rfl (lyx_is hy 1 5 rfl) (fun v5568 ev5568 => ?_)
  refine WP_istore (ls' := [(0, _), (1, _), (2, _), (3, _), (4, _), (5, _)]) dX3_faultOfNumber_7 (by decide) rfl ?_
  refine WP_iload dX3_faultOfNumber_9 rfl ?_
  refine WP_iload_n dX3_faultOfNumber_11 rfl ?_
  refine WP_callS1 dX3_faultOfNumber_12 ⟨⟨⟨by decide, by decide⟩, zX3_leastOf⟩, lX3_121, tX3_leastOf⟩ (sx_leastOf hy hr hI pa ) (Nat.le_of_ble_eq_true rfl) ?_
  intro r Ia Ja Ra hq
  obtain ⟨⟨ea, eb, ec⟩, v5569, rfl, av5569, bv5569⟩ := hq
  show WP _ _ _ _ (.int _ :: _) _ _ _ _
  rw [ea, eb, ec]
  clear ea eb ec Ia Ja Ra
  refine WQ_icmp_lt 27 dX3_faultOfNumber_15 rfl (fun c5569 => ?_) (fun c5569 => ?_)
  · refine WQ_iconst (2) (2) dX3_faultOfNumber_27 rfl rfl (fun v5571 hv5571 => ?_)
    obtain ⟨w5572, ew5572⟩ : ∃ w : Int32, I (ad g 4) 1 = w := ⟨_, rfl⟩
    have bw5572 := BT_get hI.1 4 0 5 (0) (0) (1000) (by decide) 1 (by decide) (by decide)
    rw [ew5572] at bw5572
    exact WP_iret dX3_faultOfNumber_28 rfl ⟨⟨hI, rfl, ⟨trivial, rfl, rfl, rfl⟩⟩, _, rfl, by omega, by omega, by (try rw [ew5572]); omega⟩
  · refine WP_iload dX3_faultOfNumber_18 rfl ?_
    refine WP_iload_n dX3_faultOfNumber_20 rfl ?_
    refine WP_callS1 dX3_faultOfNumber_21 ⟨⟨⟨by decide, by decide⟩, zX3_mostOf⟩, lX3_125, tX3_mostOf⟩ (sx_mostOf hy hr hI pa ) (Nat.le_of_ble_eq_true rfl) ?_
    intro r Ia Ja Ra hq
    obtain ⟨⟨ea, eb, ec⟩, v5573, rfl, av5573, bv5573, cv5573⟩ := hq
    show WP _ _ _ _ (.int _ :: _) _ _ _ _
    rw [ea, eb, ec]
    clear ea eb ec Ia Ja Ra
    refine WQ_icmp_le 29 dX3_faultOfNumber_24 rfl (fun c5573 => ?_) (fun c5573 => ?_)
    · refine WP_aload_n dX3_faultOfNumber_29 rfl ?_
      refine WP_getr dX3_faultOfNumber_30 fX3_9 rfl (lyx_is hy 3 3 rfl) (rfx hr 3 3 4 (by decide)) ?_
      refine WP_iload_n dX3_faultOfNumber_33 rfl ?_
      refine WP_iload dX3_faultOfNumber_34 rfl ?_
      refine WQ_iast dX3_faultOfNumber_36 (lyx_is hy 4 13 rfl) (lyx_n hy 4 5 rfl) (by omega) (by omega) (fun I5575 fI5575 => ?_)
      have eI5575 := fI5575
      rw [cl (x := ix) (n := 1) (by omega)] at eI5575
      clear fI5575
      have hI5575 : XI g n L I5575 := by rw [eI5575]; exact (xi_f hy hI (c := 4) (0) (0) (1000) (by decide) (Or.inl (by decide)) (by decide) (by omega) (by omega))
      have e5576 : I5575 (ad g 1) 1 = L := by rw [eI5575, pp_ne _ _ (Or.inl (lyx_ne hy (by decide) (by decide) (by decide)))]; exact e5563
      have e5577 : I5575 (ad g 4) 0 = w5565 := by rw [eI5575, pp_ne _ _ (Or.inr (by decide))]; exact ew5565
      have e5578 : I5575 (ad g 6) 1 = w5566 := by rw [eI5575, pp_ne _ _ (Or.inl (lyx_ne hy (by decide) (by decide) (by decide)))]; exact ew5566
      have e5579 : I5575 (ad g 6) 2 = w5567 := by rw [eI5575, pp_ne _ _ (Or.inl (lyx_ne hy (by decide) (by decide) (by decide)))]; exact ew5567
      have e5580 : I5575 (ad g 1) 4 = v5568 := by rw [eI5575, pp_ne _ _ (Or.inl (lyx_ne hy (by decide) (by decide) (by decide)))]; exact ev5568
      have e5581 : I5575 (ad g 4) 1 = v5568 := by rw [eI5575, pp_self]
      clear eI5575
      refine WP_iload_n dX3_faultOfNumber_37 rfl ?_
      refine WQ_bipush (68) (68) dX3_faultOfNumber_38 rfl rfl (fun v5582 hv5582 => ?_)
      refine WQ_icmp_eq 45 dX3_faultOfNumber_40 rfl (fun c5582 => ?_) (fun c5582 => False.elim (by omega))
      refine WP_aload dX3_faultOfNumber_45 rfl ?_
      refine WP_iload_n dX3_faultOfNumber_47 rfl ?_
      refine WP_iload_n dX3_faultOfNumber_48 rfl ?_
      refine WQ_if_ne 56 dX3_faultOfNumber_49 rfl (fun c5583 => ?_) (fun c5583 => False.elim (by omega))
      refine WP_aload_n dX3_faultOfNumber_56 rfl ?_
      refine WP_getr dX3_faultOfNumber_57 fX3_9 rfl (lyx_is hy 3 3 rfl) (rfx hr 3 3 4 (by decide)) ?_
      refine WQ_iconst (0) (0) dX3_faultOfNumber_60 rfl rfl (fun v5585 hv5585 => ?_)
      refine WQ_ialdm (z := 0) dX3_faultOfNumber_61 (lyx_is hy 4 13 rfl) (lyx_n hy 4 5 rfl) hv5585 (by decide) e5577 ?_
      refine WP_iload dX3_faultOfNumber_62 rfl ?_
      refine WP_callV3 (k := 7) dX3_faultOfNumber_64 ⟨⟨⟨by decide, by decide⟩, zX7_isTold⟩, lX3_114, by decide, rfl, vX7_isTold.1, vX7_isTold.2⟩ (lyx_is hy 6 7 rfl) (sx_isTold_6 hy hr hI5575 cz w5565 v5568 (by omega) (by omega) (by omega) (by omega) ) (Nat.le_of_ble_eq_true rfl) ?_
      intro r Ia Ja Ra hq
      obtain ⟨⟨ea, eb, ec⟩, v5587, rfl, av5587, bv5587⟩ := hq
      show WP _ _ _ _ (.int _ :: _) _ _ _ _
      rw [ea, eb, ec]
      clear ea eb ec Ia Ja Ra
      refine WQ_if_eq 74 dX3_faultOfNumber_67 rfl (fun c5587 => ?_) (fun c5587 => ?_)
      · refine WQ_iconst (0) (0) dX3_faultOfNumber_74 rfl rfl (fun v5589 hv5589 => ?_)
        exact WP_iret dX3_faultOfNumber_75 rfl ⟨⟨hI5575, rfl, ⟨trivial, (by rw [e5577, ew5565] <;> exact (eq32 _ _).mpr (by omega)), (by rw [e5578, ew5566] <;> exact (eq32 _ _).mpr (by omega)), (by rw [e5579, ew5567] <;> exact (eq32 _ _).mpr (by omega))⟩⟩, _, rfl, by omega, by omega, by (try rw [e5581]); omega⟩
      · refine WQ_iconst (3) (3) dX3_faultOfNumber_70 rfl rfl (fun v5590 hv5590 => ?_)
        refine WP_goto 75 dX3_faultOfNumber_71 rfl ?_
        exact WP_iret dX3_faultOfNumber_75 rfl ⟨⟨hI5575, rfl, ⟨trivial, (by rw [e5577, ew5565] <;> exact (eq32 _ _).mpr (by omega)), (by rw [e5578, ew5566] <;> exact (eq32 _ _).mpr (by omega)), (by rw [e5579, ew5567] <;> exact (eq32 _ _).mpr (by omega))⟩⟩, _, rfl, by omega, by omega, by (try rw [e5581]); omega⟩
    · refine WQ_iconst (2) (2) dX3_faultOfNumber_27 rfl rfl (fun v5591 hv5591 => ?_)
      obtain ⟨w5592, ew5592⟩ : ∃ w : Int32, I (ad g 4) 1 = w := ⟨_, rfl⟩
      have bw5592 := BT_get hI.1 4 0 5 (0) (0) (1000) (by decide) 1 (by decide) (by decide)
      rw [ew5592] at bw5592
      exact WP_iret dX3_faultOfNumber_28 rfl ⟨⟨hI, rfl, ⟨trivial, rfl, rfl, rfl⟩⟩, _, rfl, by omega, by omega, by (try rw [ew5592]); omega⟩
set_option maxHeartbeats 4000000 in
set_option maxRecDepth 100000 in
theorem sx_part_6_4_2 {g : GG} {n : Int} {L : Int32} (hy : LyX g)  {I : pI} {J : pJ} {R : pR} (hr : RfX g R) (hI : XI g n L I) (pa : Int32) (cz : Int32) (ix : Int32) (pa_lo : 69 ≤ pa.toInt) (pa_hi : pa.toInt ≤ 69) (cz_lo : 4 ≤ cz.toInt) (cz_hi : cz.toInt ≤ 4) (ix_lo : 2 ≤ ix.toInt) (ix_hi : ix.toInt ≤ 2) : SP g mX3_faultOfNumber [.ref (ad g 3), .int pa, .int cz, .int ix, .ref (ad g 6)] I J R (fun r I' J' R' => (XI g n L I' ∧ R' = R ∧ True ∧ I' (ad g 4) 0 = I (ad g 4) 0 ∧ I' (ad g 4) 1 = I (ad g 4) 1 ∧ I' (ad g 6) 1 = I (ad g 6) 1 ∧ I' (ad g 6) 2 = I (ad g 6) 2) ∧ ∃ v : Int32, r = some (.int v) ∧ 0 ≤ v.toInt ∧ v.toInt ≤ 5 ∧ (v.toInt = 0 → (I' (ad g 4) 2).toInt ≤ 20)) := by
  refine SP_of ⟨by decide, rfl⟩ (Nat.le_of_ble_eq_true rfl) ?_
  have e5593 : I (ad g 1) 1 = L := hI.2
  have b5594 := BT_get hI.1 1 1 2 (0) (0) (900) (by decide) 1 (by decide) (by decide)
  rw [e5593] at b5594
  obtain ⟨w5595, ew5595⟩ : ∃ w : Int32, I (ad g 4) 0 = w := ⟨_, rfl⟩
  have bw5595 := BT_get hI.1 4 0 5 (0) (0) (1000) (by decide) 0 (by decide) (by decide)
  rw [ew5595] at bw5595
  obtain ⟨w5596, ew5596⟩ : ∃ w : Int32, I (ad g 4) 1 = w := ⟨_, rfl⟩
  have bw5596 := BT_get hI.1 4 0 5 (0) (0) (1000) (by decide) 1 (by decide) (by decide)
  rw [ew5596] at bw5596
  obtain ⟨w5597, ew5597⟩ : ∃ w : Int32, I (ad g 6) 1 = w := ⟨_, rfl⟩
  have bw5597 := BT_get hI.1 6 1 2 (0) (0) (4) (by decide) 1 (by decide) (by decide)
  rw [ew5597] at bw5597
  obtain ⟨w5598, ew5598⟩ : ∃ w : Int32, I (ad g 6) 2 = w := ⟨_, rfl⟩
  have bw5598 := BT_get hI.1 6 2 3 (0) (0) (3) (by decide) 2 (by decide) (by decide)
  rw [ew5598] at bw5598
  refine WP_aload_n dX3_faultOfNumber_0 rfl ?_
  refine WP_getr dX3_faultOfNumber_1 fX3_15 rfl (lyx_is hy 3 3 rfl) (rfx hr 3 2 1 (by decide)) ?_
  refine WQ_getiu dX3_faultOfNumber_4 fX3_118 rfl (lyx_is hy 1 5 rfl) (fun v5599 ev5599 => ?_)
  refine WP_istore (ls' := [(0, _), (1, _), (2, _), (3, _), (4, _), (5, _)]) dX3_faultOfNumber_7 (by decide) rfl ?_
  refine WP_iload dX3_faultOfNumber_9 rfl ?_
  refine WP_iload_n dX3_faultOfNumber_11 rfl ?_
  refine WP_callS1 dX3_faultOfNumber_12 ⟨⟨⟨by decide, by decide⟩, zX3_leastOf⟩, lX3_121, tX3_leastOf⟩ (sx_leastOf hy hr hI pa ) (Nat.le_of_ble_eq_true rfl) ?_
  intro r Ia Ja Ra hq
  obtain ⟨⟨ea, eb, ec⟩, v5600, rfl, av5600, bv5600⟩ := hq
  show WP _ _ _ _ (.int _ :: _) _ _ _ _
  rw [ea, eb, ec]
  clear ea eb ec Ia Ja Ra
  refine WQ_icmp_lt 27 dX3_faultOfNumber_15 rfl (fun c5600 => ?_) (fun c5600 => ?_)
  · refine WQ_iconst (2) (2) dX3_faultOfNumber_27 rfl rfl (fun v5602 hv5602 => ?_)
    obtain ⟨w5603, ew5603⟩ : ∃ w : Int32, I (ad g 4) 2 = w := ⟨_, rfl⟩
    have bw5603 := BT_get hI.1 4 0 5 (0) (0) (1000) (by decide) 2 (by decide) (by decide)
    rw [ew5603] at bw5603
    exact WP_iret dX3_faultOfNumber_28 rfl ⟨⟨hI, rfl, ⟨trivial, rfl, rfl, rfl, rfl⟩⟩, _, rfl, by omega, by omega, by (try rw [ew5603]); omega⟩
  · refine WP_iload dX3_faultOfNumber_18 rfl ?_
    refine WP_iload_n dX3_faultOfNumber_20 rfl ?_
    refine WP_callS1 dX3_faultOfNumber_21 ⟨⟨⟨by decide, by decide⟩, zX3_mostOf⟩, lX3_125, tX3_mostOf⟩ (sx_mostOf hy hr hI pa ) (Nat.le_of_ble_eq_true rfl) ?_
    intro r Ia Ja Ra hq
    obtain ⟨⟨ea, eb, ec⟩, v5604, rfl, av5604, bv5604, cv5604⟩ := hq
    show WP _ _ _ _ (.int _ :: _) _ _ _ _
    rw [ea, eb, ec]
    clear ea eb ec Ia Ja Ra
    refine WQ_icmp_le 29 dX3_faultOfNumber_24 rfl (fun c5604 => ?_) (fun c5604 => ?_)
    · refine WP_aload_n dX3_faultOfNumber_29 rfl ?_
      refine WP_getr dX3_faultOfNumber_30 fX3_9 rfl (lyx_is hy 3 3 rfl) (rfx hr 3 3 4 (by decide)) ?_
      refine WP_iload_n dX3_faultOfNumber_33 rfl ?_
      refine WP_iload dX3_faultOfNumber_34 rfl ?_
      refine WQ_iast dX3_faultOfNumber_36 (lyx_is hy 4 13 rfl) (lyx_n hy 4 5 rfl) (by omega) (by omega) (fun I5606 fI5606 => ?_)
      have eI5606 := fI5606
      rw [cl (x := ix) (n := 2) (by omega)] at eI5606
      clear fI5606
      have hI5606 : XI g n L I5606 := by rw [eI5606]; exact (xi_f hy hI (c := 4) (0) (0) (1000) (by decide) (Or.inl (by decide)) (by decide) (by omega) (by omega))
      have e5607 : I5606 (ad g 1) 1 = L := by rw [eI5606, pp_ne _ _ (Or.inl (lyx_ne hy (by decide) (by decide) (by decide)))]; exact e5593
      have e5608 : I5606 (ad g 4) 0 = w5595 := by rw [eI5606, pp_ne _ _ (Or.inr (by decide))]; exact ew5595
      have e5609 : I5606 (ad g 4) 1 = w5596 := by rw [eI5606, pp_ne _ _ (Or.inr (by decide))]; exact ew5596
      have e5610 : I5606 (ad g 6) 1 = w5597 := by rw [eI5606, pp_ne _ _ (Or.inl (lyx_ne hy (by decide) (by decide) (by decide)))]; exact ew5597
      have e5611 : I5606 (ad g 6) 2 = w5598 := by rw [eI5606, pp_ne _ _ (Or.inl (lyx_ne hy (by decide) (by decide) (by decide)))]; exact ew5598
      have e5612 : I5606 (ad g 1) 4 = v5599 := by rw [eI5606, pp_ne _ _ (Or.inl (lyx_ne hy (by decide) (by decide) (by decide)))]; exact ev5599
      have e5613 : I5606 (ad g 4) 2 = v5599 := by rw [eI5606, pp_self]
      clear eI5606
      refine WP_iload_n dX3_faultOfNumber_37 rfl ?_
      refine WQ_bipush (68) (68) dX3_faultOfNumber_38 rfl rfl (fun v5614 hv5614 => ?_)
      refine WQ_icmp_eq 45 dX3_faultOfNumber_40 rfl (fun c5614 => False.elim (by omega)) (fun c5614 => ?_)
      refine WQ_iconst (0) (0) dX3_faultOfNumber_43 rfl rfl (fun v5616 hv5616 => ?_)
      exact WP_iret dX3_faultOfNumber_44 rfl ⟨⟨hI5606, rfl, ⟨trivial, (by rw [e5608, ew5595] <;> exact (eq32 _ _).mpr (by omega)), (by rw [e5609, ew5596] <;> exact (eq32 _ _).mpr (by omega)), (by rw [e5610, ew5597] <;> exact (eq32 _ _).mpr (by omega)), (by rw [e5611, ew5598] <;> exact (eq32 _ _).mpr (by omega))⟩⟩, _, rfl, by omega, by omega, by (try rw [e5613]); omega⟩
    · refine WQ_iconst (2) (2) dX3_faultOfNumber_27 rfl rfl (fun v5617 hv5617 => ?_)
      obtain ⟨w5618, ew5618⟩ : ∃ w : Int32, I (ad g 4) 2 = w := ⟨_, rfl⟩
      have bw5618 := BT_get hI.1 4 0 5 (0) (0) (1000) (by decide) 2 (by decide) (by decide)
      rw [ew5618] at bw5618
      exact WP_iret dX3_faultOfNumber_28 rfl ⟨⟨hI, rfl, ⟨trivial, rfl, rfl, rfl, rfl⟩⟩, _, rfl, by omega, by omega, by (try rw [ew5618]); omega⟩
set_option maxHeartbeats 4000000 in
set_option maxRecDepth 100000 in
theorem sx_part_6_5_0 {g : GG} {n : Int} {L : Int32} (hy : LyX g)  {I : pI} {J : pJ} {R : pR} (hr : RfX g R) (hI : XI g n L I) (pa : Int32) (cz : Int32) (ix : Int32) (pa_lo : 116 ≤ pa.toInt) (pa_hi : pa.toInt ≤ 116) (cz_lo : 5 ≤ cz.toInt) (cz_hi : cz.toInt ≤ 5) (ix_lo : 0 ≤ ix.toInt) (ix_hi : ix.toInt ≤ 0) : SP g mX3_faultOfName [.ref (ad g 3), .int pa, .int cz, .int ix, .ref (ad g 6)] I J R (fun r I' J' R' => (XI g n L I' ∧ R' = R ∧ True ∧ I' (ad g 6) 1 = I (ad g 6) 1 ∧ I' (ad g 6) 2 = I (ad g 6) 2) ∧ ∃ v : Int32, r = some (.int v) ∧ 0 ≤ v.toInt ∧ v.toInt ≤ 5 ∧ (v.toInt = 0 → (I' (ad g 4) 0).toInt ≤ 2)) := by
  refine SP_of ⟨by decide, rfl⟩ (Nat.le_of_ble_eq_true rfl) ?_
  have e5619 : I (ad g 1) 1 = L := hI.2
  have b5620 := BT_get hI.1 1 1 2 (0) (0) (900) (by decide) 1 (by decide) (by decide)
  rw [e5619] at b5620
  obtain ⟨w5621, ew5621⟩ : ∃ w : Int32, I (ad g 6) 1 = w := ⟨_, rfl⟩
  have bw5621 := BT_get hI.1 6 1 2 (0) (0) (4) (by decide) 1 (by decide) (by decide)
  rw [ew5621] at bw5621
  obtain ⟨w5622, ew5622⟩ : ∃ w : Int32, I (ad g 6) 2 = w := ⟨_, rfl⟩
  have bw5622 := BT_get hI.1 6 2 3 (0) (0) (3) (by decide) 2 (by decide) (by decide)
  rw [ew5622] at bw5622
  refine WP_iload_n dX3_faultOfName_0 rfl ?_
  refine WQ_bipush (115) (115) dX3_faultOfName_1 rfl rfl (fun v5623 hv5623 => ?_)
  refine WQ_icmp_eq 12 dX3_faultOfName_3 rfl (fun c5623 => False.elim (by omega)) (fun c5623 => ?_)
  refine WP_iload_n dX3_faultOfName_6 rfl ?_
  refine WQ_bipush (110) (110) dX3_faultOfName_7 rfl rfl (fun v5625 hv5625 => ?_)
  refine WQ_icmp_ne 16 dX3_faultOfName_9 rfl (fun c5625 => ?_) (fun c5625 => False.elim (by omega))
  refine WQ_iconst (0) (0) dX3_faultOfName_16 rfl rfl (fun v5627 hv5627 => ?_)
  refine WP_istore (ls' := [(0, _), (1, _), (2, _), (3, _), (4, _), (5, _)]) dX3_faultOfName_17 (by decide) rfl ?_
  refine WP_iload dX3_faultOfName_19 rfl ?_
  refine WQ_if_eq 39 dX3_faultOfName_21 rfl (fun c5627 => ?_) (fun c5627 => False.elim (by omega))
  refine WP_aload dX3_faultOfName_39 rfl ?_
  refine WP_aload_n dX3_faultOfName_41 rfl ?_
  refine WP_getr dX3_faultOfName_42 fX3_15 rfl (lyx_is hy 3 3 rfl) (rfx hr 3 2 1 (by decide)) ?_
  refine WQ_getl dX3_faultOfName_45 fX3_80 rfl (lyx_is hy 1 5 rfl) (fun l5629 el5629 => ?_)
  refine WP_callV1 (k := 7) dX3_faultOfName_48 ⟨⟨⟨by decide, by decide⟩, zX7_thingNamed⟩, lX3_107, by decide, rfl, vX7_thingNamed.1, vX7_thingNamed.2⟩ (lyx_is hy 6 7 rfl) (sx_thingNamed_6 hy hr hI l5629 ) (Nat.le_of_ble_eq_true rfl) ?_
  intro r Ia Ja Ra hq
  obtain ⟨⟨ea, eb, ec⟩, v5630, rfl, av5630, bv5630⟩ := hq
  show WP _ _ _ _ (.int _ :: _) _ _ _ _
  rw [ea, eb, ec]
  clear ea eb ec Ia Ja Ra
  refine WP_istore (ls' := [(0, _), (1, _), (2, _), (3, _), (4, _), (5, _), (6, _)]) dX3_faultOfName_51 (by decide) rfl ?_
  refine WP_iload_n dX3_faultOfName_53 rfl ?_
  refine WQ_bipush (110) (110) dX3_faultOfName_54 rfl rfl (fun v5631 hv5631 => ?_)
  refine WQ_icmp_eq 65 dX3_faultOfName_56 rfl (fun c5631 => False.elim (by omega)) (fun c5631 => ?_)
  refine WP_iload_n dX3_faultOfName_59 rfl ?_
  refine WQ_bipush (109) (109) dX3_faultOfName_60 rfl rfl (fun v5633 hv5633 => ?_)
  refine WQ_icmp_ne 98 dX3_faultOfName_62 rfl (fun c5633 => ?_) (fun c5633 => False.elim (by omega))
  refine WP_iload dX3_faultOfName_98 rfl ?_
  refine WQ_iconst (-1) (-1) dX3_faultOfName_100 rfl rfl (fun v5635 hv5635 => ?_)
  refine WQ_icmp_ne 106 dX3_faultOfName_101 rfl (fun c5635 => ?_) (fun c5635 => ?_)
  · refine WP_aload_n dX3_faultOfName_106 rfl ?_
    refine WP_getr dX3_faultOfName_107 fX3_9 rfl (lyx_is hy 3 3 rfl) (rfx hr 3 3 4 (by decide)) ?_
    refine WP_iload_n dX3_faultOfName_110 rfl ?_
    refine WP_iload dX3_faultOfName_111 rfl ?_
    refine WQ_iast dX3_faultOfName_113 (lyx_is hy 4 13 rfl) (lyx_n hy 4 5 rfl) (by omega) (by omega) (fun I5637 fI5637 => ?_)
    have eI5637 := fI5637
    rw [cl (x := ix) (n := 0) (by omega)] at eI5637
    clear fI5637
    have hI5637 : XI g n L I5637 := by rw [eI5637]; exact (xi_f hy hI (c := 4) (0) (0) (1000) (by decide) (Or.inl (by decide)) (by decide) (by omega) (by omega))
    have e5638 : I5637 (ad g 1) 1 = L := by rw [eI5637, pp_ne _ _ (Or.inl (lyx_ne hy (by decide) (by decide) (by decide)))]; exact e5619
    have e5639 : I5637 (ad g 6) 1 = w5621 := by rw [eI5637, pp_ne _ _ (Or.inl (lyx_ne hy (by decide) (by decide) (by decide)))]; exact ew5621
    have e5640 : I5637 (ad g 6) 2 = w5622 := by rw [eI5637, pp_ne _ _ (Or.inl (lyx_ne hy (by decide) (by decide) (by decide)))]; exact ew5622
    have e5641 : I5637 (ad g 4) 0 = v5630 := by rw [eI5637, pp_self]
    clear eI5637
    refine WP_iload_n dX3_faultOfName_114 rfl ?_
    refine WQ_bipush (7) (7) dX3_faultOfName_115 rfl rfl (fun v5642 hv5642 => ?_)
    refine WQ_icmp_ne 137 dX3_faultOfName_117 rfl (fun c5642 => ?_) (fun c5642 => False.elim (by omega))
    refine WQ_iconst (0) (0) dX3_faultOfName_137 rfl rfl (fun v5644 hv5644 => ?_)
    exact WP_iret dX3_faultOfName_138 rfl ⟨⟨hI5637, rfl, ⟨trivial, (by rw [e5639, ew5621] <;> exact (eq32 _ _).mpr (by omega)), (by rw [e5640, ew5622] <;> exact (eq32 _ _).mpr (by omega))⟩⟩, _, rfl, by omega, by omega, by (try rw [e5641]); omega⟩
  · refine WQ_iconst (5) (5) dX3_faultOfName_104 rfl rfl (fun v5645 hv5645 => ?_)
    obtain ⟨w5646, ew5646⟩ : ∃ w : Int32, I (ad g 4) 0 = w := ⟨_, rfl⟩
    have bw5646 := BT_get hI.1 4 0 5 (0) (0) (1000) (by decide) 0 (by decide) (by decide)
    rw [ew5646] at bw5646
    exact WP_iret dX3_faultOfName_105 rfl ⟨⟨hI, rfl, ⟨trivial, rfl, rfl⟩⟩, _, rfl, by omega, by omega, by (try rw [ew5646]); omega⟩
set_option maxHeartbeats 4000000 in
set_option maxRecDepth 100000 in
theorem sx_part_6_5_1 {g : GG} {n : Int} {L : Int32} (hy : LyX g)  {I : pI} {J : pJ} {R : pR} (hr : RfX g R) (hI : XI g n L I) (pa : Int32) (cz : Int32) (ix : Int32) (pa_lo : 68 ≤ pa.toInt) (pa_hi : pa.toInt ≤ 68) (cz_lo : 5 ≤ cz.toInt) (cz_hi : cz.toInt ≤ 5) (ix_lo : 1 ≤ ix.toInt) (ix_hi : ix.toInt ≤ 1) (hb : (I (ad g 4) 0).toInt ≤ 3) : SP g mX3_faultOfNumber [.ref (ad g 3), .int pa, .int cz, .int ix, .ref (ad g 6)] I J R (fun r I' J' R' => (XI g n L I' ∧ R' = R ∧ True ∧ I' (ad g 4) 0 = I (ad g 4) 0 ∧ I' (ad g 6) 1 = I (ad g 6) 1 ∧ I' (ad g 6) 2 = I (ad g 6) 2) ∧ ∃ v : Int32, r = some (.int v) ∧ 0 ≤ v.toInt ∧ v.toInt ≤ 5 ∧ (v.toInt = 0 → (I' (ad g 4) 1).toInt ≤ 6)) := by
  refine SP_of ⟨by decide, rfl⟩ (Nat.le_of_ble_eq_true rfl) ?_
  have e5647 : I (ad g 1) 1 = L := hI.2
  have b5648 := BT_get hI.1 1 1 2 (0) (0) (900) (by decide) 1 (by decide) (by decide)
  rw [e5647] at b5648
  obtain ⟨w5649, ew5649⟩ : ∃ w : Int32, I (ad g 4) 0 = w := ⟨_, rfl⟩
  have bw5649 := BT_get hI.1 4 0 5 (0) (0) (1000) (by decide) 0 (by decide) (by decide)
  rw [ew5649] at bw5649
  obtain ⟨w5650, ew5650⟩ : ∃ w : Int32, I (ad g 6) 1 = w := ⟨_, rfl⟩
  have bw5650 := BT_get hI.1 6 1 2 (0) (0) (4) (by decide) 1 (by decide) (by decide)
  rw [ew5650] at bw5650
  obtain ⟨w5651, ew5651⟩ : ∃ w : Int32, I (ad g 6) 2 = w := ⟨_, rfl⟩
  have bw5651 := BT_get hI.1 6 2 3 (0) (0) (3) (by decide) 2 (by decide) (by decide)
  rw [ew5651] at bw5651
  rw [ew5649] at hb
  refine WP_aload_n dX3_faultOfNumber_0 rfl ?_
  refine WP_getr dX3_faultOfNumber_1 fX3_15 rfl (lyx_is hy 3 3 rfl) (rfx hr 3 2 1 (by decide)) ?_
  refine WQ_getiu dX3_faultOfNumber_4 fX3_118 rfl (lyx_is hy 1 5 rfl) (fun v5652 ev5652 => ?_)
  refine WP_istore (ls' := [(0, _), (1, _), (2, _), (3, _), (4, _), (5, _)]) dX3_faultOfNumber_7 (by decide) rfl ?_
  refine WP_iload dX3_faultOfNumber_9 rfl ?_
  refine WP_iload_n dX3_faultOfNumber_11 rfl ?_
  refine WP_callS1 dX3_faultOfNumber_12 ⟨⟨⟨by decide, by decide⟩, zX3_leastOf⟩, lX3_121, tX3_leastOf⟩ (sx_leastOf hy hr hI pa ) (Nat.le_of_ble_eq_true rfl) ?_
  intro r Ia Ja Ra hq
  obtain ⟨⟨ea, eb, ec⟩, v5653, rfl, av5653, bv5653⟩ := hq
  show WP _ _ _ _ (.int _ :: _) _ _ _ _
  rw [ea, eb, ec]
  clear ea eb ec Ia Ja Ra
  refine WQ_icmp_lt 27 dX3_faultOfNumber_15 rfl (fun c5653 => ?_) (fun c5653 => ?_)
  · refine WQ_iconst (2) (2) dX3_faultOfNumber_27 rfl rfl (fun v5655 hv5655 => ?_)
    obtain ⟨w5656, ew5656⟩ : ∃ w : Int32, I (ad g 4) 1 = w := ⟨_, rfl⟩
    have bw5656 := BT_get hI.1 4 0 5 (0) (0) (1000) (by decide) 1 (by decide) (by decide)
    rw [ew5656] at bw5656
    exact WP_iret dX3_faultOfNumber_28 rfl ⟨⟨hI, rfl, ⟨trivial, rfl, rfl, rfl⟩⟩, _, rfl, by omega, by omega, by (try rw [ew5656]); omega⟩
  · refine WP_iload dX3_faultOfNumber_18 rfl ?_
    refine WP_iload_n dX3_faultOfNumber_20 rfl ?_
    refine WP_callS1 dX3_faultOfNumber_21 ⟨⟨⟨by decide, by decide⟩, zX3_mostOf⟩, lX3_125, tX3_mostOf⟩ (sx_mostOf hy hr hI pa ) (Nat.le_of_ble_eq_true rfl) ?_
    intro r Ia Ja Ra hq
    obtain ⟨⟨ea, eb, ec⟩, v5657, rfl, av5657, bv5657, cv5657⟩ := hq
    show WP _ _ _ _ (.int _ :: _) _ _ _ _
    rw [ea, eb, ec]
    clear ea eb ec Ia Ja Ra
    refine WQ_icmp_le 29 dX3_faultOfNumber_24 rfl (fun c5657 => ?_) (fun c5657 => ?_)
    · refine WP_aload_n dX3_faultOfNumber_29 rfl ?_
      refine WP_getr dX3_faultOfNumber_30 fX3_9 rfl (lyx_is hy 3 3 rfl) (rfx hr 3 3 4 (by decide)) ?_
      refine WP_iload_n dX3_faultOfNumber_33 rfl ?_
      refine WP_iload dX3_faultOfNumber_34 rfl ?_
      refine WQ_iast dX3_faultOfNumber_36 (lyx_is hy 4 13 rfl) (lyx_n hy 4 5 rfl) (by omega) (by omega) (fun I5659 fI5659 => ?_)
      have eI5659 := fI5659
      rw [cl (x := ix) (n := 1) (by omega)] at eI5659
      clear fI5659
      have hI5659 : XI g n L I5659 := by rw [eI5659]; exact (xi_f hy hI (c := 4) (0) (0) (1000) (by decide) (Or.inl (by decide)) (by decide) (by omega) (by omega))
      have e5660 : I5659 (ad g 1) 1 = L := by rw [eI5659, pp_ne _ _ (Or.inl (lyx_ne hy (by decide) (by decide) (by decide)))]; exact e5647
      have e5661 : I5659 (ad g 4) 0 = w5649 := by rw [eI5659, pp_ne _ _ (Or.inr (by decide))]; exact ew5649
      have e5662 : I5659 (ad g 6) 1 = w5650 := by rw [eI5659, pp_ne _ _ (Or.inl (lyx_ne hy (by decide) (by decide) (by decide)))]; exact ew5650
      have e5663 : I5659 (ad g 6) 2 = w5651 := by rw [eI5659, pp_ne _ _ (Or.inl (lyx_ne hy (by decide) (by decide) (by decide)))]; exact ew5651
      have e5664 : I5659 (ad g 1) 4 = v5652 := by rw [eI5659, pp_ne _ _ (Or.inl (lyx_ne hy (by decide) (by decide) (by decide)))]; exact ev5652
      have e5665 : I5659 (ad g 4) 1 = v5652 := by rw [eI5659, pp_self]
      clear eI5659
      refine WP_iload_n dX3_faultOfNumber_37 rfl ?_
      refine WQ_bipush (68) (68) dX3_faultOfNumber_38 rfl rfl (fun v5666 hv5666 => ?_)
      refine WQ_icmp_eq 45 dX3_faultOfNumber_40 rfl (fun c5666 => ?_) (fun c5666 => False.elim (by omega))
      refine WP_aload dX3_faultOfNumber_45 rfl ?_
      refine WP_iload_n dX3_faultOfNumber_47 rfl ?_
      refine WP_iload_n dX3_faultOfNumber_48 rfl ?_
      refine WQ_if_ne 56 dX3_faultOfNumber_49 rfl (fun c5667 => ?_) (fun c5667 => False.elim (by omega))
      refine WP_aload_n dX3_faultOfNumber_56 rfl ?_
      refine WP_getr dX3_faultOfNumber_57 fX3_9 rfl (lyx_is hy 3 3 rfl) (rfx hr 3 3 4 (by decide)) ?_
      refine WQ_iconst (0) (0) dX3_faultOfNumber_60 rfl rfl (fun v5669 hv5669 => ?_)
      refine WQ_ialdm (z := 0) dX3_faultOfNumber_61 (lyx_is hy 4 13 rfl) (lyx_n hy 4 5 rfl) hv5669 (by decide) e5661 ?_
      refine WP_iload dX3_faultOfNumber_62 rfl ?_
      refine WP_callV3 (k := 7) dX3_faultOfNumber_64 ⟨⟨⟨by decide, by decide⟩, zX7_isTold⟩, lX3_114, by decide, rfl, vX7_isTold.1, vX7_isTold.2⟩ (lyx_is hy 6 7 rfl) (sx_isTold_6 hy hr hI5659 cz w5649 v5652 (by omega) (by omega) (by omega) (by omega) ) (Nat.le_of_ble_eq_true rfl) ?_
      intro r Ia Ja Ra hq
      obtain ⟨⟨ea, eb, ec⟩, v5671, rfl, av5671, bv5671⟩ := hq
      show WP _ _ _ _ (.int _ :: _) _ _ _ _
      rw [ea, eb, ec]
      clear ea eb ec Ia Ja Ra
      refine WQ_if_eq 74 dX3_faultOfNumber_67 rfl (fun c5671 => ?_) (fun c5671 => ?_)
      · refine WQ_iconst (0) (0) dX3_faultOfNumber_74 rfl rfl (fun v5673 hv5673 => ?_)
        exact WP_iret dX3_faultOfNumber_75 rfl ⟨⟨hI5659, rfl, ⟨trivial, (by rw [e5661, ew5649] <;> exact (eq32 _ _).mpr (by omega)), (by rw [e5662, ew5650] <;> exact (eq32 _ _).mpr (by omega)), (by rw [e5663, ew5651] <;> exact (eq32 _ _).mpr (by omega))⟩⟩, _, rfl, by omega, by omega, by (try rw [e5665]); omega⟩
      · refine WQ_iconst (3) (3) dX3_faultOfNumber_70 rfl rfl (fun v5674 hv5674 => ?_)
        refine WP_goto 75 dX3_faultOfNumber_71 rfl ?_
        exact WP_iret dX3_faultOfNumber_75 rfl ⟨⟨hI5659, rfl, ⟨trivial, (by rw [e5661, ew5649] <;> exact (eq32 _ _).mpr (by omega)), (by rw [e5662, ew5650] <;> exact (eq32 _ _).mpr (by omega)), (by rw [e5663, ew5651] <;> exact (eq32 _ _).mpr (by omega))⟩⟩, _, rfl, by omega, by omega, by (try rw [e5665]); omega⟩
    · refine WQ_iconst (2) (2) dX3_faultOfNumber_27 rfl rfl (fun v5675 hv5675 => ?_)
      obtain ⟨w5676, ew5676⟩ : ∃ w : Int32, I (ad g 4) 1 = w := ⟨_, rfl⟩
      have bw5676 := BT_get hI.1 4 0 5 (0) (0) (1000) (by decide) 1 (by decide) (by decide)
      rw [ew5676] at bw5676
      exact WP_iret dX3_faultOfNumber_28 rfl ⟨⟨hI, rfl, ⟨trivial, rfl, rfl, rfl⟩⟩, _, rfl, by omega, by omega, by (try rw [ew5676]); omega⟩
set_option maxHeartbeats 4000000 in
set_option maxRecDepth 100000 in
theorem sx_part_6_5_2 {g : GG} {n : Int} {L : Int32} (hy : LyX g)  {I : pI} {J : pJ} {R : pR} (hr : RfX g R) (hI : XI g n L I) (pa : Int32) (cz : Int32) (ix : Int32) (pa_lo : 77 ≤ pa.toInt) (pa_hi : pa.toInt ≤ 77) (cz_lo : 5 ≤ cz.toInt) (cz_hi : cz.toInt ≤ 5) (ix_lo : 2 ≤ ix.toInt) (ix_hi : ix.toInt ≤ 2) : SP g mX3_faultOfNumber [.ref (ad g 3), .int pa, .int cz, .int ix, .ref (ad g 6)] I J R (fun r I' J' R' => (XI g n L I' ∧ R' = R ∧ True ∧ I' (ad g 4) 0 = I (ad g 4) 0 ∧ I' (ad g 4) 1 = I (ad g 4) 1 ∧ I' (ad g 6) 1 = I (ad g 6) 1 ∧ I' (ad g 6) 2 = I (ad g 6) 2) ∧ ∃ v : Int32, r = some (.int v) ∧ 0 ≤ v.toInt ∧ v.toInt ≤ 5 ∧ (v.toInt = 0 → (I' (ad g 4) 2).toInt ≤ 999)) := by
  refine SP_of ⟨by decide, rfl⟩ (Nat.le_of_ble_eq_true rfl) ?_
  have e5677 : I (ad g 1) 1 = L := hI.2
  have b5678 := BT_get hI.1 1 1 2 (0) (0) (900) (by decide) 1 (by decide) (by decide)
  rw [e5677] at b5678
  obtain ⟨w5679, ew5679⟩ : ∃ w : Int32, I (ad g 4) 0 = w := ⟨_, rfl⟩
  have bw5679 := BT_get hI.1 4 0 5 (0) (0) (1000) (by decide) 0 (by decide) (by decide)
  rw [ew5679] at bw5679
  obtain ⟨w5680, ew5680⟩ : ∃ w : Int32, I (ad g 4) 1 = w := ⟨_, rfl⟩
  have bw5680 := BT_get hI.1 4 0 5 (0) (0) (1000) (by decide) 1 (by decide) (by decide)
  rw [ew5680] at bw5680
  obtain ⟨w5681, ew5681⟩ : ∃ w : Int32, I (ad g 6) 1 = w := ⟨_, rfl⟩
  have bw5681 := BT_get hI.1 6 1 2 (0) (0) (4) (by decide) 1 (by decide) (by decide)
  rw [ew5681] at bw5681
  obtain ⟨w5682, ew5682⟩ : ∃ w : Int32, I (ad g 6) 2 = w := ⟨_, rfl⟩
  have bw5682 := BT_get hI.1 6 2 3 (0) (0) (3) (by decide) 2 (by decide) (by decide)
  rw [ew5682] at bw5682
  refine WP_aload_n dX3_faultOfNumber_0 rfl ?_
  refine WP_getr dX3_faultOfNumber_1 fX3_15 rfl (lyx_is hy 3 3 rfl) (rfx hr 3 2 1 (by decide)) ?_
  refine WQ_getiu dX3_faultOfNumber_4 fX3_118 rfl (lyx_is hy 1 5 rfl) (fun v5683 ev5683 => ?_)
  refine WP_istore (ls' := [(0, _), (1, _), (2, _), (3, _), (4, _), (5, _)]) dX3_faultOfNumber_7 (by decide) rfl ?_
  refine WP_iload dX3_faultOfNumber_9 rfl ?_
  refine WP_iload_n dX3_faultOfNumber_11 rfl ?_
  refine WP_callS1 dX3_faultOfNumber_12 ⟨⟨⟨by decide, by decide⟩, zX3_leastOf⟩, lX3_121, tX3_leastOf⟩ (sx_leastOf hy hr hI pa ) (Nat.le_of_ble_eq_true rfl) ?_
  intro r Ia Ja Ra hq
  obtain ⟨⟨ea, eb, ec⟩, v5684, rfl, av5684, bv5684⟩ := hq
  show WP _ _ _ _ (.int _ :: _) _ _ _ _
  rw [ea, eb, ec]
  clear ea eb ec Ia Ja Ra
  refine WQ_icmp_lt 27 dX3_faultOfNumber_15 rfl (fun c5684 => ?_) (fun c5684 => ?_)
  · refine WQ_iconst (2) (2) dX3_faultOfNumber_27 rfl rfl (fun v5686 hv5686 => ?_)
    obtain ⟨w5687, ew5687⟩ : ∃ w : Int32, I (ad g 4) 2 = w := ⟨_, rfl⟩
    have bw5687 := BT_get hI.1 4 0 5 (0) (0) (1000) (by decide) 2 (by decide) (by decide)
    rw [ew5687] at bw5687
    exact WP_iret dX3_faultOfNumber_28 rfl ⟨⟨hI, rfl, ⟨trivial, rfl, rfl, rfl, rfl⟩⟩, _, rfl, by omega, by omega, by (try rw [ew5687]); omega⟩
  · refine WP_iload dX3_faultOfNumber_18 rfl ?_
    refine WP_iload_n dX3_faultOfNumber_20 rfl ?_
    refine WP_callS1 dX3_faultOfNumber_21 ⟨⟨⟨by decide, by decide⟩, zX3_mostOf⟩, lX3_125, tX3_mostOf⟩ (sx_mostOf hy hr hI pa ) (Nat.le_of_ble_eq_true rfl) ?_
    intro r Ia Ja Ra hq
    obtain ⟨⟨ea, eb, ec⟩, v5688, rfl, av5688, bv5688, cv5688⟩ := hq
    show WP _ _ _ _ (.int _ :: _) _ _ _ _
    rw [ea, eb, ec]
    clear ea eb ec Ia Ja Ra
    refine WQ_icmp_le 29 dX3_faultOfNumber_24 rfl (fun c5688 => ?_) (fun c5688 => ?_)
    · refine WP_aload_n dX3_faultOfNumber_29 rfl ?_
      refine WP_getr dX3_faultOfNumber_30 fX3_9 rfl (lyx_is hy 3 3 rfl) (rfx hr 3 3 4 (by decide)) ?_
      refine WP_iload_n dX3_faultOfNumber_33 rfl ?_
      refine WP_iload dX3_faultOfNumber_34 rfl ?_
      refine WQ_iast dX3_faultOfNumber_36 (lyx_is hy 4 13 rfl) (lyx_n hy 4 5 rfl) (by omega) (by omega) (fun I5690 fI5690 => ?_)
      have eI5690 := fI5690
      rw [cl (x := ix) (n := 2) (by omega)] at eI5690
      clear fI5690
      have hI5690 : XI g n L I5690 := by rw [eI5690]; exact (xi_f hy hI (c := 4) (0) (0) (1000) (by decide) (Or.inl (by decide)) (by decide) (by omega) (by omega))
      have e5691 : I5690 (ad g 1) 1 = L := by rw [eI5690, pp_ne _ _ (Or.inl (lyx_ne hy (by decide) (by decide) (by decide)))]; exact e5677
      have e5692 : I5690 (ad g 4) 0 = w5679 := by rw [eI5690, pp_ne _ _ (Or.inr (by decide))]; exact ew5679
      have e5693 : I5690 (ad g 4) 1 = w5680 := by rw [eI5690, pp_ne _ _ (Or.inr (by decide))]; exact ew5680
      have e5694 : I5690 (ad g 6) 1 = w5681 := by rw [eI5690, pp_ne _ _ (Or.inl (lyx_ne hy (by decide) (by decide) (by decide)))]; exact ew5681
      have e5695 : I5690 (ad g 6) 2 = w5682 := by rw [eI5690, pp_ne _ _ (Or.inl (lyx_ne hy (by decide) (by decide) (by decide)))]; exact ew5682
      have e5696 : I5690 (ad g 1) 4 = v5683 := by rw [eI5690, pp_ne _ _ (Or.inl (lyx_ne hy (by decide) (by decide) (by decide)))]; exact ev5683
      have e5697 : I5690 (ad g 4) 2 = v5683 := by rw [eI5690, pp_self]
      clear eI5690
      refine WP_iload_n dX3_faultOfNumber_37 rfl ?_
      refine WQ_bipush (68) (68) dX3_faultOfNumber_38 rfl rfl (fun v5698 hv5698 => ?_)
      refine WQ_icmp_eq 45 dX3_faultOfNumber_40 rfl (fun c5698 => False.elim (by omega)) (fun c5698 => ?_)
      refine WQ_iconst (0) (0) dX3_faultOfNumber_43 rfl rfl (fun v5700 hv5700 => ?_)
      exact WP_iret dX3_faultOfNumber_44 rfl ⟨⟨hI5690, rfl, ⟨trivial, (by rw [e5692, ew5679] <;> exact (eq32 _ _).mpr (by omega)), (by rw [e5693, ew5680] <;> exact (eq32 _ _).mpr (by omega)), (by rw [e5694, ew5681] <;> exact (eq32 _ _).mpr (by omega)), (by rw [e5695, ew5682] <;> exact (eq32 _ _).mpr (by omega))⟩⟩, _, rfl, by omega, by omega, by (try rw [e5697]); omega⟩
    · refine WQ_iconst (2) (2) dX3_faultOfNumber_27 rfl rfl (fun v5701 hv5701 => ?_)
      obtain ⟨w5702, ew5702⟩ : ∃ w : Int32, I (ad g 4) 2 = w := ⟨_, rfl⟩
      have bw5702 := BT_get hI.1 4 0 5 (0) (0) (1000) (by decide) 2 (by decide) (by decide)
      rw [ew5702] at bw5702
      exact WP_iret dX3_faultOfNumber_28 rfl ⟨⟨hI, rfl, ⟨trivial, rfl, rfl, rfl, rfl⟩⟩, _, rfl, by omega, by omega, by (try rw [ew5702]); omega⟩
set_option maxHeartbeats 4000000 in
set_option maxRecDepth 100000 in
theorem sx_part_6_6_0 {g : GG} {n : Int} {L : Int32} (hy : LyX g)  {I : pI} {J : pJ} {R : pR} (hr : RfX g R) (hI : XI g n L I) (pa : Int32) (cz : Int32) (ix : Int32) (pa_lo : 115 ≤ pa.toInt) (pa_hi : pa.toInt ≤ 115) (cz_lo : 6 ≤ cz.toInt) (cz_hi : cz.toInt ≤ 6) (ix_lo : 0 ≤ ix.toInt) (ix_hi : ix.toInt ≤ 0) : SP g mX3_faultOfName [.ref (ad g 3), .int pa, .int cz, .int ix, .ref (ad g 6)] I J R (fun r I' J' R' => (XI g n L I' ∧ R' = R ∧ True ∧ I' (ad g 6) 1 = I (ad g 6) 1 ∧ I' (ad g 6) 2 = I (ad g 6) 2) ∧ ∃ v : Int32, r = some (.int v) ∧ 0 ≤ v.toInt ∧ v.toInt ≤ 5 ∧ (v.toInt = 0 → (I' (ad g 4) 0).toInt ≤ 3)) := by
  refine SP_of ⟨by decide, rfl⟩ (Nat.le_of_ble_eq_true rfl) ?_
  have e5703 : I (ad g 1) 1 = L := hI.2
  have b5704 := BT_get hI.1 1 1 2 (0) (0) (900) (by decide) 1 (by decide) (by decide)
  rw [e5703] at b5704
  obtain ⟨w5705, ew5705⟩ : ∃ w : Int32, I (ad g 6) 1 = w := ⟨_, rfl⟩
  have bw5705 := BT_get hI.1 6 1 2 (0) (0) (4) (by decide) 1 (by decide) (by decide)
  rw [ew5705] at bw5705
  obtain ⟨w5706, ew5706⟩ : ∃ w : Int32, I (ad g 6) 2 = w := ⟨_, rfl⟩
  have bw5706 := BT_get hI.1 6 2 3 (0) (0) (3) (by decide) 2 (by decide) (by decide)
  rw [ew5706] at bw5706
  refine WP_iload_n dX3_faultOfName_0 rfl ?_
  refine WQ_bipush (115) (115) dX3_faultOfName_1 rfl rfl (fun v5707 hv5707 => ?_)
  refine WQ_icmp_eq 12 dX3_faultOfName_3 rfl (fun c5707 => ?_) (fun c5707 => False.elim (by omega))
  refine WQ_iconst (1) (1) dX3_faultOfName_12 rfl rfl (fun v5709 hv5709 => ?_)
  refine WP_goto 17 dX3_faultOfName_13 rfl ?_
  refine WP_istore (ls' := [(0, _), (1, _), (2, _), (3, _), (4, _), (5, _)]) dX3_faultOfName_17 (by decide) rfl ?_
  refine WP_iload dX3_faultOfName_19 rfl ?_
  refine WQ_if_eq 39 dX3_faultOfName_21 rfl (fun c5709 => False.elim (by omega)) (fun c5709 => ?_)
  refine WP_aload dX3_faultOfName_24 rfl ?_
  refine WP_aload_n dX3_faultOfName_26 rfl ?_
  refine WP_getr dX3_faultOfName_27 fX3_15 rfl (lyx_is hy 3 3 rfl) (rfx hr 3 2 1 (by decide)) ?_
  refine WQ_getl dX3_faultOfName_30 fX3_80 rfl (lyx_is hy 1 5 rfl) (fun l5711 el5711 => ?_)
  refine WP_callV1 (k := 7) dX3_faultOfName_33 ⟨⟨⟨by decide, by decide⟩, zX7_sortNamed⟩, lX3_103, by decide, rfl, vX7_sortNamed.1, vX7_sortNamed.2⟩ (lyx_is hy 6 7 rfl) (sx_sortNamed_6 hy hr hI l5711 ) (Nat.le_of_ble_eq_true rfl) ?_
  intro r Ia Ja Ra hq
  obtain ⟨⟨ea, eb, ec⟩, v5712, rfl, av5712, bv5712⟩ := hq
  show WP _ _ _ _ (.int _ :: _) _ _ _ _
  rw [ea, eb, ec]
  clear ea eb ec Ia Ja Ra
  refine WP_goto 51 dX3_faultOfName_36 rfl ?_
  refine WP_istore (ls' := [(0, _), (1, _), (2, _), (3, _), (4, _), (5, _), (6, _)]) dX3_faultOfName_51 (by decide) rfl ?_
  refine WP_iload_n dX3_faultOfName_53 rfl ?_
  refine WQ_bipush (110) (110) dX3_faultOfName_54 rfl rfl (fun v5713 hv5713 => ?_)
  refine WQ_icmp_eq 65 dX3_faultOfName_56 rfl (fun c5713 => False.elim (by omega)) (fun c5713 => ?_)
  refine WP_iload_n dX3_faultOfName_59 rfl ?_
  refine WQ_bipush (109) (109) dX3_faultOfName_60 rfl rfl (fun v5715 hv5715 => ?_)
  refine WQ_icmp_ne 98 dX3_faultOfName_62 rfl (fun c5715 => ?_) (fun c5715 => False.elim (by omega))
  refine WP_iload dX3_faultOfName_98 rfl ?_
  refine WQ_iconst (-1) (-1) dX3_faultOfName_100 rfl rfl (fun v5717 hv5717 => ?_)
  refine WQ_icmp_ne 106 dX3_faultOfName_101 rfl (fun c5717 => ?_) (fun c5717 => ?_)
  · refine WP_aload_n dX3_faultOfName_106 rfl ?_
    refine WP_getr dX3_faultOfName_107 fX3_9 rfl (lyx_is hy 3 3 rfl) (rfx hr 3 3 4 (by decide)) ?_
    refine WP_iload_n dX3_faultOfName_110 rfl ?_
    refine WP_iload dX3_faultOfName_111 rfl ?_
    refine WQ_iast dX3_faultOfName_113 (lyx_is hy 4 13 rfl) (lyx_n hy 4 5 rfl) (by omega) (by omega) (fun I5719 fI5719 => ?_)
    have eI5719 := fI5719
    rw [cl (x := ix) (n := 0) (by omega)] at eI5719
    clear fI5719
    have hI5719 : XI g n L I5719 := by rw [eI5719]; exact (xi_f hy hI (c := 4) (0) (0) (1000) (by decide) (Or.inl (by decide)) (by decide) (by omega) (by omega))
    have e5720 : I5719 (ad g 1) 1 = L := by rw [eI5719, pp_ne _ _ (Or.inl (lyx_ne hy (by decide) (by decide) (by decide)))]; exact e5703
    have e5721 : I5719 (ad g 6) 1 = w5705 := by rw [eI5719, pp_ne _ _ (Or.inl (lyx_ne hy (by decide) (by decide) (by decide)))]; exact ew5705
    have e5722 : I5719 (ad g 6) 2 = w5706 := by rw [eI5719, pp_ne _ _ (Or.inl (lyx_ne hy (by decide) (by decide) (by decide)))]; exact ew5706
    have e5723 : I5719 (ad g 4) 0 = v5712 := by rw [eI5719, pp_self]
    clear eI5719
    refine WP_iload_n dX3_faultOfName_114 rfl ?_
    refine WQ_bipush (7) (7) dX3_faultOfName_115 rfl rfl (fun v5724 hv5724 => ?_)
    refine WQ_icmp_ne 137 dX3_faultOfName_117 rfl (fun c5724 => ?_) (fun c5724 => False.elim (by omega))
    refine WQ_iconst (0) (0) dX3_faultOfName_137 rfl rfl (fun v5726 hv5726 => ?_)
    exact WP_iret dX3_faultOfName_138 rfl ⟨⟨hI5719, rfl, ⟨trivial, (by rw [e5721, ew5705] <;> exact (eq32 _ _).mpr (by omega)), (by rw [e5722, ew5706] <;> exact (eq32 _ _).mpr (by omega))⟩⟩, _, rfl, by omega, by omega, by (try rw [e5723]); omega⟩
  · refine WQ_iconst (5) (5) dX3_faultOfName_104 rfl rfl (fun v5727 hv5727 => ?_)
    obtain ⟨w5728, ew5728⟩ : ∃ w : Int32, I (ad g 4) 0 = w := ⟨_, rfl⟩
    have bw5728 := BT_get hI.1 4 0 5 (0) (0) (1000) (by decide) 0 (by decide) (by decide)
    rw [ew5728] at bw5728
    exact WP_iret dX3_faultOfName_105 rfl ⟨⟨hI, rfl, ⟨trivial, rfl, rfl⟩⟩, _, rfl, by omega, by omega, by (try rw [ew5728]); omega⟩
set_option maxHeartbeats 4000000 in
set_option maxRecDepth 100000 in
theorem sx_part_6_6_1 {g : GG} {n : Int} {L : Int32} (hy : LyX g)  {I : pI} {J : pJ} {R : pR} (hr : RfX g R) (hI : XI g n L I) (pa : Int32) (cz : Int32) (ix : Int32) (pa_lo : 116 ≤ pa.toInt) (pa_hi : pa.toInt ≤ 116) (cz_lo : 6 ≤ cz.toInt) (cz_hi : cz.toInt ≤ 6) (ix_lo : 1 ≤ ix.toInt) (ix_hi : ix.toInt ≤ 1) : SP g mX3_faultOfName [.ref (ad g 3), .int pa, .int cz, .int ix, .ref (ad g 6)] I J R (fun r I' J' R' => (XI g n L I' ∧ R' = R ∧ True ∧ I' (ad g 4) 0 = I (ad g 4) 0 ∧ I' (ad g 6) 1 = I (ad g 6) 1 ∧ I' (ad g 6) 2 = I (ad g 6) 2) ∧ ∃ v : Int32, r = some (.int v) ∧ 0 ≤ v.toInt ∧ v.toInt ≤ 5 ∧ (v.toInt = 0 → (I' (ad g 4) 1).toInt ≤ 2)) := by
  refine SP_of ⟨by decide, rfl⟩ (Nat.le_of_ble_eq_true rfl) ?_
  have e5729 : I (ad g 1) 1 = L := hI.2
  have b5730 := BT_get hI.1 1 1 2 (0) (0) (900) (by decide) 1 (by decide) (by decide)
  rw [e5729] at b5730
  obtain ⟨w5731, ew5731⟩ : ∃ w : Int32, I (ad g 4) 0 = w := ⟨_, rfl⟩
  have bw5731 := BT_get hI.1 4 0 5 (0) (0) (1000) (by decide) 0 (by decide) (by decide)
  rw [ew5731] at bw5731
  obtain ⟨w5732, ew5732⟩ : ∃ w : Int32, I (ad g 6) 1 = w := ⟨_, rfl⟩
  have bw5732 := BT_get hI.1 6 1 2 (0) (0) (4) (by decide) 1 (by decide) (by decide)
  rw [ew5732] at bw5732
  obtain ⟨w5733, ew5733⟩ : ∃ w : Int32, I (ad g 6) 2 = w := ⟨_, rfl⟩
  have bw5733 := BT_get hI.1 6 2 3 (0) (0) (3) (by decide) 2 (by decide) (by decide)
  rw [ew5733] at bw5733
  refine WP_iload_n dX3_faultOfName_0 rfl ?_
  refine WQ_bipush (115) (115) dX3_faultOfName_1 rfl rfl (fun v5734 hv5734 => ?_)
  refine WQ_icmp_eq 12 dX3_faultOfName_3 rfl (fun c5734 => False.elim (by omega)) (fun c5734 => ?_)
  refine WP_iload_n dX3_faultOfName_6 rfl ?_
  refine WQ_bipush (110) (110) dX3_faultOfName_7 rfl rfl (fun v5736 hv5736 => ?_)
  refine WQ_icmp_ne 16 dX3_faultOfName_9 rfl (fun c5736 => ?_) (fun c5736 => False.elim (by omega))
  refine WQ_iconst (0) (0) dX3_faultOfName_16 rfl rfl (fun v5738 hv5738 => ?_)
  refine WP_istore (ls' := [(0, _), (1, _), (2, _), (3, _), (4, _), (5, _)]) dX3_faultOfName_17 (by decide) rfl ?_
  refine WP_iload dX3_faultOfName_19 rfl ?_
  refine WQ_if_eq 39 dX3_faultOfName_21 rfl (fun c5738 => ?_) (fun c5738 => False.elim (by omega))
  refine WP_aload dX3_faultOfName_39 rfl ?_
  refine WP_aload_n dX3_faultOfName_41 rfl ?_
  refine WP_getr dX3_faultOfName_42 fX3_15 rfl (lyx_is hy 3 3 rfl) (rfx hr 3 2 1 (by decide)) ?_
  refine WQ_getl dX3_faultOfName_45 fX3_80 rfl (lyx_is hy 1 5 rfl) (fun l5740 el5740 => ?_)
  refine WP_callV1 (k := 7) dX3_faultOfName_48 ⟨⟨⟨by decide, by decide⟩, zX7_thingNamed⟩, lX3_107, by decide, rfl, vX7_thingNamed.1, vX7_thingNamed.2⟩ (lyx_is hy 6 7 rfl) (sx_thingNamed_6 hy hr hI l5740 ) (Nat.le_of_ble_eq_true rfl) ?_
  intro r Ia Ja Ra hq
  obtain ⟨⟨ea, eb, ec⟩, v5741, rfl, av5741, bv5741⟩ := hq
  show WP _ _ _ _ (.int _ :: _) _ _ _ _
  rw [ea, eb, ec]
  clear ea eb ec Ia Ja Ra
  refine WP_istore (ls' := [(0, _), (1, _), (2, _), (3, _), (4, _), (5, _), (6, _)]) dX3_faultOfName_51 (by decide) rfl ?_
  refine WP_iload_n dX3_faultOfName_53 rfl ?_
  refine WQ_bipush (110) (110) dX3_faultOfName_54 rfl rfl (fun v5742 hv5742 => ?_)
  refine WQ_icmp_eq 65 dX3_faultOfName_56 rfl (fun c5742 => False.elim (by omega)) (fun c5742 => ?_)
  refine WP_iload_n dX3_faultOfName_59 rfl ?_
  refine WQ_bipush (109) (109) dX3_faultOfName_60 rfl rfl (fun v5744 hv5744 => ?_)
  refine WQ_icmp_ne 98 dX3_faultOfName_62 rfl (fun c5744 => ?_) (fun c5744 => False.elim (by omega))
  refine WP_iload dX3_faultOfName_98 rfl ?_
  refine WQ_iconst (-1) (-1) dX3_faultOfName_100 rfl rfl (fun v5746 hv5746 => ?_)
  refine WQ_icmp_ne 106 dX3_faultOfName_101 rfl (fun c5746 => ?_) (fun c5746 => ?_)
  · refine WP_aload_n dX3_faultOfName_106 rfl ?_
    refine WP_getr dX3_faultOfName_107 fX3_9 rfl (lyx_is hy 3 3 rfl) (rfx hr 3 3 4 (by decide)) ?_
    refine WP_iload_n dX3_faultOfName_110 rfl ?_
    refine WP_iload dX3_faultOfName_111 rfl ?_
    refine WQ_iast dX3_faultOfName_113 (lyx_is hy 4 13 rfl) (lyx_n hy 4 5 rfl) (by omega) (by omega) (fun I5748 fI5748 => ?_)
    have eI5748 := fI5748
    rw [cl (x := ix) (n := 1) (by omega)] at eI5748
    clear fI5748
    have hI5748 : XI g n L I5748 := by rw [eI5748]; exact (xi_f hy hI (c := 4) (0) (0) (1000) (by decide) (Or.inl (by decide)) (by decide) (by omega) (by omega))
    have e5749 : I5748 (ad g 1) 1 = L := by rw [eI5748, pp_ne _ _ (Or.inl (lyx_ne hy (by decide) (by decide) (by decide)))]; exact e5729
    have e5750 : I5748 (ad g 4) 0 = w5731 := by rw [eI5748, pp_ne _ _ (Or.inr (by decide))]; exact ew5731
    have e5751 : I5748 (ad g 6) 1 = w5732 := by rw [eI5748, pp_ne _ _ (Or.inl (lyx_ne hy (by decide) (by decide) (by decide)))]; exact ew5732
    have e5752 : I5748 (ad g 6) 2 = w5733 := by rw [eI5748, pp_ne _ _ (Or.inl (lyx_ne hy (by decide) (by decide) (by decide)))]; exact ew5733
    have e5753 : I5748 (ad g 4) 1 = v5741 := by rw [eI5748, pp_self]
    clear eI5748
    refine WP_iload_n dX3_faultOfName_114 rfl ?_
    refine WQ_bipush (7) (7) dX3_faultOfName_115 rfl rfl (fun v5754 hv5754 => ?_)
    refine WQ_icmp_ne 137 dX3_faultOfName_117 rfl (fun c5754 => ?_) (fun c5754 => False.elim (by omega))
    refine WQ_iconst (0) (0) dX3_faultOfName_137 rfl rfl (fun v5756 hv5756 => ?_)
    exact WP_iret dX3_faultOfName_138 rfl ⟨⟨hI5748, rfl, ⟨trivial, (by rw [e5750, ew5731] <;> exact (eq32 _ _).mpr (by omega)), (by rw [e5751, ew5732] <;> exact (eq32 _ _).mpr (by omega)), (by rw [e5752, ew5733] <;> exact (eq32 _ _).mpr (by omega))⟩⟩, _, rfl, by omega, by omega, by (try rw [e5753]); omega⟩
  · refine WQ_iconst (5) (5) dX3_faultOfName_104 rfl rfl (fun v5757 hv5757 => ?_)
    obtain ⟨w5758, ew5758⟩ : ∃ w : Int32, I (ad g 4) 1 = w := ⟨_, rfl⟩
    have bw5758 := BT_get hI.1 4 0 5 (0) (0) (1000) (by decide) 1 (by decide) (by decide)
    rw [ew5758] at bw5758
    exact WP_iret dX3_faultOfName_105 rfl ⟨⟨hI, rfl, ⟨trivial, rfl, rfl, rfl⟩⟩, _, rfl, by omega, by omega, by (try rw [ew5758]); omega⟩
set_option maxHeartbeats 4000000 in
set_option maxRecDepth 100000 in
theorem sx_part_6_6_2 {g : GG} {n : Int} {L : Int32} (hy : LyX g)  {I : pI} {J : pJ} {R : pR} (hr : RfX g R) (hI : XI g n L I) (pa : Int32) (cz : Int32) (ix : Int32) (pa_lo : 68 ≤ pa.toInt) (pa_hi : pa.toInt ≤ 68) (cz_lo : 6 ≤ cz.toInt) (cz_hi : cz.toInt ≤ 6) (ix_lo : 2 ≤ ix.toInt) (ix_hi : ix.toInt ≤ 2) (hb : (I (ad g 4) 0).toInt ≤ 3) : SP g mX3_faultOfNumber [.ref (ad g 3), .int pa, .int cz, .int ix, .ref (ad g 6)] I J R (fun r I' J' R' => (XI g n L I' ∧ R' = R ∧ True ∧ I' (ad g 4) 0 = I (ad g 4) 0 ∧ I' (ad g 4) 1 = I (ad g 4) 1 ∧ I' (ad g 6) 1 = I (ad g 6) 1 ∧ I' (ad g 6) 2 = I (ad g 6) 2) ∧ ∃ v : Int32, r = some (.int v) ∧ 0 ≤ v.toInt ∧ v.toInt ≤ 5 ∧ (v.toInt = 0 → (I' (ad g 4) 2).toInt ≤ 6)) := by
  refine SP_of ⟨by decide, rfl⟩ (Nat.le_of_ble_eq_true rfl) ?_
  have e5759 : I (ad g 1) 1 = L := hI.2
  have b5760 := BT_get hI.1 1 1 2 (0) (0) (900) (by decide) 1 (by decide) (by decide)
  rw [e5759] at b5760
  obtain ⟨w5761, ew5761⟩ : ∃ w : Int32, I (ad g 4) 0 = w := ⟨_, rfl⟩
  have bw5761 := BT_get hI.1 4 0 5 (0) (0) (1000) (by decide) 0 (by decide) (by decide)
  rw [ew5761] at bw5761
  obtain ⟨w5762, ew5762⟩ : ∃ w : Int32, I (ad g 4) 1 = w := ⟨_, rfl⟩
  have bw5762 := BT_get hI.1 4 0 5 (0) (0) (1000) (by decide) 1 (by decide) (by decide)
  rw [ew5762] at bw5762
  obtain ⟨w5763, ew5763⟩ : ∃ w : Int32, I (ad g 6) 1 = w := ⟨_, rfl⟩
  have bw5763 := BT_get hI.1 6 1 2 (0) (0) (4) (by decide) 1 (by decide) (by decide)
  rw [ew5763] at bw5763
  obtain ⟨w5764, ew5764⟩ : ∃ w : Int32, I (ad g 6) 2 = w := ⟨_, rfl⟩
  have bw5764 := BT_get hI.1 6 2 3 (0) (0) (3) (by decide) 2 (by decide) (by decide)
  rw [ew5764] at bw5764
  rw [ew5761] at hb
  refine WP_aload_n dX3_faultOfNumber_0 rfl ?_
  refine WP_getr dX3_faultOfNumber_1 fX3_15 rfl (lyx_is hy 3 3 rfl) (rfx hr 3 2 1 (by decide)) ?_
  refine WQ_getiu dX3_faultOfNumber_4 fX3_118 rfl (lyx_is hy 1 5 rfl) (fun v5765 ev5765 => ?_)
  refine WP_istore (ls' := [(0, _), (1, _), (2, _), (3, _), (4, _), (5, _)]) dX3_faultOfNumber_7 (by decide) rfl ?_
  refine WP_iload dX3_faultOfNumber_9 rfl ?_
  refine WP_iload_n dX3_faultOfNumber_11 rfl ?_
  refine WP_callS1 dX3_faultOfNumber_12 ⟨⟨⟨by decide, by decide⟩, zX3_leastOf⟩, lX3_121, tX3_leastOf⟩ (sx_leastOf hy hr hI pa ) (Nat.le_of_ble_eq_true rfl) ?_
  intro r Ia Ja Ra hq
  obtain ⟨⟨ea, eb, ec⟩, v5766, rfl, av5766, bv5766⟩ := hq
  show WP _ _ _ _ (.int _ :: _) _ _ _ _
  rw [ea, eb, ec]
  clear ea eb ec Ia Ja Ra
  refine WQ_icmp_lt 27 dX3_faultOfNumber_15 rfl (fun c5766 => ?_) (fun c5766 => ?_)
  · refine WQ_iconst (2) (2) dX3_faultOfNumber_27 rfl rfl (fun v5768 hv5768 => ?_)
    obtain ⟨w5769, ew5769⟩ : ∃ w : Int32, I (ad g 4) 2 = w := ⟨_, rfl⟩
    have bw5769 := BT_get hI.1 4 0 5 (0) (0) (1000) (by decide) 2 (by decide) (by decide)
    rw [ew5769] at bw5769
    exact WP_iret dX3_faultOfNumber_28 rfl ⟨⟨hI, rfl, ⟨trivial, rfl, rfl, rfl, rfl⟩⟩, _, rfl, by omega, by omega, by (try rw [ew5769]); omega⟩
  · refine WP_iload dX3_faultOfNumber_18 rfl ?_
    refine WP_iload_n dX3_faultOfNumber_20 rfl ?_
    refine WP_callS1 dX3_faultOfNumber_21 ⟨⟨⟨by decide, by decide⟩, zX3_mostOf⟩, lX3_125, tX3_mostOf⟩ (sx_mostOf hy hr hI pa ) (Nat.le_of_ble_eq_true rfl) ?_
    intro r Ia Ja Ra hq
    obtain ⟨⟨ea, eb, ec⟩, v5770, rfl, av5770, bv5770, cv5770⟩ := hq
    show WP _ _ _ _ (.int _ :: _) _ _ _ _
    rw [ea, eb, ec]
    clear ea eb ec Ia Ja Ra
    refine WQ_icmp_le 29 dX3_faultOfNumber_24 rfl (fun c5770 => ?_) (fun c5770 => ?_)
    · refine WP_aload_n dX3_faultOfNumber_29 rfl ?_
      refine WP_getr dX3_faultOfNumber_30 fX3_9 rfl (lyx_is hy 3 3 rfl) (rfx hr 3 3 4 (by decide)) ?_
      refine WP_iload_n dX3_faultOfNumber_33 rfl ?_
      refine WP_iload dX3_faultOfNumber_34 rfl ?_
      refine WQ_iast dX3_faultOfNumber_36 (lyx_is hy 4 13 rfl) (lyx_n hy 4 5 rfl) (by omega) (by omega) (fun I5772 fI5772 => ?_)
      have eI5772 := fI5772
      rw [cl (x := ix) (n := 2) (by omega)] at eI5772
      clear fI5772
      have hI5772 : XI g n L I5772 := by rw [eI5772]; exact (xi_f hy hI (c := 4) (0) (0) (1000) (by decide) (Or.inl (by decide)) (by decide) (by omega) (by omega))
      have e5773 : I5772 (ad g 1) 1 = L := by rw [eI5772, pp_ne _ _ (Or.inl (lyx_ne hy (by decide) (by decide) (by decide)))]; exact e5759
      have e5774 : I5772 (ad g 4) 0 = w5761 := by rw [eI5772, pp_ne _ _ (Or.inr (by decide))]; exact ew5761
      have e5775 : I5772 (ad g 4) 1 = w5762 := by rw [eI5772, pp_ne _ _ (Or.inr (by decide))]; exact ew5762
      have e5776 : I5772 (ad g 6) 1 = w5763 := by rw [eI5772, pp_ne _ _ (Or.inl (lyx_ne hy (by decide) (by decide) (by decide)))]; exact ew5763
      have e5777 : I5772 (ad g 6) 2 = w5764 := by rw [eI5772, pp_ne _ _ (Or.inl (lyx_ne hy (by decide) (by decide) (by decide)))]; exact ew5764
      have e5778 : I5772 (ad g 1) 4 = v5765 := by rw [eI5772, pp_ne _ _ (Or.inl (lyx_ne hy (by decide) (by decide) (by decide)))]; exact ev5765
      have e5779 : I5772 (ad g 4) 2 = v5765 := by rw [eI5772, pp_self]
      clear eI5772
      refine WP_iload_n dX3_faultOfNumber_37 rfl ?_
      refine WQ_bipush (68) (68) dX3_faultOfNumber_38 rfl rfl (fun v5780 hv5780 => ?_)
      refine WQ_icmp_eq 45 dX3_faultOfNumber_40 rfl (fun c5780 => ?_) (fun c5780 => False.elim (by omega))
      refine WP_aload dX3_faultOfNumber_45 rfl ?_
      refine WP_iload_n dX3_faultOfNumber_47 rfl ?_
      refine WP_iload_n dX3_faultOfNumber_48 rfl ?_
      refine WQ_if_ne 56 dX3_faultOfNumber_49 rfl (fun c5781 => ?_) (fun c5781 => False.elim (by omega))
      refine WP_aload_n dX3_faultOfNumber_56 rfl ?_
      refine WP_getr dX3_faultOfNumber_57 fX3_9 rfl (lyx_is hy 3 3 rfl) (rfx hr 3 3 4 (by decide)) ?_
      refine WQ_iconst (0) (0) dX3_faultOfNumber_60 rfl rfl (fun v5783 hv5783 => ?_)
      refine WQ_ialdm (z := 0) dX3_faultOfNumber_61 (lyx_is hy 4 13 rfl) (lyx_n hy 4 5 rfl) hv5783 (by decide) e5774 ?_
      refine WP_iload dX3_faultOfNumber_62 rfl ?_
      refine WP_callV3 (k := 7) dX3_faultOfNumber_64 ⟨⟨⟨by decide, by decide⟩, zX7_isTold⟩, lX3_114, by decide, rfl, vX7_isTold.1, vX7_isTold.2⟩ (lyx_is hy 6 7 rfl) (sx_isTold_6 hy hr hI5772 cz w5761 v5765 (by omega) (by omega) (by omega) (by omega) ) (Nat.le_of_ble_eq_true rfl) ?_
      intro r Ia Ja Ra hq
      obtain ⟨⟨ea, eb, ec⟩, v5785, rfl, av5785, bv5785⟩ := hq
      show WP _ _ _ _ (.int _ :: _) _ _ _ _
      rw [ea, eb, ec]
      clear ea eb ec Ia Ja Ra
      refine WQ_if_eq 74 dX3_faultOfNumber_67 rfl (fun c5785 => ?_) (fun c5785 => ?_)
      · refine WQ_iconst (0) (0) dX3_faultOfNumber_74 rfl rfl (fun v5787 hv5787 => ?_)
        exact WP_iret dX3_faultOfNumber_75 rfl ⟨⟨hI5772, rfl, ⟨trivial, (by rw [e5774, ew5761] <;> exact (eq32 _ _).mpr (by omega)), (by rw [e5775, ew5762] <;> exact (eq32 _ _).mpr (by omega)), (by rw [e5776, ew5763] <;> exact (eq32 _ _).mpr (by omega)), (by rw [e5777, ew5764] <;> exact (eq32 _ _).mpr (by omega))⟩⟩, _, rfl, by omega, by omega, by (try rw [e5779]); omega⟩
      · refine WQ_iconst (3) (3) dX3_faultOfNumber_70 rfl rfl (fun v5788 hv5788 => ?_)
        refine WP_goto 75 dX3_faultOfNumber_71 rfl ?_
        exact WP_iret dX3_faultOfNumber_75 rfl ⟨⟨hI5772, rfl, ⟨trivial, (by rw [e5774, ew5761] <;> exact (eq32 _ _).mpr (by omega)), (by rw [e5775, ew5762] <;> exact (eq32 _ _).mpr (by omega)), (by rw [e5776, ew5763] <;> exact (eq32 _ _).mpr (by omega)), (by rw [e5777, ew5764] <;> exact (eq32 _ _).mpr (by omega))⟩⟩, _, rfl, by omega, by omega, by (try rw [e5779]); omega⟩
    · refine WQ_iconst (2) (2) dX3_faultOfNumber_27 rfl rfl (fun v5789 hv5789 => ?_)
      obtain ⟨w5790, ew5790⟩ : ∃ w : Int32, I (ad g 4) 2 = w := ⟨_, rfl⟩
      have bw5790 := BT_get hI.1 4 0 5 (0) (0) (1000) (by decide) 2 (by decide) (by decide)
      rw [ew5790] at bw5790
      exact WP_iret dX3_faultOfNumber_28 rfl ⟨⟨hI, rfl, ⟨trivial, rfl, rfl, rfl, rfl⟩⟩, _, rfl, by omega, by omega, by (try rw [ew5790]); omega⟩
set_option maxHeartbeats 4000000 in
set_option maxRecDepth 100000 in
theorem sx_part_6_6_3 {g : GG} {n : Int} {L : Int32} (hy : LyX g)  {I : pI} {J : pJ} {R : pR} (hr : RfX g R) (hI : XI g n L I) (pa : Int32) (cz : Int32) (ix : Int32) (pa_lo : 85 ≤ pa.toInt) (pa_hi : pa.toInt ≤ 85) (cz_lo : 6 ≤ cz.toInt) (cz_hi : cz.toInt ≤ 6) (ix_lo : 3 ≤ ix.toInt) (ix_hi : ix.toInt ≤ 3) : SP g mX3_faultOfNumber [.ref (ad g 3), .int pa, .int cz, .int ix, .ref (ad g 6)] I J R (fun r I' J' R' => (XI g n L I' ∧ R' = R ∧ True ∧ I' (ad g 4) 0 = I (ad g 4) 0 ∧ I' (ad g 4) 1 = I (ad g 4) 1 ∧ I' (ad g 4) 2 = I (ad g 4) 2 ∧ I' (ad g 6) 1 = I (ad g 6) 1 ∧ I' (ad g 6) 2 = I (ad g 6) 2) ∧ ∃ v : Int32, r = some (.int v) ∧ 0 ≤ v.toInt ∧ v.toInt ≤ 5 ∧ (v.toInt = 0 → (I' (ad g 4) 3).toInt ≤ 3)) := by
  refine SP_of ⟨by decide, rfl⟩ (Nat.le_of_ble_eq_true rfl) ?_
  have e5791 : I (ad g 1) 1 = L := hI.2
  have b5792 := BT_get hI.1 1 1 2 (0) (0) (900) (by decide) 1 (by decide) (by decide)
  rw [e5791] at b5792
  obtain ⟨w5793, ew5793⟩ : ∃ w : Int32, I (ad g 4) 0 = w := ⟨_, rfl⟩
  have bw5793 := BT_get hI.1 4 0 5 (0) (0) (1000) (by decide) 0 (by decide) (by decide)
  rw [ew5793] at bw5793
  obtain ⟨w5794, ew5794⟩ : ∃ w : Int32, I (ad g 4) 1 = w := ⟨_, rfl⟩
  have bw5794 := BT_get hI.1 4 0 5 (0) (0) (1000) (by decide) 1 (by decide) (by decide)
  rw [ew5794] at bw5794
  obtain ⟨w5795, ew5795⟩ : ∃ w : Int32, I (ad g 4) 2 = w := ⟨_, rfl⟩
  have bw5795 := BT_get hI.1 4 0 5 (0) (0) (1000) (by decide) 2 (by decide) (by decide)
  rw [ew5795] at bw5795
  obtain ⟨w5796, ew5796⟩ : ∃ w : Int32, I (ad g 6) 1 = w := ⟨_, rfl⟩
  have bw5796 := BT_get hI.1 6 1 2 (0) (0) (4) (by decide) 1 (by decide) (by decide)
  rw [ew5796] at bw5796
  obtain ⟨w5797, ew5797⟩ : ∃ w : Int32, I (ad g 6) 2 = w := ⟨_, rfl⟩
  have bw5797 := BT_get hI.1 6 2 3 (0) (0) (3) (by decide) 2 (by decide) (by decide)
  rw [ew5797] at bw5797
  refine WP_aload_n dX3_faultOfNumber_0 rfl ?_
  refine WP_getr dX3_faultOfNumber_1 fX3_15 rfl (lyx_is hy 3 3 rfl) (rfx hr 3 2 1 (by decide)) ?_
  refine WQ_getiu dX3_faultOfNumber_4 fX3_118 rfl (lyx_is hy 1 5 rfl) (fun v5798 ev5798 => ?_)
  refine WP_istore (ls' := [(0, _), (1, _), (2, _), (3, _), (4, _), (5, _)]) dX3_faultOfNumber_7 (by decide) rfl ?_
  refine WP_iload dX3_faultOfNumber_9 rfl ?_
  refine WP_iload_n dX3_faultOfNumber_11 rfl ?_
  refine WP_callS1 dX3_faultOfNumber_12 ⟨⟨⟨by decide, by decide⟩, zX3_leastOf⟩, lX3_121, tX3_leastOf⟩ (sx_leastOf hy hr hI pa ) (Nat.le_of_ble_eq_true rfl) ?_
  intro r Ia Ja Ra hq
  obtain ⟨⟨ea, eb, ec⟩, v5799, rfl, av5799, bv5799⟩ := hq
  show WP _ _ _ _ (.int _ :: _) _ _ _ _
  rw [ea, eb, ec]
  clear ea eb ec Ia Ja Ra
  refine WQ_icmp_lt 27 dX3_faultOfNumber_15 rfl (fun c5799 => ?_) (fun c5799 => ?_)
  · refine WQ_iconst (2) (2) dX3_faultOfNumber_27 rfl rfl (fun v5801 hv5801 => ?_)
    obtain ⟨w5802, ew5802⟩ : ∃ w : Int32, I (ad g 4) 3 = w := ⟨_, rfl⟩
    have bw5802 := BT_get hI.1 4 0 5 (0) (0) (1000) (by decide) 3 (by decide) (by decide)
    rw [ew5802] at bw5802
    exact WP_iret dX3_faultOfNumber_28 rfl ⟨⟨hI, rfl, ⟨trivial, rfl, rfl, rfl, rfl, rfl⟩⟩, _, rfl, by omega, by omega, by (try rw [ew5802]); omega⟩
  · refine WP_iload dX3_faultOfNumber_18 rfl ?_
    refine WP_iload_n dX3_faultOfNumber_20 rfl ?_
    refine WP_callS1 dX3_faultOfNumber_21 ⟨⟨⟨by decide, by decide⟩, zX3_mostOf⟩, lX3_125, tX3_mostOf⟩ (sx_mostOf hy hr hI pa ) (Nat.le_of_ble_eq_true rfl) ?_
    intro r Ia Ja Ra hq
    obtain ⟨⟨ea, eb, ec⟩, v5803, rfl, av5803, bv5803, cv5803⟩ := hq
    show WP _ _ _ _ (.int _ :: _) _ _ _ _
    rw [ea, eb, ec]
    clear ea eb ec Ia Ja Ra
    refine WQ_icmp_le 29 dX3_faultOfNumber_24 rfl (fun c5803 => ?_) (fun c5803 => ?_)
    · refine WP_aload_n dX3_faultOfNumber_29 rfl ?_
      refine WP_getr dX3_faultOfNumber_30 fX3_9 rfl (lyx_is hy 3 3 rfl) (rfx hr 3 3 4 (by decide)) ?_
      refine WP_iload_n dX3_faultOfNumber_33 rfl ?_
      refine WP_iload dX3_faultOfNumber_34 rfl ?_
      refine WQ_iast dX3_faultOfNumber_36 (lyx_is hy 4 13 rfl) (lyx_n hy 4 5 rfl) (by omega) (by omega) (fun I5805 fI5805 => ?_)
      have eI5805 := fI5805
      rw [cl (x := ix) (n := 3) (by omega)] at eI5805
      clear fI5805
      have hI5805 : XI g n L I5805 := by rw [eI5805]; exact (xi_f hy hI (c := 4) (0) (0) (1000) (by decide) (Or.inl (by decide)) (by decide) (by omega) (by omega))
      have e5806 : I5805 (ad g 1) 1 = L := by rw [eI5805, pp_ne _ _ (Or.inl (lyx_ne hy (by decide) (by decide) (by decide)))]; exact e5791
      have e5807 : I5805 (ad g 4) 0 = w5793 := by rw [eI5805, pp_ne _ _ (Or.inr (by decide))]; exact ew5793
      have e5808 : I5805 (ad g 4) 1 = w5794 := by rw [eI5805, pp_ne _ _ (Or.inr (by decide))]; exact ew5794
      have e5809 : I5805 (ad g 4) 2 = w5795 := by rw [eI5805, pp_ne _ _ (Or.inr (by decide))]; exact ew5795
      have e5810 : I5805 (ad g 6) 1 = w5796 := by rw [eI5805, pp_ne _ _ (Or.inl (lyx_ne hy (by decide) (by decide) (by decide)))]; exact ew5796
      have e5811 : I5805 (ad g 6) 2 = w5797 := by rw [eI5805, pp_ne _ _ (Or.inl (lyx_ne hy (by decide) (by decide) (by decide)))]; exact ew5797
      have e5812 : I5805 (ad g 1) 4 = v5798 := by rw [eI5805, pp_ne _ _ (Or.inl (lyx_ne hy (by decide) (by decide) (by decide)))]; exact ev5798
      have e5813 : I5805 (ad g 4) 3 = v5798 := by rw [eI5805, pp_self]
      clear eI5805
      refine WP_iload_n dX3_faultOfNumber_37 rfl ?_
      refine WQ_bipush (68) (68) dX3_faultOfNumber_38 rfl rfl (fun v5814 hv5814 => ?_)
      refine WQ_icmp_eq 45 dX3_faultOfNumber_40 rfl (fun c5814 => False.elim (by omega)) (fun c5814 => ?_)
      refine WQ_iconst (0) (0) dX3_faultOfNumber_43 rfl rfl (fun v5816 hv5816 => ?_)
      exact WP_iret dX3_faultOfNumber_44 rfl ⟨⟨hI5805, rfl, ⟨trivial, (by rw [e5807, ew5793] <;> exact (eq32 _ _).mpr (by omega)), (by rw [e5808, ew5794] <;> exact (eq32 _ _).mpr (by omega)), (by rw [e5809, ew5795] <;> exact (eq32 _ _).mpr (by omega)), (by rw [e5810, ew5796] <;> exact (eq32 _ _).mpr (by omega)), (by rw [e5811, ew5797] <;> exact (eq32 _ _).mpr (by omega))⟩⟩, _, rfl, by omega, by omega, by (try rw [e5813]); omega⟩
    · refine WQ_iconst (2) (2) dX3_faultOfNumber_27 rfl rfl (fun v5817 hv5817 => ?_)
      obtain ⟨w5818, ew5818⟩ : ∃ w : Int32, I (ad g 4) 3 = w := ⟨_, rfl⟩
      have bw5818 := BT_get hI.1 4 0 5 (0) (0) (1000) (by decide) 3 (by decide) (by decide)
      rw [ew5818] at bw5818
      exact WP_iret dX3_faultOfNumber_28 rfl ⟨⟨hI, rfl, ⟨trivial, rfl, rfl, rfl, rfl, rfl⟩⟩, _, rfl, by omega, by omega, by (try rw [ew5818]); omega⟩
set_option maxHeartbeats 4000000 in
set_option maxRecDepth 100000 in
theorem sx_part_6_6_4 {g : GG} {n : Int} {L : Int32} (hy : LyX g)  {I : pI} {J : pJ} {R : pR} (hr : RfX g R) (hI : XI g n L I) (pa : Int32) (cz : Int32) (ix : Int32) (pa_lo : 86 ≤ pa.toInt) (pa_hi : pa.toInt ≤ 86) (cz_lo : 6 ≤ cz.toInt) (cz_hi : cz.toInt ≤ 6) (ix_lo : 4 ≤ ix.toInt) (ix_hi : ix.toInt ≤ 4) : SP g mX3_faultOfNumber [.ref (ad g 3), .int pa, .int cz, .int ix, .ref (ad g 6)] I J R (fun r I' J' R' => (XI g n L I' ∧ R' = R ∧ True ∧ I' (ad g 4) 0 = I (ad g 4) 0 ∧ I' (ad g 4) 1 = I (ad g 4) 1 ∧ I' (ad g 4) 2 = I (ad g 4) 2 ∧ I' (ad g 4) 3 = I (ad g 4) 3 ∧ I' (ad g 6) 1 = I (ad g 6) 1 ∧ I' (ad g 6) 2 = I (ad g 6) 2) ∧ ∃ v : Int32, r = some (.int v) ∧ 0 ≤ v.toInt ∧ v.toInt ≤ 5 ∧ (v.toInt = 0 → (I' (ad g 4) 4).toInt ≤ 99)) := by
  refine SP_of ⟨by decide, rfl⟩ (Nat.le_of_ble_eq_true rfl) ?_
  have e5819 : I (ad g 1) 1 = L := hI.2
  have b5820 := BT_get hI.1 1 1 2 (0) (0) (900) (by decide) 1 (by decide) (by decide)
  rw [e5819] at b5820
  obtain ⟨w5821, ew5821⟩ : ∃ w : Int32, I (ad g 4) 0 = w := ⟨_, rfl⟩
  have bw5821 := BT_get hI.1 4 0 5 (0) (0) (1000) (by decide) 0 (by decide) (by decide)
  rw [ew5821] at bw5821
  obtain ⟨w5822, ew5822⟩ : ∃ w : Int32, I (ad g 4) 1 = w := ⟨_, rfl⟩
  have bw5822 := BT_get hI.1 4 0 5 (0) (0) (1000) (by decide) 1 (by decide) (by decide)
  rw [ew5822] at bw5822
  obtain ⟨w5823, ew5823⟩ : ∃ w : Int32, I (ad g 4) 2 = w := ⟨_, rfl⟩
  have bw5823 := BT_get hI.1 4 0 5 (0) (0) (1000) (by decide) 2 (by decide) (by decide)
  rw [ew5823] at bw5823
  obtain ⟨w5824, ew5824⟩ : ∃ w : Int32, I (ad g 4) 3 = w := ⟨_, rfl⟩
  have bw5824 := BT_get hI.1 4 0 5 (0) (0) (1000) (by decide) 3 (by decide) (by decide)
  rw [ew5824] at bw5824
  obtain ⟨w5825, ew5825⟩ : ∃ w : Int32, I (ad g 6) 1 = w := ⟨_, rfl⟩
  have bw5825 := BT_get hI.1 6 1 2 (0) (0) (4) (by decide) 1 (by decide) (by decide)
  rw [ew5825] at bw5825
  obtain ⟨w5826, ew5826⟩ : ∃ w : Int32, I (ad g 6) 2 = w := ⟨_, rfl⟩
  have bw5826 := BT_get hI.1 6 2 3 (0) (0) (3) (by decide) 2 (by decide) (by decide)
  rw [ew5826] at bw5826
  refine WP_aload_n dX3_faultOfNumber_0 rfl ?_
  refine WP_getr dX3_faultOfNumber_1 fX3_15 rfl (lyx_is hy 3 3 rfl) (rfx hr 3 2 1 (by decide)) ?_
  refine WQ_getiu dX3_faultOfNumber_4 fX3_118 rfl (lyx_is hy 1 5 rfl) (fun v5827 ev5827 => ?_)
  refine WP_istore (ls' := [(0, _), (1, _), (2, _), (3, _), (4, _), (5, _)]) dX3_faultOfNumber_7 (by decide) rfl ?_
  refine WP_iload dX3_faultOfNumber_9 rfl ?_
  refine WP_iload_n dX3_faultOfNumber_11 rfl ?_
  refine WP_callS1 dX3_faultOfNumber_12 ⟨⟨⟨by decide, by decide⟩, zX3_leastOf⟩, lX3_121, tX3_leastOf⟩ (sx_leastOf hy hr hI pa ) (Nat.le_of_ble_eq_true rfl) ?_
  intro r Ia Ja Ra hq
  obtain ⟨⟨ea, eb, ec⟩, v5828, rfl, av5828, bv5828⟩ := hq
  show WP _ _ _ _ (.int _ :: _) _ _ _ _
  rw [ea, eb, ec]
  clear ea eb ec Ia Ja Ra
  refine WQ_icmp_lt 27 dX3_faultOfNumber_15 rfl (fun c5828 => ?_) (fun c5828 => ?_)
  · refine WQ_iconst (2) (2) dX3_faultOfNumber_27 rfl rfl (fun v5830 hv5830 => ?_)
    obtain ⟨w5831, ew5831⟩ : ∃ w : Int32, I (ad g 4) 4 = w := ⟨_, rfl⟩
    have bw5831 := BT_get hI.1 4 0 5 (0) (0) (1000) (by decide) 4 (by decide) (by decide)
    rw [ew5831] at bw5831
    exact WP_iret dX3_faultOfNumber_28 rfl ⟨⟨hI, rfl, ⟨trivial, rfl, rfl, rfl, rfl, rfl, rfl⟩⟩, _, rfl, by omega, by omega, by (try rw [ew5831]); omega⟩
  · refine WP_iload dX3_faultOfNumber_18 rfl ?_
    refine WP_iload_n dX3_faultOfNumber_20 rfl ?_
    refine WP_callS1 dX3_faultOfNumber_21 ⟨⟨⟨by decide, by decide⟩, zX3_mostOf⟩, lX3_125, tX3_mostOf⟩ (sx_mostOf hy hr hI pa ) (Nat.le_of_ble_eq_true rfl) ?_
    intro r Ia Ja Ra hq
    obtain ⟨⟨ea, eb, ec⟩, v5832, rfl, av5832, bv5832, cv5832⟩ := hq
    show WP _ _ _ _ (.int _ :: _) _ _ _ _
    rw [ea, eb, ec]
    clear ea eb ec Ia Ja Ra
    refine WQ_icmp_le 29 dX3_faultOfNumber_24 rfl (fun c5832 => ?_) (fun c5832 => ?_)
    · refine WP_aload_n dX3_faultOfNumber_29 rfl ?_
      refine WP_getr dX3_faultOfNumber_30 fX3_9 rfl (lyx_is hy 3 3 rfl) (rfx hr 3 3 4 (by decide)) ?_
      refine WP_iload_n dX3_faultOfNumber_33 rfl ?_
      refine WP_iload dX3_faultOfNumber_34 rfl ?_
      refine WQ_iast dX3_faultOfNumber_36 (lyx_is hy 4 13 rfl) (lyx_n hy 4 5 rfl) (by omega) (by omega) (fun I5834 fI5834 => ?_)
      have eI5834 := fI5834
      rw [cl (x := ix) (n := 4) (by omega)] at eI5834
      clear fI5834
      have hI5834 : XI g n L I5834 := by rw [eI5834]; exact (xi_f hy hI (c := 4) (0) (0) (1000) (by decide) (Or.inl (by decide)) (by decide) (by omega) (by omega))
      have e5835 : I5834 (ad g 1) 1 = L := by rw [eI5834, pp_ne _ _ (Or.inl (lyx_ne hy (by decide) (by decide) (by decide)))]; exact e5819
      have e5836 : I5834 (ad g 4) 0 = w5821 := by rw [eI5834, pp_ne _ _ (Or.inr (by decide))]; exact ew5821
      have e5837 : I5834 (ad g 4) 1 = w5822 := by rw [eI5834, pp_ne _ _ (Or.inr (by decide))]; exact ew5822
      have e5838 : I5834 (ad g 4) 2 = w5823 := by rw [eI5834, pp_ne _ _ (Or.inr (by decide))]; exact ew5823
      have e5839 : I5834 (ad g 4) 3 = w5824 := by rw [eI5834, pp_ne _ _ (Or.inr (by decide))]; exact ew5824
      have e5840 : I5834 (ad g 6) 1 = w5825 := by rw [eI5834, pp_ne _ _ (Or.inl (lyx_ne hy (by decide) (by decide) (by decide)))]; exact ew5825
      have e5841 : I5834 (ad g 6) 2 = w5826 := by rw [eI5834, pp_ne _ _ (Or.inl (lyx_ne hy (by decide) (by decide) (by decide)))]; exact ew5826
      have e5842 : I5834 (ad g 1) 4 = v5827 := by rw [eI5834, pp_ne _ _ (Or.inl (lyx_ne hy (by decide) (by decide) (by decide)))]; exact ev5827
      have e5843 : I5834 (ad g 4) 4 = v5827 := by rw [eI5834, pp_self]
      clear eI5834
      refine WP_iload_n dX3_faultOfNumber_37 rfl ?_
      refine WQ_bipush (68) (68) dX3_faultOfNumber_38 rfl rfl (fun v5844 hv5844 => ?_)
      refine WQ_icmp_eq 45 dX3_faultOfNumber_40 rfl (fun c5844 => False.elim (by omega)) (fun c5844 => ?_)
      refine WQ_iconst (0) (0) dX3_faultOfNumber_43 rfl rfl (fun v5846 hv5846 => ?_)
      exact WP_iret dX3_faultOfNumber_44 rfl ⟨⟨hI5834, rfl, ⟨trivial, (by rw [e5836, ew5821] <;> exact (eq32 _ _).mpr (by omega)), (by rw [e5837, ew5822] <;> exact (eq32 _ _).mpr (by omega)), (by rw [e5838, ew5823] <;> exact (eq32 _ _).mpr (by omega)), (by rw [e5839, ew5824] <;> exact (eq32 _ _).mpr (by omega)), (by rw [e5840, ew5825] <;> exact (eq32 _ _).mpr (by omega)), (by rw [e5841, ew5826] <;> exact (eq32 _ _).mpr (by omega))⟩⟩, _, rfl, by omega, by omega, by (try rw [e5843]); omega⟩
    · refine WQ_iconst (2) (2) dX3_faultOfNumber_27 rfl rfl (fun v5847 hv5847 => ?_)
      obtain ⟨w5848, ew5848⟩ : ∃ w : Int32, I (ad g 4) 4 = w := ⟨_, rfl⟩
      have bw5848 := BT_get hI.1 4 0 5 (0) (0) (1000) (by decide) 4 (by decide) (by decide)
      rw [ew5848] at bw5848
      exact WP_iret dX3_faultOfNumber_28 rfl ⟨⟨hI, rfl, ⟨trivial, rfl, rfl, rfl, rfl, rfl, rfl⟩⟩, _, rfl, by omega, by omega, by (try rw [ew5848]); omega⟩
set_option maxHeartbeats 4000000 in
set_option maxRecDepth 100000 in
theorem sx_part_6_7_0 {g : GG} {n : Int} {L : Int32} (hy : LyX g)  {I : pI} {J : pJ} {R : pR} (hr : RfX g R) (hI : XI g n L I) (pa : Int32) (cz : Int32) (ix : Int32) (pa_lo : 115 ≤ pa.toInt) (pa_hi : pa.toInt ≤ 115) (cz_lo : 7 ≤ cz.toInt) (cz_hi : cz.toInt ≤ 7) (ix_lo : 0 ≤ ix.toInt) (ix_hi : ix.toInt ≤ 0) : SP g mX3_faultOfName [.ref (ad g 3), .int pa, .int cz, .int ix, .ref (ad g 6)] I J R (fun r I' J' R' => (XI g n L I' ∧ R' = R ∧ True ∧ I' (ad g 6) 1 = I (ad g 6) 1 ∧ I' (ad g 6) 2 = I (ad g 6) 2) ∧ ∃ v : Int32, r = some (.int v) ∧ 0 ≤ v.toInt ∧ v.toInt ≤ 5 ∧ (v.toInt = 0 → (I' (ad g 4) 0).toInt ≤ 3)) := by
  refine SP_of ⟨by decide, rfl⟩ (Nat.le_of_ble_eq_true rfl) ?_
  have e5849 : I (ad g 1) 1 = L := hI.2
  have b5850 := BT_get hI.1 1 1 2 (0) (0) (900) (by decide) 1 (by decide) (by decide)
  rw [e5849] at b5850
  obtain ⟨w5851, ew5851⟩ : ∃ w : Int32, I (ad g 6) 1 = w := ⟨_, rfl⟩
  have bw5851 := BT_get hI.1 6 1 2 (0) (0) (4) (by decide) 1 (by decide) (by decide)
  rw [ew5851] at bw5851
  obtain ⟨w5852, ew5852⟩ : ∃ w : Int32, I (ad g 6) 2 = w := ⟨_, rfl⟩
  have bw5852 := BT_get hI.1 6 2 3 (0) (0) (3) (by decide) 2 (by decide) (by decide)
  rw [ew5852] at bw5852
  refine WP_iload_n dX3_faultOfName_0 rfl ?_
  refine WQ_bipush (115) (115) dX3_faultOfName_1 rfl rfl (fun v5853 hv5853 => ?_)
  refine WQ_icmp_eq 12 dX3_faultOfName_3 rfl (fun c5853 => ?_) (fun c5853 => False.elim (by omega))
  refine WQ_iconst (1) (1) dX3_faultOfName_12 rfl rfl (fun v5855 hv5855 => ?_)
  refine WP_goto 17 dX3_faultOfName_13 rfl ?_
  refine WP_istore (ls' := [(0, _), (1, _), (2, _), (3, _), (4, _), (5, _)]) dX3_faultOfName_17 (by decide) rfl ?_
  refine WP_iload dX3_faultOfName_19 rfl ?_
  refine WQ_if_eq 39 dX3_faultOfName_21 rfl (fun c5855 => False.elim (by omega)) (fun c5855 => ?_)
  refine WP_aload dX3_faultOfName_24 rfl ?_
  refine WP_aload_n dX3_faultOfName_26 rfl ?_
  refine WP_getr dX3_faultOfName_27 fX3_15 rfl (lyx_is hy 3 3 rfl) (rfx hr 3 2 1 (by decide)) ?_
  refine WQ_getl dX3_faultOfName_30 fX3_80 rfl (lyx_is hy 1 5 rfl) (fun l5857 el5857 => ?_)
  refine WP_callV1 (k := 7) dX3_faultOfName_33 ⟨⟨⟨by decide, by decide⟩, zX7_sortNamed⟩, lX3_103, by decide, rfl, vX7_sortNamed.1, vX7_sortNamed.2⟩ (lyx_is hy 6 7 rfl) (sx_sortNamed_6 hy hr hI l5857 ) (Nat.le_of_ble_eq_true rfl) ?_
  intro r Ia Ja Ra hq
  obtain ⟨⟨ea, eb, ec⟩, v5858, rfl, av5858, bv5858⟩ := hq
  show WP _ _ _ _ (.int _ :: _) _ _ _ _
  rw [ea, eb, ec]
  clear ea eb ec Ia Ja Ra
  refine WP_goto 51 dX3_faultOfName_36 rfl ?_
  refine WP_istore (ls' := [(0, _), (1, _), (2, _), (3, _), (4, _), (5, _), (6, _)]) dX3_faultOfName_51 (by decide) rfl ?_
  refine WP_iload_n dX3_faultOfName_53 rfl ?_
  refine WQ_bipush (110) (110) dX3_faultOfName_54 rfl rfl (fun v5859 hv5859 => ?_)
  refine WQ_icmp_eq 65 dX3_faultOfName_56 rfl (fun c5859 => False.elim (by omega)) (fun c5859 => ?_)
  refine WP_iload_n dX3_faultOfName_59 rfl ?_
  refine WQ_bipush (109) (109) dX3_faultOfName_60 rfl rfl (fun v5861 hv5861 => ?_)
  refine WQ_icmp_ne 98 dX3_faultOfName_62 rfl (fun c5861 => ?_) (fun c5861 => False.elim (by omega))
  refine WP_iload dX3_faultOfName_98 rfl ?_
  refine WQ_iconst (-1) (-1) dX3_faultOfName_100 rfl rfl (fun v5863 hv5863 => ?_)
  refine WQ_icmp_ne 106 dX3_faultOfName_101 rfl (fun c5863 => ?_) (fun c5863 => ?_)
  · refine WP_aload_n dX3_faultOfName_106 rfl ?_
    refine WP_getr dX3_faultOfName_107 fX3_9 rfl (lyx_is hy 3 3 rfl) (rfx hr 3 3 4 (by decide)) ?_
    refine WP_iload_n dX3_faultOfName_110 rfl ?_
    refine WP_iload dX3_faultOfName_111 rfl ?_
    refine WQ_iast dX3_faultOfName_113 (lyx_is hy 4 13 rfl) (lyx_n hy 4 5 rfl) (by omega) (by omega) (fun I5865 fI5865 => ?_)
    have eI5865 := fI5865
    rw [cl (x := ix) (n := 0) (by omega)] at eI5865
    clear fI5865
    have hI5865 : XI g n L I5865 := by rw [eI5865]; exact (xi_f hy hI (c := 4) (0) (0) (1000) (by decide) (Or.inl (by decide)) (by decide) (by omega) (by omega))
    have e5866 : I5865 (ad g 1) 1 = L := by rw [eI5865, pp_ne _ _ (Or.inl (lyx_ne hy (by decide) (by decide) (by decide)))]; exact e5849
    have e5867 : I5865 (ad g 6) 1 = w5851 := by rw [eI5865, pp_ne _ _ (Or.inl (lyx_ne hy (by decide) (by decide) (by decide)))]; exact ew5851
    have e5868 : I5865 (ad g 6) 2 = w5852 := by rw [eI5865, pp_ne _ _ (Or.inl (lyx_ne hy (by decide) (by decide) (by decide)))]; exact ew5852
    have e5869 : I5865 (ad g 4) 0 = v5858 := by rw [eI5865, pp_self]
    clear eI5865
    refine WP_iload_n dX3_faultOfName_114 rfl ?_
    refine WQ_bipush (7) (7) dX3_faultOfName_115 rfl rfl (fun v5870 hv5870 => ?_)
    refine WQ_icmp_ne 137 dX3_faultOfName_117 rfl (fun c5870 => False.elim (by omega)) (fun c5870 => ?_)
    refine WP_aload dX3_faultOfName_120 rfl ?_
    refine WQ_bipush (7) (7) dX3_faultOfName_122 rfl rfl (fun v5872 hv5872 => ?_)
    refine WP_iload dX3_faultOfName_124 rfl ?_
    refine WQ_iconst (0) (0) dX3_faultOfName_126 rfl rfl (fun v5873 hv5873 => ?_)
    refine WP_callV3 (k := 7) dX3_faultOfName_127 ⟨⟨⟨by decide, by decide⟩, zX7_isTold⟩, lX3_114, by decide, rfl, vX7_isTold.1, vX7_isTold.2⟩ (lyx_is hy 6 7 rfl) (sx_isTold_6 hy hr hI5865 v5872 v5858 v5873 (by omega) (by omega) (by omega) (by omega) ) (Nat.le_of_ble_eq_true rfl) ?_
    intro r Ia Ja Ra hq
    obtain ⟨⟨ea, eb, ec⟩, v5874, rfl, av5874, bv5874⟩ := hq
    show WP _ _ _ _ (.int _ :: _) _ _ _ _
    rw [ea, eb, ec]
    clear ea eb ec Ia Ja Ra
    refine WQ_if_eq 137 dX3_faultOfName_130 rfl (fun c5874 => ?_) (fun c5874 => ?_)
    · refine WQ_iconst (0) (0) dX3_faultOfName_137 rfl rfl (fun v5876 hv5876 => ?_)
      exact WP_iret dX3_faultOfName_138 rfl ⟨⟨hI5865, rfl, ⟨trivial, (by rw [e5867, ew5851] <;> exact (eq32 _ _).mpr (by omega)), (by rw [e5868, ew5852] <;> exact (eq32 _ _).mpr (by omega))⟩⟩, _, rfl, by omega, by omega, by (try rw [e5869]); omega⟩
    · refine WQ_iconst (3) (3) dX3_faultOfName_133 rfl rfl (fun v5877 hv5877 => ?_)
      refine WP_goto 138 dX3_faultOfName_134 rfl ?_
      exact WP_iret dX3_faultOfName_138 rfl ⟨⟨hI5865, rfl, ⟨trivial, (by rw [e5867, ew5851] <;> exact (eq32 _ _).mpr (by omega)), (by rw [e5868, ew5852] <;> exact (eq32 _ _).mpr (by omega))⟩⟩, _, rfl, by omega, by omega, by (try rw [e5869]); omega⟩
  · refine WQ_iconst (5) (5) dX3_faultOfName_104 rfl rfl (fun v5878 hv5878 => ?_)
    obtain ⟨w5879, ew5879⟩ : ∃ w : Int32, I (ad g 4) 0 = w := ⟨_, rfl⟩
    have bw5879 := BT_get hI.1 4 0 5 (0) (0) (1000) (by decide) 0 (by decide) (by decide)
    rw [ew5879] at bw5879
    exact WP_iret dX3_faultOfName_105 rfl ⟨⟨hI, rfl, ⟨trivial, rfl, rfl⟩⟩, _, rfl, by omega, by omega, by (try rw [ew5879]); omega⟩
set_option maxHeartbeats 4000000 in
set_option maxRecDepth 100000 in
theorem sx_part_6_7_1 {g : GG} {n : Int} {L : Int32} (hy : LyX g)  {I : pI} {J : pJ} {R : pR} (hr : RfX g R) (hI : XI g n L I) (pa : Int32) (cz : Int32) (ix : Int32) (pa_lo : 73 ≤ pa.toInt) (pa_hi : pa.toInt ≤ 73) (cz_lo : 7 ≤ cz.toInt) (cz_hi : cz.toInt ≤ 7) (ix_lo : 1 ≤ ix.toInt) (ix_hi : ix.toInt ≤ 1) : SP g mX3_faultOfNumber [.ref (ad g 3), .int pa, .int cz, .int ix, .ref (ad g 6)] I J R (fun r I' J' R' => (XI g n L I' ∧ R' = R ∧ True ∧ I' (ad g 4) 0 = I (ad g 4) 0 ∧ I' (ad g 6) 1 = I (ad g 6) 1 ∧ I' (ad g 6) 2 = I (ad g 6) 2) ∧ ∃ v : Int32, r = some (.int v) ∧ 0 ≤ v.toInt ∧ v.toInt ≤ 5 ∧ (v.toInt = 0 → (I' (ad g 4) 1).toInt ≤ 127)) := by
  refine SP_of ⟨by decide, rfl⟩ (Nat.le_of_ble_eq_true rfl) ?_
  have e5880 : I (ad g 1) 1 = L := hI.2
  have b5881 := BT_get hI.1 1 1 2 (0) (0) (900) (by decide) 1 (by decide) (by decide)
  rw [e5880] at b5881
  obtain ⟨w5882, ew5882⟩ : ∃ w : Int32, I (ad g 4) 0 = w := ⟨_, rfl⟩
  have bw5882 := BT_get hI.1 4 0 5 (0) (0) (1000) (by decide) 0 (by decide) (by decide)
  rw [ew5882] at bw5882
  obtain ⟨w5883, ew5883⟩ : ∃ w : Int32, I (ad g 6) 1 = w := ⟨_, rfl⟩
  have bw5883 := BT_get hI.1 6 1 2 (0) (0) (4) (by decide) 1 (by decide) (by decide)
  rw [ew5883] at bw5883
  obtain ⟨w5884, ew5884⟩ : ∃ w : Int32, I (ad g 6) 2 = w := ⟨_, rfl⟩
  have bw5884 := BT_get hI.1 6 2 3 (0) (0) (3) (by decide) 2 (by decide) (by decide)
  rw [ew5884] at bw5884
  refine WP_aload_n dX3_faultOfNumber_0 rfl ?_
  refine WP_getr dX3_faultOfNumber_1 fX3_15 rfl (lyx_is hy 3 3 rfl) (rfx hr 3 2 1 (by decide)) ?_
  refine WQ_getiu dX3_faultOfNumber_4 fX3_118 rfl (lyx_is hy 1 5 rfl) (fun v5885 ev5885 => ?_)
  refine WP_istore (ls' := [(0, _), (1, _), (2, _), (3, _), (4, _), (5, _)]) dX3_faultOfNumber_7 (by decide) rfl ?_
  refine WP_iload dX3_faultOfNumber_9 rfl ?_
  refine WP_iload_n dX3_faultOfNumber_11 rfl ?_
  refine WP_callS1 dX3_faultOfNumber_12 ⟨⟨⟨by decide, by decide⟩, zX3_leastOf⟩, lX3_121, tX3_leastOf⟩ (sx_leastOf hy hr hI pa ) (Nat.le_of_ble_eq_true rfl) ?_
  intro r Ia Ja Ra hq
  obtain ⟨⟨ea, eb, ec⟩, v5886, rfl, av5886, bv5886⟩ := hq
  show WP _ _ _ _ (.int _ :: _) _ _ _ _
  rw [ea, eb, ec]
  clear ea eb ec Ia Ja Ra
  refine WQ_icmp_lt 27 dX3_faultOfNumber_15 rfl (fun c5886 => ?_) (fun c5886 => ?_)
  · refine WQ_iconst (2) (2) dX3_faultOfNumber_27 rfl rfl (fun v5888 hv5888 => ?_)
    obtain ⟨w5889, ew5889⟩ : ∃ w : Int32, I (ad g 4) 1 = w := ⟨_, rfl⟩
    have bw5889 := BT_get hI.1 4 0 5 (0) (0) (1000) (by decide) 1 (by decide) (by decide)
    rw [ew5889] at bw5889
    exact WP_iret dX3_faultOfNumber_28 rfl ⟨⟨hI, rfl, ⟨trivial, rfl, rfl, rfl⟩⟩, _, rfl, by omega, by omega, by (try rw [ew5889]); omega⟩
  · refine WP_iload dX3_faultOfNumber_18 rfl ?_
    refine WP_iload_n dX3_faultOfNumber_20 rfl ?_
    refine WP_callS1 dX3_faultOfNumber_21 ⟨⟨⟨by decide, by decide⟩, zX3_mostOf⟩, lX3_125, tX3_mostOf⟩ (sx_mostOf hy hr hI pa ) (Nat.le_of_ble_eq_true rfl) ?_
    intro r Ia Ja Ra hq
    obtain ⟨⟨ea, eb, ec⟩, v5890, rfl, av5890, bv5890, cv5890⟩ := hq
    show WP _ _ _ _ (.int _ :: _) _ _ _ _
    rw [ea, eb, ec]
    clear ea eb ec Ia Ja Ra
    refine WQ_icmp_le 29 dX3_faultOfNumber_24 rfl (fun c5890 => ?_) (fun c5890 => ?_)
    · refine WP_aload_n dX3_faultOfNumber_29 rfl ?_
      refine WP_getr dX3_faultOfNumber_30 fX3_9 rfl (lyx_is hy 3 3 rfl) (rfx hr 3 3 4 (by decide)) ?_
      refine WP_iload_n dX3_faultOfNumber_33 rfl ?_
      refine WP_iload dX3_faultOfNumber_34 rfl ?_
      refine WQ_iast dX3_faultOfNumber_36 (lyx_is hy 4 13 rfl) (lyx_n hy 4 5 rfl) (by omega) (by omega) (fun I5892 fI5892 => ?_)
      have eI5892 := fI5892
      rw [cl (x := ix) (n := 1) (by omega)] at eI5892
      clear fI5892
      have hI5892 : XI g n L I5892 := by rw [eI5892]; exact (xi_f hy hI (c := 4) (0) (0) (1000) (by decide) (Or.inl (by decide)) (by decide) (by omega) (by omega))
      have e5893 : I5892 (ad g 1) 1 = L := by rw [eI5892, pp_ne _ _ (Or.inl (lyx_ne hy (by decide) (by decide) (by decide)))]; exact e5880
      have e5894 : I5892 (ad g 4) 0 = w5882 := by rw [eI5892, pp_ne _ _ (Or.inr (by decide))]; exact ew5882
      have e5895 : I5892 (ad g 6) 1 = w5883 := by rw [eI5892, pp_ne _ _ (Or.inl (lyx_ne hy (by decide) (by decide) (by decide)))]; exact ew5883
      have e5896 : I5892 (ad g 6) 2 = w5884 := by rw [eI5892, pp_ne _ _ (Or.inl (lyx_ne hy (by decide) (by decide) (by decide)))]; exact ew5884
      have e5897 : I5892 (ad g 1) 4 = v5885 := by rw [eI5892, pp_ne _ _ (Or.inl (lyx_ne hy (by decide) (by decide) (by decide)))]; exact ev5885
      have e5898 : I5892 (ad g 4) 1 = v5885 := by rw [eI5892, pp_self]
      clear eI5892
      refine WP_iload_n dX3_faultOfNumber_37 rfl ?_
      refine WQ_bipush (68) (68) dX3_faultOfNumber_38 rfl rfl (fun v5899 hv5899 => ?_)
      refine WQ_icmp_eq 45 dX3_faultOfNumber_40 rfl (fun c5899 => False.elim (by omega)) (fun c5899 => ?_)
      refine WQ_iconst (0) (0) dX3_faultOfNumber_43 rfl rfl (fun v5901 hv5901 => ?_)
      exact WP_iret dX3_faultOfNumber_44 rfl ⟨⟨hI5892, rfl, ⟨trivial, (by rw [e5894, ew5882] <;> exact (eq32 _ _).mpr (by omega)), (by rw [e5895, ew5883] <;> exact (eq32 _ _).mpr (by omega)), (by rw [e5896, ew5884] <;> exact (eq32 _ _).mpr (by omega))⟩⟩, _, rfl, by omega, by omega, by (try rw [e5898]); omega⟩
    · refine WQ_iconst (2) (2) dX3_faultOfNumber_27 rfl rfl (fun v5902 hv5902 => ?_)
      obtain ⟨w5903, ew5903⟩ : ∃ w : Int32, I (ad g 4) 1 = w := ⟨_, rfl⟩
      have bw5903 := BT_get hI.1 4 0 5 (0) (0) (1000) (by decide) 1 (by decide) (by decide)
      rw [ew5903] at bw5903
      exact WP_iret dX3_faultOfNumber_28 rfl ⟨⟨hI, rfl, ⟨trivial, rfl, rfl, rfl⟩⟩, _, rfl, by omega, by omega, by (try rw [ew5903]); omega⟩
set_option maxHeartbeats 4000000 in
set_option maxRecDepth 100000 in
theorem sx_part_6_8_0 {g : GG} {n : Int} {L : Int32} (hy : LyX g)  {I : pI} {J : pJ} {R : pR} (hr : RfX g R) (hI : XI g n L I) (pa : Int32) (cz : Int32) (ix : Int32) (pa_lo : 115 ≤ pa.toInt) (pa_hi : pa.toInt ≤ 115) (cz_lo : 8 ≤ cz.toInt) (cz_hi : cz.toInt ≤ 8) (ix_lo : 0 ≤ ix.toInt) (ix_hi : ix.toInt ≤ 0) : SP g mX3_faultOfName [.ref (ad g 3), .int pa, .int cz, .int ix, .ref (ad g 6)] I J R (fun r I' J' R' => (XI g n L I' ∧ R' = R ∧ True ∧ I' (ad g 6) 1 = I (ad g 6) 1 ∧ I' (ad g 6) 2 = I (ad g 6) 2) ∧ ∃ v : Int32, r = some (.int v) ∧ 0 ≤ v.toInt ∧ v.toInt ≤ 5 ∧ (v.toInt = 0 → (I' (ad g 4) 0).toInt ≤ 3)) := by
  refine SP_of ⟨by decide, rfl⟩ (Nat.le_of_ble_eq_true rfl) ?_
  have e5904 : I (ad g 1) 1 = L := hI.2
  have b5905 := BT_get hI.1 1 1 2 (0) (0) (900) (by decide) 1 (by decide) (by decide)
  rw [e5904] at b5905
  obtain ⟨w5906, ew5906⟩ : ∃ w : Int32, I (ad g 6) 1 = w := ⟨_, rfl⟩
  have bw5906 := BT_get hI.1 6 1 2 (0) (0) (4) (by decide) 1 (by decide) (by decide)
  rw [ew5906] at bw5906
  obtain ⟨w5907, ew5907⟩ : ∃ w : Int32, I (ad g 6) 2 = w := ⟨_, rfl⟩
  have bw5907 := BT_get hI.1 6 2 3 (0) (0) (3) (by decide) 2 (by decide) (by decide)
  rw [ew5907] at bw5907
  refine WP_iload_n dX3_faultOfName_0 rfl ?_
  refine WQ_bipush (115) (115) dX3_faultOfName_1 rfl rfl (fun v5908 hv5908 => ?_)
  refine WQ_icmp_eq 12 dX3_faultOfName_3 rfl (fun c5908 => ?_) (fun c5908 => False.elim (by omega))
  refine WQ_iconst (1) (1) dX3_faultOfName_12 rfl rfl (fun v5910 hv5910 => ?_)
  refine WP_goto 17 dX3_faultOfName_13 rfl ?_
  refine WP_istore (ls' := [(0, _), (1, _), (2, _), (3, _), (4, _), (5, _)]) dX3_faultOfName_17 (by decide) rfl ?_
  refine WP_iload dX3_faultOfName_19 rfl ?_
  refine WQ_if_eq 39 dX3_faultOfName_21 rfl (fun c5910 => False.elim (by omega)) (fun c5910 => ?_)
  refine WP_aload dX3_faultOfName_24 rfl ?_
  refine WP_aload_n dX3_faultOfName_26 rfl ?_
  refine WP_getr dX3_faultOfName_27 fX3_15 rfl (lyx_is hy 3 3 rfl) (rfx hr 3 2 1 (by decide)) ?_
  refine WQ_getl dX3_faultOfName_30 fX3_80 rfl (lyx_is hy 1 5 rfl) (fun l5912 el5912 => ?_)
  refine WP_callV1 (k := 7) dX3_faultOfName_33 ⟨⟨⟨by decide, by decide⟩, zX7_sortNamed⟩, lX3_103, by decide, rfl, vX7_sortNamed.1, vX7_sortNamed.2⟩ (lyx_is hy 6 7 rfl) (sx_sortNamed_6 hy hr hI l5912 ) (Nat.le_of_ble_eq_true rfl) ?_
  intro r Ia Ja Ra hq
  obtain ⟨⟨ea, eb, ec⟩, v5913, rfl, av5913, bv5913⟩ := hq
  show WP _ _ _ _ (.int _ :: _) _ _ _ _
  rw [ea, eb, ec]
  clear ea eb ec Ia Ja Ra
  refine WP_goto 51 dX3_faultOfName_36 rfl ?_
  refine WP_istore (ls' := [(0, _), (1, _), (2, _), (3, _), (4, _), (5, _), (6, _)]) dX3_faultOfName_51 (by decide) rfl ?_
  refine WP_iload_n dX3_faultOfName_53 rfl ?_
  refine WQ_bipush (110) (110) dX3_faultOfName_54 rfl rfl (fun v5914 hv5914 => ?_)
  refine WQ_icmp_eq 65 dX3_faultOfName_56 rfl (fun c5914 => False.elim (by omega)) (fun c5914 => ?_)
  refine WP_iload_n dX3_faultOfName_59 rfl ?_
  refine WQ_bipush (109) (109) dX3_faultOfName_60 rfl rfl (fun v5916 hv5916 => ?_)
  refine WQ_icmp_ne 98 dX3_faultOfName_62 rfl (fun c5916 => ?_) (fun c5916 => False.elim (by omega))
  refine WP_iload dX3_faultOfName_98 rfl ?_
  refine WQ_iconst (-1) (-1) dX3_faultOfName_100 rfl rfl (fun v5918 hv5918 => ?_)
  refine WQ_icmp_ne 106 dX3_faultOfName_101 rfl (fun c5918 => ?_) (fun c5918 => ?_)
  · refine WP_aload_n dX3_faultOfName_106 rfl ?_
    refine WP_getr dX3_faultOfName_107 fX3_9 rfl (lyx_is hy 3 3 rfl) (rfx hr 3 3 4 (by decide)) ?_
    refine WP_iload_n dX3_faultOfName_110 rfl ?_
    refine WP_iload dX3_faultOfName_111 rfl ?_
    refine WQ_iast dX3_faultOfName_113 (lyx_is hy 4 13 rfl) (lyx_n hy 4 5 rfl) (by omega) (by omega) (fun I5920 fI5920 => ?_)
    have eI5920 := fI5920
    rw [cl (x := ix) (n := 0) (by omega)] at eI5920
    clear fI5920
    have hI5920 : XI g n L I5920 := by rw [eI5920]; exact (xi_f hy hI (c := 4) (0) (0) (1000) (by decide) (Or.inl (by decide)) (by decide) (by omega) (by omega))
    have e5921 : I5920 (ad g 1) 1 = L := by rw [eI5920, pp_ne _ _ (Or.inl (lyx_ne hy (by decide) (by decide) (by decide)))]; exact e5904
    have e5922 : I5920 (ad g 6) 1 = w5906 := by rw [eI5920, pp_ne _ _ (Or.inl (lyx_ne hy (by decide) (by decide) (by decide)))]; exact ew5906
    have e5923 : I5920 (ad g 6) 2 = w5907 := by rw [eI5920, pp_ne _ _ (Or.inl (lyx_ne hy (by decide) (by decide) (by decide)))]; exact ew5907
    have e5924 : I5920 (ad g 4) 0 = v5913 := by rw [eI5920, pp_self]
    clear eI5920
    refine WP_iload_n dX3_faultOfName_114 rfl ?_
    refine WQ_bipush (7) (7) dX3_faultOfName_115 rfl rfl (fun v5925 hv5925 => ?_)
    refine WQ_icmp_ne 137 dX3_faultOfName_117 rfl (fun c5925 => ?_) (fun c5925 => False.elim (by omega))
    refine WQ_iconst (0) (0) dX3_faultOfName_137 rfl rfl (fun v5927 hv5927 => ?_)
    exact WP_iret dX3_faultOfName_138 rfl ⟨⟨hI5920, rfl, ⟨trivial, (by rw [e5922, ew5906] <;> exact (eq32 _ _).mpr (by omega)), (by rw [e5923, ew5907] <;> exact (eq32 _ _).mpr (by omega))⟩⟩, _, rfl, by omega, by omega, by (try rw [e5924]); omega⟩
  · refine WQ_iconst (5) (5) dX3_faultOfName_104 rfl rfl (fun v5928 hv5928 => ?_)
    obtain ⟨w5929, ew5929⟩ : ∃ w : Int32, I (ad g 4) 0 = w := ⟨_, rfl⟩
    have bw5929 := BT_get hI.1 4 0 5 (0) (0) (1000) (by decide) 0 (by decide) (by decide)
    rw [ew5929] at bw5929
    exact WP_iret dX3_faultOfName_105 rfl ⟨⟨hI, rfl, ⟨trivial, rfl, rfl⟩⟩, _, rfl, by omega, by omega, by (try rw [ew5929]); omega⟩
set_option maxHeartbeats 4000000 in
set_option maxRecDepth 100000 in
theorem sx_part_6_9_0 {g : GG} {n : Int} {L : Int32} (hy : LyX g)  {I : pI} {J : pJ} {R : pR} (hr : RfX g R) (hI : XI g n L I) (pa : Int32) (cz : Int32) (ix : Int32) (pa_lo : 116 ≤ pa.toInt) (pa_hi : pa.toInt ≤ 116) (cz_lo : 9 ≤ cz.toInt) (cz_hi : cz.toInt ≤ 9) (ix_lo : 0 ≤ ix.toInt) (ix_hi : ix.toInt ≤ 0) : SP g mX3_faultOfName [.ref (ad g 3), .int pa, .int cz, .int ix, .ref (ad g 6)] I J R (fun r I' J' R' => (XI g n L I' ∧ R' = R ∧ True ∧ I' (ad g 6) 1 = I (ad g 6) 1 ∧ I' (ad g 6) 2 = I (ad g 6) 2) ∧ ∃ v : Int32, r = some (.int v) ∧ 0 ≤ v.toInt ∧ v.toInt ≤ 5 ∧ (v.toInt = 0 → (I' (ad g 4) 0).toInt ≤ 2)) := by
  refine SP_of ⟨by decide, rfl⟩ (Nat.le_of_ble_eq_true rfl) ?_
  have e5930 : I (ad g 1) 1 = L := hI.2
  have b5931 := BT_get hI.1 1 1 2 (0) (0) (900) (by decide) 1 (by decide) (by decide)
  rw [e5930] at b5931
  obtain ⟨w5932, ew5932⟩ : ∃ w : Int32, I (ad g 6) 1 = w := ⟨_, rfl⟩
  have bw5932 := BT_get hI.1 6 1 2 (0) (0) (4) (by decide) 1 (by decide) (by decide)
  rw [ew5932] at bw5932
  obtain ⟨w5933, ew5933⟩ : ∃ w : Int32, I (ad g 6) 2 = w := ⟨_, rfl⟩
  have bw5933 := BT_get hI.1 6 2 3 (0) (0) (3) (by decide) 2 (by decide) (by decide)
  rw [ew5933] at bw5933
  refine WP_iload_n dX3_faultOfName_0 rfl ?_
  refine WQ_bipush (115) (115) dX3_faultOfName_1 rfl rfl (fun v5934 hv5934 => ?_)
  refine WQ_icmp_eq 12 dX3_faultOfName_3 rfl (fun c5934 => False.elim (by omega)) (fun c5934 => ?_)
  refine WP_iload_n dX3_faultOfName_6 rfl ?_
  refine WQ_bipush (110) (110) dX3_faultOfName_7 rfl rfl (fun v5936 hv5936 => ?_)
  refine WQ_icmp_ne 16 dX3_faultOfName_9 rfl (fun c5936 => ?_) (fun c5936 => False.elim (by omega))
  refine WQ_iconst (0) (0) dX3_faultOfName_16 rfl rfl (fun v5938 hv5938 => ?_)
  refine WP_istore (ls' := [(0, _), (1, _), (2, _), (3, _), (4, _), (5, _)]) dX3_faultOfName_17 (by decide) rfl ?_
  refine WP_iload dX3_faultOfName_19 rfl ?_
  refine WQ_if_eq 39 dX3_faultOfName_21 rfl (fun c5938 => ?_) (fun c5938 => False.elim (by omega))
  refine WP_aload dX3_faultOfName_39 rfl ?_
  refine WP_aload_n dX3_faultOfName_41 rfl ?_
  refine WP_getr dX3_faultOfName_42 fX3_15 rfl (lyx_is hy 3 3 rfl) (rfx hr 3 2 1 (by decide)) ?_
  refine WQ_getl dX3_faultOfName_45 fX3_80 rfl (lyx_is hy 1 5 rfl) (fun l5940 el5940 => ?_)
  refine WP_callV1 (k := 7) dX3_faultOfName_48 ⟨⟨⟨by decide, by decide⟩, zX7_thingNamed⟩, lX3_107, by decide, rfl, vX7_thingNamed.1, vX7_thingNamed.2⟩ (lyx_is hy 6 7 rfl) (sx_thingNamed_6 hy hr hI l5940 ) (Nat.le_of_ble_eq_true rfl) ?_
  intro r Ia Ja Ra hq
  obtain ⟨⟨ea, eb, ec⟩, v5941, rfl, av5941, bv5941⟩ := hq
  show WP _ _ _ _ (.int _ :: _) _ _ _ _
  rw [ea, eb, ec]
  clear ea eb ec Ia Ja Ra
  refine WP_istore (ls' := [(0, _), (1, _), (2, _), (3, _), (4, _), (5, _), (6, _)]) dX3_faultOfName_51 (by decide) rfl ?_
  refine WP_iload_n dX3_faultOfName_53 rfl ?_
  refine WQ_bipush (110) (110) dX3_faultOfName_54 rfl rfl (fun v5942 hv5942 => ?_)
  refine WQ_icmp_eq 65 dX3_faultOfName_56 rfl (fun c5942 => False.elim (by omega)) (fun c5942 => ?_)
  refine WP_iload_n dX3_faultOfName_59 rfl ?_
  refine WQ_bipush (109) (109) dX3_faultOfName_60 rfl rfl (fun v5944 hv5944 => ?_)
  refine WQ_icmp_ne 98 dX3_faultOfName_62 rfl (fun c5944 => ?_) (fun c5944 => False.elim (by omega))
  refine WP_iload dX3_faultOfName_98 rfl ?_
  refine WQ_iconst (-1) (-1) dX3_faultOfName_100 rfl rfl (fun v5946 hv5946 => ?_)
  refine WQ_icmp_ne 106 dX3_faultOfName_101 rfl (fun c5946 => ?_) (fun c5946 => ?_)
  · refine WP_aload_n dX3_faultOfName_106 rfl ?_
    refine WP_getr dX3_faultOfName_107 fX3_9 rfl (lyx_is hy 3 3 rfl) (rfx hr 3 3 4 (by decide)) ?_
    refine WP_iload_n dX3_faultOfName_110 rfl ?_
    refine WP_iload dX3_faultOfName_111 rfl ?_
    refine WQ_iast dX3_faultOfName_113 (lyx_is hy 4 13 rfl) (lyx_n hy 4 5 rfl) (by omega) (by omega) (fun I5948 fI5948 => ?_)
    have eI5948 := fI5948
    rw [cl (x := ix) (n := 0) (by omega)] at eI5948
    clear fI5948
    have hI5948 : XI g n L I5948 := by rw [eI5948]; exact (xi_f hy hI (c := 4) (0) (0) (1000) (by decide) (Or.inl (by decide)) (by decide) (by omega) (by omega))
    have e5949 : I5948 (ad g 1) 1 = L := by rw [eI5948, pp_ne _ _ (Or.inl (lyx_ne hy (by decide) (by decide) (by decide)))]; exact e5930
    have e5950 : I5948 (ad g 6) 1 = w5932 := by rw [eI5948, pp_ne _ _ (Or.inl (lyx_ne hy (by decide) (by decide) (by decide)))]; exact ew5932
    have e5951 : I5948 (ad g 6) 2 = w5933 := by rw [eI5948, pp_ne _ _ (Or.inl (lyx_ne hy (by decide) (by decide) (by decide)))]; exact ew5933
    have e5952 : I5948 (ad g 4) 0 = v5941 := by rw [eI5948, pp_self]
    clear eI5948
    refine WP_iload_n dX3_faultOfName_114 rfl ?_
    refine WQ_bipush (7) (7) dX3_faultOfName_115 rfl rfl (fun v5953 hv5953 => ?_)
    refine WQ_icmp_ne 137 dX3_faultOfName_117 rfl (fun c5953 => ?_) (fun c5953 => False.elim (by omega))
    refine WQ_iconst (0) (0) dX3_faultOfName_137 rfl rfl (fun v5955 hv5955 => ?_)
    exact WP_iret dX3_faultOfName_138 rfl ⟨⟨hI5948, rfl, ⟨trivial, (by rw [e5950, ew5932] <;> exact (eq32 _ _).mpr (by omega)), (by rw [e5951, ew5933] <;> exact (eq32 _ _).mpr (by omega))⟩⟩, _, rfl, by omega, by omega, by (try rw [e5952]); omega⟩
  · refine WQ_iconst (5) (5) dX3_faultOfName_104 rfl rfl (fun v5956 hv5956 => ?_)
    obtain ⟨w5957, ew5957⟩ : ∃ w : Int32, I (ad g 4) 0 = w := ⟨_, rfl⟩
    have bw5957 := BT_get hI.1 4 0 5 (0) (0) (1000) (by decide) 0 (by decide) (by decide)
    rw [ew5957] at bw5957
    exact WP_iret dX3_faultOfName_105 rfl ⟨⟨hI, rfl, ⟨trivial, rfl, rfl⟩⟩, _, rfl, by omega, by omega, by (try rw [ew5957]); omega⟩
set_option maxHeartbeats 4000000 in
set_option maxRecDepth 100000 in
theorem sx_part_6_10_0 {g : GG} {n : Int} {L : Int32} (hy : LyX g)  {I : pI} {J : pJ} {R : pR} (hr : RfX g R) (hI : XI g n L I) (pa : Int32) (cz : Int32) (ix : Int32) (pa_lo : 115 ≤ pa.toInt) (pa_hi : pa.toInt ≤ 115) (cz_lo : 10 ≤ cz.toInt) (cz_hi : cz.toInt ≤ 10) (ix_lo : 0 ≤ ix.toInt) (ix_hi : ix.toInt ≤ 0) : SP g mX3_faultOfName [.ref (ad g 3), .int pa, .int cz, .int ix, .ref (ad g 6)] I J R (fun r I' J' R' => (XI g n L I' ∧ R' = R ∧ True ∧ I' (ad g 6) 1 = I (ad g 6) 1 ∧ I' (ad g 6) 2 = I (ad g 6) 2) ∧ ∃ v : Int32, r = some (.int v) ∧ 0 ≤ v.toInt ∧ v.toInt ≤ 5 ∧ (v.toInt = 0 → (I' (ad g 4) 0).toInt ≤ 3)) := by
  refine SP_of ⟨by decide, rfl⟩ (Nat.le_of_ble_eq_true rfl) ?_
  have e5958 : I (ad g 1) 1 = L := hI.2
  have b5959 := BT_get hI.1 1 1 2 (0) (0) (900) (by decide) 1 (by decide) (by decide)
  rw [e5958] at b5959
  obtain ⟨w5960, ew5960⟩ : ∃ w : Int32, I (ad g 6) 1 = w := ⟨_, rfl⟩
  have bw5960 := BT_get hI.1 6 1 2 (0) (0) (4) (by decide) 1 (by decide) (by decide)
  rw [ew5960] at bw5960
  obtain ⟨w5961, ew5961⟩ : ∃ w : Int32, I (ad g 6) 2 = w := ⟨_, rfl⟩
  have bw5961 := BT_get hI.1 6 2 3 (0) (0) (3) (by decide) 2 (by decide) (by decide)
  rw [ew5961] at bw5961
  refine WP_iload_n dX3_faultOfName_0 rfl ?_
  refine WQ_bipush (115) (115) dX3_faultOfName_1 rfl rfl (fun v5962 hv5962 => ?_)
  refine WQ_icmp_eq 12 dX3_faultOfName_3 rfl (fun c5962 => ?_) (fun c5962 => False.elim (by omega))
  refine WQ_iconst (1) (1) dX3_faultOfName_12 rfl rfl (fun v5964 hv5964 => ?_)
  refine WP_goto 17 dX3_faultOfName_13 rfl ?_
  refine WP_istore (ls' := [(0, _), (1, _), (2, _), (3, _), (4, _), (5, _)]) dX3_faultOfName_17 (by decide) rfl ?_
  refine WP_iload dX3_faultOfName_19 rfl ?_
  refine WQ_if_eq 39 dX3_faultOfName_21 rfl (fun c5964 => False.elim (by omega)) (fun c5964 => ?_)
  refine WP_aload dX3_faultOfName_24 rfl ?_
  refine WP_aload_n dX3_faultOfName_26 rfl ?_
  refine WP_getr dX3_faultOfName_27 fX3_15 rfl (lyx_is hy 3 3 rfl) (rfx hr 3 2 1 (by decide)) ?_
  refine WQ_getl dX3_faultOfName_30 fX3_80 rfl (lyx_is hy 1 5 rfl) (fun l5966 el5966 => ?_)
  refine WP_callV1 (k := 7) dX3_faultOfName_33 ⟨⟨⟨by decide, by decide⟩, zX7_sortNamed⟩, lX3_103, by decide, rfl, vX7_sortNamed.1, vX7_sortNamed.2⟩ (lyx_is hy 6 7 rfl) (sx_sortNamed_6 hy hr hI l5966 ) (Nat.le_of_ble_eq_true rfl) ?_
  intro r Ia Ja Ra hq
  obtain ⟨⟨ea, eb, ec⟩, v5967, rfl, av5967, bv5967⟩ := hq
  show WP _ _ _ _ (.int _ :: _) _ _ _ _
  rw [ea, eb, ec]
  clear ea eb ec Ia Ja Ra
  refine WP_goto 51 dX3_faultOfName_36 rfl ?_
  refine WP_istore (ls' := [(0, _), (1, _), (2, _), (3, _), (4, _), (5, _), (6, _)]) dX3_faultOfName_51 (by decide) rfl ?_
  refine WP_iload_n dX3_faultOfName_53 rfl ?_
  refine WQ_bipush (110) (110) dX3_faultOfName_54 rfl rfl (fun v5968 hv5968 => ?_)
  refine WQ_icmp_eq 65 dX3_faultOfName_56 rfl (fun c5968 => False.elim (by omega)) (fun c5968 => ?_)
  refine WP_iload_n dX3_faultOfName_59 rfl ?_
  refine WQ_bipush (109) (109) dX3_faultOfName_60 rfl rfl (fun v5970 hv5970 => ?_)
  refine WQ_icmp_ne 98 dX3_faultOfName_62 rfl (fun c5970 => ?_) (fun c5970 => False.elim (by omega))
  refine WP_iload dX3_faultOfName_98 rfl ?_
  refine WQ_iconst (-1) (-1) dX3_faultOfName_100 rfl rfl (fun v5972 hv5972 => ?_)
  refine WQ_icmp_ne 106 dX3_faultOfName_101 rfl (fun c5972 => ?_) (fun c5972 => ?_)
  · refine WP_aload_n dX3_faultOfName_106 rfl ?_
    refine WP_getr dX3_faultOfName_107 fX3_9 rfl (lyx_is hy 3 3 rfl) (rfx hr 3 3 4 (by decide)) ?_
    refine WP_iload_n dX3_faultOfName_110 rfl ?_
    refine WP_iload dX3_faultOfName_111 rfl ?_
    refine WQ_iast dX3_faultOfName_113 (lyx_is hy 4 13 rfl) (lyx_n hy 4 5 rfl) (by omega) (by omega) (fun I5974 fI5974 => ?_)
    have eI5974 := fI5974
    rw [cl (x := ix) (n := 0) (by omega)] at eI5974
    clear fI5974
    have hI5974 : XI g n L I5974 := by rw [eI5974]; exact (xi_f hy hI (c := 4) (0) (0) (1000) (by decide) (Or.inl (by decide)) (by decide) (by omega) (by omega))
    have e5975 : I5974 (ad g 1) 1 = L := by rw [eI5974, pp_ne _ _ (Or.inl (lyx_ne hy (by decide) (by decide) (by decide)))]; exact e5958
    have e5976 : I5974 (ad g 6) 1 = w5960 := by rw [eI5974, pp_ne _ _ (Or.inl (lyx_ne hy (by decide) (by decide) (by decide)))]; exact ew5960
    have e5977 : I5974 (ad g 6) 2 = w5961 := by rw [eI5974, pp_ne _ _ (Or.inl (lyx_ne hy (by decide) (by decide) (by decide)))]; exact ew5961
    have e5978 : I5974 (ad g 4) 0 = v5967 := by rw [eI5974, pp_self]
    clear eI5974
    refine WP_iload_n dX3_faultOfName_114 rfl ?_
    refine WQ_bipush (7) (7) dX3_faultOfName_115 rfl rfl (fun v5979 hv5979 => ?_)
    refine WQ_icmp_ne 137 dX3_faultOfName_117 rfl (fun c5979 => ?_) (fun c5979 => False.elim (by omega))
    refine WQ_iconst (0) (0) dX3_faultOfName_137 rfl rfl (fun v5981 hv5981 => ?_)
    exact WP_iret dX3_faultOfName_138 rfl ⟨⟨hI5974, rfl, ⟨trivial, (by rw [e5976, ew5960] <;> exact (eq32 _ _).mpr (by omega)), (by rw [e5977, ew5961] <;> exact (eq32 _ _).mpr (by omega))⟩⟩, _, rfl, by omega, by omega, by (try rw [e5978]); omega⟩
  · refine WQ_iconst (5) (5) dX3_faultOfName_104 rfl rfl (fun v5982 hv5982 => ?_)
    obtain ⟨w5983, ew5983⟩ : ∃ w : Int32, I (ad g 4) 0 = w := ⟨_, rfl⟩
    have bw5983 := BT_get hI.1 4 0 5 (0) (0) (1000) (by decide) 0 (by decide) (by decide)
    rw [ew5983] at bw5983
    exact WP_iret dX3_faultOfName_105 rfl ⟨⟨hI, rfl, ⟨trivial, rfl, rfl⟩⟩, _, rfl, by omega, by omega, by (try rw [ew5983]); omega⟩
set_option maxHeartbeats 4000000 in
set_option maxRecDepth 100000 in
theorem sx_part_6_10_1 {g : GG} {n : Int} {L : Int32} (hy : LyX g)  {I : pI} {J : pJ} {R : pR} (hr : RfX g R) (hI : XI g n L I) (pa : Int32) (cz : Int32) (ix : Int32) (pa_lo : 116 ≤ pa.toInt) (pa_hi : pa.toInt ≤ 116) (cz_lo : 10 ≤ cz.toInt) (cz_hi : cz.toInt ≤ 10) (ix_lo : 1 ≤ ix.toInt) (ix_hi : ix.toInt ≤ 1) : SP g mX3_faultOfName [.ref (ad g 3), .int pa, .int cz, .int ix, .ref (ad g 6)] I J R (fun r I' J' R' => (XI g n L I' ∧ R' = R ∧ True ∧ I' (ad g 4) 0 = I (ad g 4) 0 ∧ I' (ad g 6) 1 = I (ad g 6) 1 ∧ I' (ad g 6) 2 = I (ad g 6) 2) ∧ ∃ v : Int32, r = some (.int v) ∧ 0 ≤ v.toInt ∧ v.toInt ≤ 5 ∧ (v.toInt = 0 → (I' (ad g 4) 1).toInt ≤ 2)) := by
  refine SP_of ⟨by decide, rfl⟩ (Nat.le_of_ble_eq_true rfl) ?_
  have e5984 : I (ad g 1) 1 = L := hI.2
  have b5985 := BT_get hI.1 1 1 2 (0) (0) (900) (by decide) 1 (by decide) (by decide)
  rw [e5984] at b5985
  obtain ⟨w5986, ew5986⟩ : ∃ w : Int32, I (ad g 4) 0 = w := ⟨_, rfl⟩
  have bw5986 := BT_get hI.1 4 0 5 (0) (0) (1000) (by decide) 0 (by decide) (by decide)
  rw [ew5986] at bw5986
  obtain ⟨w5987, ew5987⟩ : ∃ w : Int32, I (ad g 6) 1 = w := ⟨_, rfl⟩
  have bw5987 := BT_get hI.1 6 1 2 (0) (0) (4) (by decide) 1 (by decide) (by decide)
  rw [ew5987] at bw5987
  obtain ⟨w5988, ew5988⟩ : ∃ w : Int32, I (ad g 6) 2 = w := ⟨_, rfl⟩
  have bw5988 := BT_get hI.1 6 2 3 (0) (0) (3) (by decide) 2 (by decide) (by decide)
  rw [ew5988] at bw5988
  refine WP_iload_n dX3_faultOfName_0 rfl ?_
  refine WQ_bipush (115) (115) dX3_faultOfName_1 rfl rfl (fun v5989 hv5989 => ?_)
  refine WQ_icmp_eq 12 dX3_faultOfName_3 rfl (fun c5989 => False.elim (by omega)) (fun c5989 => ?_)
  refine WP_iload_n dX3_faultOfName_6 rfl ?_
  refine WQ_bipush (110) (110) dX3_faultOfName_7 rfl rfl (fun v5991 hv5991 => ?_)
  refine WQ_icmp_ne 16 dX3_faultOfName_9 rfl (fun c5991 => ?_) (fun c5991 => False.elim (by omega))
  refine WQ_iconst (0) (0) dX3_faultOfName_16 rfl rfl (fun v5993 hv5993 => ?_)
  refine WP_istore (ls' := [(0, _), (1, _), (2, _), (3, _), (4, _), (5, _)]) dX3_faultOfName_17 (by decide) rfl ?_
  refine WP_iload dX3_faultOfName_19 rfl ?_
  refine WQ_if_eq 39 dX3_faultOfName_21 rfl (fun c5993 => ?_) (fun c5993 => False.elim (by omega))
  refine WP_aload dX3_faultOfName_39 rfl ?_
  refine WP_aload_n dX3_faultOfName_41 rfl ?_
  refine WP_getr dX3_faultOfName_42 fX3_15 rfl (lyx_is hy 3 3 rfl) (rfx hr 3 2 1 (by decide)) ?_
  refine WQ_getl dX3_faultOfName_45 fX3_80 rfl (lyx_is hy 1 5 rfl) (fun l5995 el5995 => ?_)
  refine WP_callV1 (k := 7) dX3_faultOfName_48 ⟨⟨⟨by decide, by decide⟩, zX7_thingNamed⟩, lX3_107, by decide, rfl, vX7_thingNamed.1, vX7_thingNamed.2⟩ (lyx_is hy 6 7 rfl) (sx_thingNamed_6 hy hr hI l5995 ) (Nat.le_of_ble_eq_true rfl) ?_
  intro r Ia Ja Ra hq
  obtain ⟨⟨ea, eb, ec⟩, v5996, rfl, av5996, bv5996⟩ := hq
  show WP _ _ _ _ (.int _ :: _) _ _ _ _
  rw [ea, eb, ec]
  clear ea eb ec Ia Ja Ra
  refine WP_istore (ls' := [(0, _), (1, _), (2, _), (3, _), (4, _), (5, _), (6, _)]) dX3_faultOfName_51 (by decide) rfl ?_
  refine WP_iload_n dX3_faultOfName_53 rfl ?_
  refine WQ_bipush (110) (110) dX3_faultOfName_54 rfl rfl (fun v5997 hv5997 => ?_)
  refine WQ_icmp_eq 65 dX3_faultOfName_56 rfl (fun c5997 => False.elim (by omega)) (fun c5997 => ?_)
  refine WP_iload_n dX3_faultOfName_59 rfl ?_
  refine WQ_bipush (109) (109) dX3_faultOfName_60 rfl rfl (fun v5999 hv5999 => ?_)
  refine WQ_icmp_ne 98 dX3_faultOfName_62 rfl (fun c5999 => ?_) (fun c5999 => False.elim (by omega))
  refine WP_iload dX3_faultOfName_98 rfl ?_
  refine WQ_iconst (-1) (-1) dX3_faultOfName_100 rfl rfl (fun v6001 hv6001 => ?_)
  refine WQ_icmp_ne 106 dX3_faultOfName_101 rfl (fun c6001 => ?_) (fun c6001 => ?_)
  · refine WP_aload_n dX3_faultOfName_106 rfl ?_
    refine WP_getr dX3_faultOfName_107 fX3_9 rfl (lyx_is hy 3 3 rfl) (rfx hr 3 3 4 (by decide)) ?_
    refine WP_iload_n dX3_faultOfName_110 rfl ?_
    refine WP_iload dX3_faultOfName_111 rfl ?_
    refine WQ_iast dX3_faultOfName_113 (lyx_is hy 4 13 rfl) (lyx_n hy 4 5 rfl) (by omega) (by omega) (fun I6003 fI6003 => ?_)
    have eI6003 := fI6003
    rw [cl (x := ix) (n := 1) (by omega)] at eI6003
    clear fI6003
    have hI6003 : XI g n L I6003 := by rw [eI6003]; exact (xi_f hy hI (c := 4) (0) (0) (1000) (by decide) (Or.inl (by decide)) (by decide) (by omega) (by omega))
    have e6004 : I6003 (ad g 1) 1 = L := by rw [eI6003, pp_ne _ _ (Or.inl (lyx_ne hy (by decide) (by decide) (by decide)))]; exact e5984
    have e6005 : I6003 (ad g 4) 0 = w5986 := by rw [eI6003, pp_ne _ _ (Or.inr (by decide))]; exact ew5986
    have e6006 : I6003 (ad g 6) 1 = w5987 := by rw [eI6003, pp_ne _ _ (Or.inl (lyx_ne hy (by decide) (by decide) (by decide)))]; exact ew5987
    have e6007 : I6003 (ad g 6) 2 = w5988 := by rw [eI6003, pp_ne _ _ (Or.inl (lyx_ne hy (by decide) (by decide) (by decide)))]; exact ew5988
    have e6008 : I6003 (ad g 4) 1 = v5996 := by rw [eI6003, pp_self]
    clear eI6003
    refine WP_iload_n dX3_faultOfName_114 rfl ?_
    refine WQ_bipush (7) (7) dX3_faultOfName_115 rfl rfl (fun v6009 hv6009 => ?_)
    refine WQ_icmp_ne 137 dX3_faultOfName_117 rfl (fun c6009 => ?_) (fun c6009 => False.elim (by omega))
    refine WQ_iconst (0) (0) dX3_faultOfName_137 rfl rfl (fun v6011 hv6011 => ?_)
    exact WP_iret dX3_faultOfName_138 rfl ⟨⟨hI6003, rfl, ⟨trivial, (by rw [e6005, ew5986] <;> exact (eq32 _ _).mpr (by omega)), (by rw [e6006, ew5987] <;> exact (eq32 _ _).mpr (by omega)), (by rw [e6007, ew5988] <;> exact (eq32 _ _).mpr (by omega))⟩⟩, _, rfl, by omega, by omega, by (try rw [e6008]); omega⟩
  · refine WQ_iconst (5) (5) dX3_faultOfName_104 rfl rfl (fun v6012 hv6012 => ?_)
    obtain ⟨w6013, ew6013⟩ : ∃ w : Int32, I (ad g 4) 1 = w := ⟨_, rfl⟩
    have bw6013 := BT_get hI.1 4 0 5 (0) (0) (1000) (by decide) 1 (by decide) (by decide)
    rw [ew6013] at bw6013
    exact WP_iret dX3_faultOfName_105 rfl ⟨⟨hI, rfl, ⟨trivial, rfl, rfl, rfl⟩⟩, _, rfl, by omega, by omega, by (try rw [ew6013]); omega⟩
set_option maxHeartbeats 4000000 in
set_option maxRecDepth 100000 in
theorem sx_part_6_10_2 {g : GG} {n : Int} {L : Int32} (hy : LyX g)  {I : pI} {J : pJ} {R : pR} (hr : RfX g R) (hI : XI g n L I) (pa : Int32) (cz : Int32) (ix : Int32) (pa_lo : 68 ≤ pa.toInt) (pa_hi : pa.toInt ≤ 68) (cz_lo : 10 ≤ cz.toInt) (cz_hi : cz.toInt ≤ 10) (ix_lo : 2 ≤ ix.toInt) (ix_hi : ix.toInt ≤ 2) (hb : (I (ad g 4) 0).toInt ≤ 3) : SP g mX3_faultOfNumber [.ref (ad g 3), .int pa, .int cz, .int ix, .ref (ad g 6)] I J R (fun r I' J' R' => (XI g n L I' ∧ R' = R ∧ True ∧ I' (ad g 4) 0 = I (ad g 4) 0 ∧ I' (ad g 4) 1 = I (ad g 4) 1 ∧ I' (ad g 6) 1 = I (ad g 6) 1 ∧ I' (ad g 6) 2 = I (ad g 6) 2) ∧ ∃ v : Int32, r = some (.int v) ∧ 0 ≤ v.toInt ∧ v.toInt ≤ 5 ∧ (v.toInt = 0 → (I' (ad g 4) 2).toInt ≤ 6)) := by
  refine SP_of ⟨by decide, rfl⟩ (Nat.le_of_ble_eq_true rfl) ?_
  have e6014 : I (ad g 1) 1 = L := hI.2
  have b6015 := BT_get hI.1 1 1 2 (0) (0) (900) (by decide) 1 (by decide) (by decide)
  rw [e6014] at b6015
  obtain ⟨w6016, ew6016⟩ : ∃ w : Int32, I (ad g 4) 0 = w := ⟨_, rfl⟩
  have bw6016 := BT_get hI.1 4 0 5 (0) (0) (1000) (by decide) 0 (by decide) (by decide)
  rw [ew6016] at bw6016
  obtain ⟨w6017, ew6017⟩ : ∃ w : Int32, I (ad g 4) 1 = w := ⟨_, rfl⟩
  have bw6017 := BT_get hI.1 4 0 5 (0) (0) (1000) (by decide) 1 (by decide) (by decide)
  rw [ew6017] at bw6017
  obtain ⟨w6018, ew6018⟩ : ∃ w : Int32, I (ad g 6) 1 = w := ⟨_, rfl⟩
  have bw6018 := BT_get hI.1 6 1 2 (0) (0) (4) (by decide) 1 (by decide) (by decide)
  rw [ew6018] at bw6018
  obtain ⟨w6019, ew6019⟩ : ∃ w : Int32, I (ad g 6) 2 = w := ⟨_, rfl⟩
  have bw6019 := BT_get hI.1 6 2 3 (0) (0) (3) (by decide) 2 (by decide) (by decide)
  rw [ew6019] at bw6019
  rw [ew6016] at hb
  refine WP_aload_n dX3_faultOfNumber_0 rfl ?_
  refine WP_getr dX3_faultOfNumber_1 fX3_15 rfl (lyx_is hy 3 3 rfl) (rfx hr 3 2 1 (by decide)) ?_
  refine WQ_getiu dX3_faultOfNumber_4 fX3_118 rfl (lyx_is hy 1 5 rfl) (fun v6020 ev6020 => ?_)
  refine WP_istore (ls' := [(0, _), (1, _), (2, _), (3, _), (4, _), (5, _)]) dX3_faultOfNumber_7 (by decide) rfl ?_
  refine WP_iload dX3_faultOfNumber_9 rfl ?_
  refine WP_iload_n dX3_faultOfNumber_11 rfl ?_
  refine WP_callS1 dX3_faultOfNumber_12 ⟨⟨⟨by decide, by decide⟩, zX3_leastOf⟩, lX3_121, tX3_leastOf⟩ (sx_leastOf hy hr hI pa ) (Nat.le_of_ble_eq_true rfl) ?_
  intro r Ia Ja Ra hq
  obtain ⟨⟨ea, eb, ec⟩, v6021, rfl, av6021, bv6021⟩ := hq
  show WP _ _ _ _ (.int _ :: _) _ _ _ _
  rw [ea, eb, ec]
  clear ea eb ec Ia Ja Ra
  refine WQ_icmp_lt 27 dX3_faultOfNumber_15 rfl (fun c6021 => ?_) (fun c6021 => ?_)
  · refine WQ_iconst (2) (2) dX3_faultOfNumber_27 rfl rfl (fun v6023 hv6023 => ?_)
    obtain ⟨w6024, ew6024⟩ : ∃ w : Int32, I (ad g 4) 2 = w := ⟨_, rfl⟩
    have bw6024 := BT_get hI.1 4 0 5 (0) (0) (1000) (by decide) 2 (by decide) (by decide)
    rw [ew6024] at bw6024
    exact WP_iret dX3_faultOfNumber_28 rfl ⟨⟨hI, rfl, ⟨trivial, rfl, rfl, rfl, rfl⟩⟩, _, rfl, by omega, by omega, by (try rw [ew6024]); omega⟩
  · refine WP_iload dX3_faultOfNumber_18 rfl ?_
    refine WP_iload_n dX3_faultOfNumber_20 rfl ?_
    refine WP_callS1 dX3_faultOfNumber_21 ⟨⟨⟨by decide, by decide⟩, zX3_mostOf⟩, lX3_125, tX3_mostOf⟩ (sx_mostOf hy hr hI pa ) (Nat.le_of_ble_eq_true rfl) ?_
    intro r Ia Ja Ra hq
    obtain ⟨⟨ea, eb, ec⟩, v6025, rfl, av6025, bv6025, cv6025⟩ := hq
    show WP _ _ _ _ (.int _ :: _) _ _ _ _
    rw [ea, eb, ec]
    clear ea eb ec Ia Ja Ra
    refine WQ_icmp_le 29 dX3_faultOfNumber_24 rfl (fun c6025 => ?_) (fun c6025 => ?_)
    · refine WP_aload_n dX3_faultOfNumber_29 rfl ?_
      refine WP_getr dX3_faultOfNumber_30 fX3_9 rfl (lyx_is hy 3 3 rfl) (rfx hr 3 3 4 (by decide)) ?_
      refine WP_iload_n dX3_faultOfNumber_33 rfl ?_
      refine WP_iload dX3_faultOfNumber_34 rfl ?_
      refine WQ_iast dX3_faultOfNumber_36 (lyx_is hy 4 13 rfl) (lyx_n hy 4 5 rfl) (by omega) (by omega) (fun I6027 fI6027 => ?_)
      have eI6027 := fI6027
      rw [cl (x := ix) (n := 2) (by omega)] at eI6027
      clear fI6027
      have hI6027 : XI g n L I6027 := by rw [eI6027]; exact (xi_f hy hI (c := 4) (0) (0) (1000) (by decide) (Or.inl (by decide)) (by decide) (by omega) (by omega))
      have e6028 : I6027 (ad g 1) 1 = L := by rw [eI6027, pp_ne _ _ (Or.inl (lyx_ne hy (by decide) (by decide) (by decide)))]; exact e6014
      have e6029 : I6027 (ad g 4) 0 = w6016 := by rw [eI6027, pp_ne _ _ (Or.inr (by decide))]; exact ew6016
      have e6030 : I6027 (ad g 4) 1 = w6017 := by rw [eI6027, pp_ne _ _ (Or.inr (by decide))]; exact ew6017
      have e6031 : I6027 (ad g 6) 1 = w6018 := by rw [eI6027, pp_ne _ _ (Or.inl (lyx_ne hy (by decide) (by decide) (by decide)))]; exact ew6018
      have e6032 : I6027 (ad g 6) 2 = w6019 := by rw [eI6027, pp_ne _ _ (Or.inl (lyx_ne hy (by decide) (by decide) (by decide)))]; exact ew6019
      have e6033 : I6027 (ad g 1) 4 = v6020 := by rw [eI6027, pp_ne _ _ (Or.inl (lyx_ne hy (by decide) (by decide) (by decide)))]; exact ev6020
      have e6034 : I6027 (ad g 4) 2 = v6020 := by rw [eI6027, pp_self]
      clear eI6027
      refine WP_iload_n dX3_faultOfNumber_37 rfl ?_
      refine WQ_bipush (68) (68) dX3_faultOfNumber_38 rfl rfl (fun v6035 hv6035 => ?_)
      refine WQ_icmp_eq 45 dX3_faultOfNumber_40 rfl (fun c6035 => ?_) (fun c6035 => False.elim (by omega))
      refine WP_aload dX3_faultOfNumber_45 rfl ?_
      refine WP_iload_n dX3_faultOfNumber_47 rfl ?_
      refine WP_iload_n dX3_faultOfNumber_48 rfl ?_
      refine WQ_if_ne 56 dX3_faultOfNumber_49 rfl (fun c6036 => ?_) (fun c6036 => False.elim (by omega))
      refine WP_aload_n dX3_faultOfNumber_56 rfl ?_
      refine WP_getr dX3_faultOfNumber_57 fX3_9 rfl (lyx_is hy 3 3 rfl) (rfx hr 3 3 4 (by decide)) ?_
      refine WQ_iconst (0) (0) dX3_faultOfNumber_60 rfl rfl (fun v6038 hv6038 => ?_)
      refine WQ_ialdm (z := 0) dX3_faultOfNumber_61 (lyx_is hy 4 13 rfl) (lyx_n hy 4 5 rfl) hv6038 (by decide) e6029 ?_
      refine WP_iload dX3_faultOfNumber_62 rfl ?_
      refine WP_callV3 (k := 7) dX3_faultOfNumber_64 ⟨⟨⟨by decide, by decide⟩, zX7_isTold⟩, lX3_114, by decide, rfl, vX7_isTold.1, vX7_isTold.2⟩ (lyx_is hy 6 7 rfl) (sx_isTold_6 hy hr hI6027 cz w6016 v6020 (by omega) (by omega) (by omega) (by omega) ) (Nat.le_of_ble_eq_true rfl) ?_
      intro r Ia Ja Ra hq
      obtain ⟨⟨ea, eb, ec⟩, v6040, rfl, av6040, bv6040⟩ := hq
      show WP _ _ _ _ (.int _ :: _) _ _ _ _
      rw [ea, eb, ec]
      clear ea eb ec Ia Ja Ra
      refine WQ_if_eq 74 dX3_faultOfNumber_67 rfl (fun c6040 => ?_) (fun c6040 => ?_)
      · refine WQ_iconst (0) (0) dX3_faultOfNumber_74 rfl rfl (fun v6042 hv6042 => ?_)
        exact WP_iret dX3_faultOfNumber_75 rfl ⟨⟨hI6027, rfl, ⟨trivial, (by rw [e6029, ew6016] <;> exact (eq32 _ _).mpr (by omega)), (by rw [e6030, ew6017] <;> exact (eq32 _ _).mpr (by omega)), (by rw [e6031, ew6018] <;> exact (eq32 _ _).mpr (by omega)), (by rw [e6032, ew6019] <;> exact (eq32 _ _).mpr (by omega))⟩⟩, _, rfl, by omega, by omega, by (try rw [e6034]); omega⟩
      · refine WQ_iconst (3) (3) dX3_faultOfNumber_70 rfl rfl (fun v6043 hv6043 => ?_)
        refine WP_goto 75 dX3_faultOfNumber_71 rfl ?_
        exact WP_iret dX3_faultOfNumber_75 rfl ⟨⟨hI6027, rfl, ⟨trivial, (by rw [e6029, ew6016] <;> exact (eq32 _ _).mpr (by omega)), (by rw [e6030, ew6017] <;> exact (eq32 _ _).mpr (by omega)), (by rw [e6031, ew6018] <;> exact (eq32 _ _).mpr (by omega)), (by rw [e6032, ew6019] <;> exact (eq32 _ _).mpr (by omega))⟩⟩, _, rfl, by omega, by omega, by (try rw [e6034]); omega⟩
    · refine WQ_iconst (2) (2) dX3_faultOfNumber_27 rfl rfl (fun v6044 hv6044 => ?_)
      obtain ⟨w6045, ew6045⟩ : ∃ w : Int32, I (ad g 4) 2 = w := ⟨_, rfl⟩
      have bw6045 := BT_get hI.1 4 0 5 (0) (0) (1000) (by decide) 2 (by decide) (by decide)
      rw [ew6045] at bw6045
      exact WP_iret dX3_faultOfNumber_28 rfl ⟨⟨hI, rfl, ⟨trivial, rfl, rfl, rfl, rfl⟩⟩, _, rfl, by omega, by omega, by (try rw [ew6045]); omega⟩
set_option maxHeartbeats 4000000 in
set_option maxRecDepth 100000 in
theorem sx_part_6_10_3 {g : GG} {n : Int} {L : Int32} (hy : LyX g)  {I : pI} {J : pJ} {R : pR} (hr : RfX g R) (hI : XI g n L I) (pa : Int32) (cz : Int32) (ix : Int32) (pa_lo : 85 ≤ pa.toInt) (pa_hi : pa.toInt ≤ 85) (cz_lo : 10 ≤ cz.toInt) (cz_hi : cz.toInt ≤ 10) (ix_lo : 3 ≤ ix.toInt) (ix_hi : ix.toInt ≤ 3) : SP g mX3_faultOfNumber [.ref (ad g 3), .int pa, .int cz, .int ix, .ref (ad g 6)] I J R (fun r I' J' R' => (XI g n L I' ∧ R' = R ∧ True ∧ I' (ad g 4) 0 = I (ad g 4) 0 ∧ I' (ad g 4) 1 = I (ad g 4) 1 ∧ I' (ad g 4) 2 = I (ad g 4) 2 ∧ I' (ad g 6) 1 = I (ad g 6) 1 ∧ I' (ad g 6) 2 = I (ad g 6) 2) ∧ ∃ v : Int32, r = some (.int v) ∧ 0 ≤ v.toInt ∧ v.toInt ≤ 5 ∧ (v.toInt = 0 → (I' (ad g 4) 3).toInt ≤ 3)) := by
  refine SP_of ⟨by decide, rfl⟩ (Nat.le_of_ble_eq_true rfl) ?_
  have e6046 : I (ad g 1) 1 = L := hI.2
  have b6047 := BT_get hI.1 1 1 2 (0) (0) (900) (by decide) 1 (by decide) (by decide)
  rw [e6046] at b6047
  obtain ⟨w6048, ew6048⟩ : ∃ w : Int32, I (ad g 4) 0 = w := ⟨_, rfl⟩
  have bw6048 := BT_get hI.1 4 0 5 (0) (0) (1000) (by decide) 0 (by decide) (by decide)
  rw [ew6048] at bw6048
  obtain ⟨w6049, ew6049⟩ : ∃ w : Int32, I (ad g 4) 1 = w := ⟨_, rfl⟩
  have bw6049 := BT_get hI.1 4 0 5 (0) (0) (1000) (by decide) 1 (by decide) (by decide)
  rw [ew6049] at bw6049
  obtain ⟨w6050, ew6050⟩ : ∃ w : Int32, I (ad g 4) 2 = w := ⟨_, rfl⟩
  have bw6050 := BT_get hI.1 4 0 5 (0) (0) (1000) (by decide) 2 (by decide) (by decide)
  rw [ew6050] at bw6050
  obtain ⟨w6051, ew6051⟩ : ∃ w : Int32, I (ad g 6) 1 = w := ⟨_, rfl⟩
  have bw6051 := BT_get hI.1 6 1 2 (0) (0) (4) (by decide) 1 (by decide) (by decide)
  rw [ew6051] at bw6051
  obtain ⟨w6052, ew6052⟩ : ∃ w : Int32, I (ad g 6) 2 = w := ⟨_, rfl⟩
  have bw6052 := BT_get hI.1 6 2 3 (0) (0) (3) (by decide) 2 (by decide) (by decide)
  rw [ew6052] at bw6052
  refine WP_aload_n dX3_faultOfNumber_0 rfl ?_
  refine WP_getr dX3_faultOfNumber_1 fX3_15 rfl (lyx_is hy 3 3 rfl) (rfx hr 3 2 1 (by decide)) ?_
  refine WQ_getiu dX3_faultOfNumber_4 fX3_118 rfl (lyx_is hy 1 5 rfl) (fun v6053 ev6053 => ?_)
  refine WP_istore (ls' := [(0, _), (1, _), (2, _), (3, _), (4, _), (5, _)]) dX3_faultOfNumber_7 (by decide) rfl ?_
  refine WP_iload dX3_faultOfNumber_9 rfl ?_
  refine WP_iload_n dX3_faultOfNumber_11 rfl ?_
  refine WP_callS1 dX3_faultOfNumber_12 ⟨⟨⟨by decide, by decide⟩, zX3_leastOf⟩, lX3_121, tX3_leastOf⟩ (sx_leastOf hy hr hI pa ) (Nat.le_of_ble_eq_true rfl) ?_
  intro r Ia Ja Ra hq
  obtain ⟨⟨ea, eb, ec⟩, v6054, rfl, av6054, bv6054⟩ := hq
  show WP _ _ _ _ (.int _ :: _) _ _ _ _
  rw [ea, eb, ec]
  clear ea eb ec Ia Ja Ra
  refine WQ_icmp_lt 27 dX3_faultOfNumber_15 rfl (fun c6054 => ?_) (fun c6054 => ?_)
  · refine WQ_iconst (2) (2) dX3_faultOfNumber_27 rfl rfl (fun v6056 hv6056 => ?_)
    obtain ⟨w6057, ew6057⟩ : ∃ w : Int32, I (ad g 4) 3 = w := ⟨_, rfl⟩
    have bw6057 := BT_get hI.1 4 0 5 (0) (0) (1000) (by decide) 3 (by decide) (by decide)
    rw [ew6057] at bw6057
    exact WP_iret dX3_faultOfNumber_28 rfl ⟨⟨hI, rfl, ⟨trivial, rfl, rfl, rfl, rfl, rfl⟩⟩, _, rfl, by omega, by omega, by (try rw [ew6057]); omega⟩
  · refine WP_iload dX3_faultOfNumber_18 rfl ?_
    refine WP_iload_n dX3_faultOfNumber_20 rfl ?_
    refine WP_callS1 dX3_faultOfNumber_21 ⟨⟨⟨by decide, by decide⟩, zX3_mostOf⟩, lX3_125, tX3_mostOf⟩ (sx_mostOf hy hr hI pa ) (Nat.le_of_ble_eq_true rfl) ?_
    intro r Ia Ja Ra hq
    obtain ⟨⟨ea, eb, ec⟩, v6058, rfl, av6058, bv6058, cv6058⟩ := hq
    show WP _ _ _ _ (.int _ :: _) _ _ _ _
    rw [ea, eb, ec]
    clear ea eb ec Ia Ja Ra
    refine WQ_icmp_le 29 dX3_faultOfNumber_24 rfl (fun c6058 => ?_) (fun c6058 => ?_)
    · refine WP_aload_n dX3_faultOfNumber_29 rfl ?_
      refine WP_getr dX3_faultOfNumber_30 fX3_9 rfl (lyx_is hy 3 3 rfl) (rfx hr 3 3 4 (by decide)) ?_
      refine WP_iload_n dX3_faultOfNumber_33 rfl ?_
      refine WP_iload dX3_faultOfNumber_34 rfl ?_
      refine WQ_iast dX3_faultOfNumber_36 (lyx_is hy 4 13 rfl) (lyx_n hy 4 5 rfl) (by omega) (by omega) (fun I6060 fI6060 => ?_)
      have eI6060 := fI6060
      rw [cl (x := ix) (n := 3) (by omega)] at eI6060
      clear fI6060
      have hI6060 : XI g n L I6060 := by rw [eI6060]; exact (xi_f hy hI (c := 4) (0) (0) (1000) (by decide) (Or.inl (by decide)) (by decide) (by omega) (by omega))
      have e6061 : I6060 (ad g 1) 1 = L := by rw [eI6060, pp_ne _ _ (Or.inl (lyx_ne hy (by decide) (by decide) (by decide)))]; exact e6046
      have e6062 : I6060 (ad g 4) 0 = w6048 := by rw [eI6060, pp_ne _ _ (Or.inr (by decide))]; exact ew6048
      have e6063 : I6060 (ad g 4) 1 = w6049 := by rw [eI6060, pp_ne _ _ (Or.inr (by decide))]; exact ew6049
      have e6064 : I6060 (ad g 4) 2 = w6050 := by rw [eI6060, pp_ne _ _ (Or.inr (by decide))]; exact ew6050
      have e6065 : I6060 (ad g 6) 1 = w6051 := by rw [eI6060, pp_ne _ _ (Or.inl (lyx_ne hy (by decide) (by decide) (by decide)))]; exact ew6051
      have e6066 : I6060 (ad g 6) 2 = w6052 := by rw [eI6060, pp_ne _ _ (Or.inl (lyx_ne hy (by decide) (by decide) (by decide)))]; exact ew6052
      have e6067 : I6060 (ad g 1) 4 = v6053 := by rw [eI6060, pp_ne _ _ (Or.inl (lyx_ne hy (by decide) (by decide) (by decide)))]; exact ev6053
      have e6068 : I6060 (ad g 4) 3 = v6053 := by rw [eI6060, pp_self]
      clear eI6060
      refine WP_iload_n dX3_faultOfNumber_37 rfl ?_
      refine WQ_bipush (68) (68) dX3_faultOfNumber_38 rfl rfl (fun v6069 hv6069 => ?_)
      refine WQ_icmp_eq 45 dX3_faultOfNumber_40 rfl (fun c6069 => False.elim (by omega)) (fun c6069 => ?_)
      refine WQ_iconst (0) (0) dX3_faultOfNumber_43 rfl rfl (fun v6071 hv6071 => ?_)
      exact WP_iret dX3_faultOfNumber_44 rfl ⟨⟨hI6060, rfl, ⟨trivial, (by rw [e6062, ew6048] <;> exact (eq32 _ _).mpr (by omega)), (by rw [e6063, ew6049] <;> exact (eq32 _ _).mpr (by omega)), (by rw [e6064, ew6050] <;> exact (eq32 _ _).mpr (by omega)), (by rw [e6065, ew6051] <;> exact (eq32 _ _).mpr (by omega)), (by rw [e6066, ew6052] <;> exact (eq32 _ _).mpr (by omega))⟩⟩, _, rfl, by omega, by omega, by (try rw [e6068]); omega⟩
    · refine WQ_iconst (2) (2) dX3_faultOfNumber_27 rfl rfl (fun v6072 hv6072 => ?_)
      obtain ⟨w6073, ew6073⟩ : ∃ w : Int32, I (ad g 4) 3 = w := ⟨_, rfl⟩
      have bw6073 := BT_get hI.1 4 0 5 (0) (0) (1000) (by decide) 3 (by decide) (by decide)
      rw [ew6073] at bw6073
      exact WP_iret dX3_faultOfNumber_28 rfl ⟨⟨hI, rfl, ⟨trivial, rfl, rfl, rfl, rfl, rfl⟩⟩, _, rfl, by omega, by omega, by (try rw [ew6073]); omega⟩
set_option maxHeartbeats 4000000 in
set_option maxRecDepth 100000 in
theorem sx_part_6_10_4 {g : GG} {n : Int} {L : Int32} (hy : LyX g)  {I : pI} {J : pJ} {R : pR} (hr : RfX g R) (hI : XI g n L I) (pa : Int32) (cz : Int32) (ix : Int32) (pa_lo : 80 ≤ pa.toInt) (pa_hi : pa.toInt ≤ 80) (cz_lo : 10 ≤ cz.toInt) (cz_hi : cz.toInt ≤ 10) (ix_lo : 4 ≤ ix.toInt) (ix_hi : ix.toInt ≤ 4) : SP g mX3_faultOfNumber [.ref (ad g 3), .int pa, .int cz, .int ix, .ref (ad g 6)] I J R (fun r I' J' R' => (XI g n L I' ∧ R' = R ∧ True ∧ I' (ad g 4) 0 = I (ad g 4) 0 ∧ I' (ad g 4) 1 = I (ad g 4) 1 ∧ I' (ad g 4) 2 = I (ad g 4) 2 ∧ I' (ad g 4) 3 = I (ad g 4) 3 ∧ I' (ad g 6) 1 = I (ad g 6) 1 ∧ I' (ad g 6) 2 = I (ad g 6) 2) ∧ ∃ v : Int32, r = some (.int v) ∧ 0 ≤ v.toInt ∧ v.toInt ≤ 5 ∧ (v.toInt = 0 → (I' (ad g 4) 4).toInt ≤ 99)) := by
  refine SP_of ⟨by decide, rfl⟩ (Nat.le_of_ble_eq_true rfl) ?_
  have e6074 : I (ad g 1) 1 = L := hI.2
  have b6075 := BT_get hI.1 1 1 2 (0) (0) (900) (by decide) 1 (by decide) (by decide)
  rw [e6074] at b6075
  obtain ⟨w6076, ew6076⟩ : ∃ w : Int32, I (ad g 4) 0 = w := ⟨_, rfl⟩
  have bw6076 := BT_get hI.1 4 0 5 (0) (0) (1000) (by decide) 0 (by decide) (by decide)
  rw [ew6076] at bw6076
  obtain ⟨w6077, ew6077⟩ : ∃ w : Int32, I (ad g 4) 1 = w := ⟨_, rfl⟩
  have bw6077 := BT_get hI.1 4 0 5 (0) (0) (1000) (by decide) 1 (by decide) (by decide)
  rw [ew6077] at bw6077
  obtain ⟨w6078, ew6078⟩ : ∃ w : Int32, I (ad g 4) 2 = w := ⟨_, rfl⟩
  have bw6078 := BT_get hI.1 4 0 5 (0) (0) (1000) (by decide) 2 (by decide) (by decide)
  rw [ew6078] at bw6078
  obtain ⟨w6079, ew6079⟩ : ∃ w : Int32, I (ad g 4) 3 = w := ⟨_, rfl⟩
  have bw6079 := BT_get hI.1 4 0 5 (0) (0) (1000) (by decide) 3 (by decide) (by decide)
  rw [ew6079] at bw6079
  obtain ⟨w6080, ew6080⟩ : ∃ w : Int32, I (ad g 6) 1 = w := ⟨_, rfl⟩
  have bw6080 := BT_get hI.1 6 1 2 (0) (0) (4) (by decide) 1 (by decide) (by decide)
  rw [ew6080] at bw6080
  obtain ⟨w6081, ew6081⟩ : ∃ w : Int32, I (ad g 6) 2 = w := ⟨_, rfl⟩
  have bw6081 := BT_get hI.1 6 2 3 (0) (0) (3) (by decide) 2 (by decide) (by decide)
  rw [ew6081] at bw6081
  refine WP_aload_n dX3_faultOfNumber_0 rfl ?_
  refine WP_getr dX3_faultOfNumber_1 fX3_15 rfl (lyx_is hy 3 3 rfl) (rfx hr 3 2 1 (by decide)) ?_
  refine WQ_getiu dX3_faultOfNumber_4 fX3_118 rfl (lyx_is hy 1 5 rfl) (fun v6082 ev6082 => ?_)
  refine WP_istore (ls' := [(0, _), (1, _), (2, _), (3, _), (4, _), (5, _)]) dX3_faultOfNumber_7 (by decide) rfl ?_
  refine WP_iload dX3_faultOfNumber_9 rfl ?_
  refine WP_iload_n dX3_faultOfNumber_11 rfl ?_
  refine WP_callS1 dX3_faultOfNumber_12 ⟨⟨⟨by decide, by decide⟩, zX3_leastOf⟩, lX3_121, tX3_leastOf⟩ (sx_leastOf hy hr hI pa ) (Nat.le_of_ble_eq_true rfl) ?_
  intro r Ia Ja Ra hq
  obtain ⟨⟨ea, eb, ec⟩, v6083, rfl, av6083, bv6083⟩ := hq
  show WP _ _ _ _ (.int _ :: _) _ _ _ _
  rw [ea, eb, ec]
  clear ea eb ec Ia Ja Ra
  refine WQ_icmp_lt 27 dX3_faultOfNumber_15 rfl (fun c6083 => ?_) (fun c6083 => ?_)
  · refine WQ_iconst (2) (2) dX3_faultOfNumber_27 rfl rfl (fun v6085 hv6085 => ?_)
    obtain ⟨w6086, ew6086⟩ : ∃ w : Int32, I (ad g 4) 4 = w := ⟨_, rfl⟩
    have bw6086 := BT_get hI.1 4 0 5 (0) (0) (1000) (by decide) 4 (by decide) (by decide)
    rw [ew6086] at bw6086
    exact WP_iret dX3_faultOfNumber_28 rfl ⟨⟨hI, rfl, ⟨trivial, rfl, rfl, rfl, rfl, rfl, rfl⟩⟩, _, rfl, by omega, by omega, by (try rw [ew6086]); omega⟩
  · refine WP_iload dX3_faultOfNumber_18 rfl ?_
    refine WP_iload_n dX3_faultOfNumber_20 rfl ?_
    refine WP_callS1 dX3_faultOfNumber_21 ⟨⟨⟨by decide, by decide⟩, zX3_mostOf⟩, lX3_125, tX3_mostOf⟩ (sx_mostOf hy hr hI pa ) (Nat.le_of_ble_eq_true rfl) ?_
    intro r Ia Ja Ra hq
    obtain ⟨⟨ea, eb, ec⟩, v6087, rfl, av6087, bv6087, cv6087⟩ := hq
    show WP _ _ _ _ (.int _ :: _) _ _ _ _
    rw [ea, eb, ec]
    clear ea eb ec Ia Ja Ra
    refine WQ_icmp_le 29 dX3_faultOfNumber_24 rfl (fun c6087 => ?_) (fun c6087 => ?_)
    · refine WP_aload_n dX3_faultOfNumber_29 rfl ?_
      refine WP_getr dX3_faultOfNumber_30 fX3_9 rfl (lyx_is hy 3 3 rfl) (rfx hr 3 3 4 (by decide)) ?_
      refine WP_iload_n dX3_faultOfNumber_33 rfl ?_
      refine WP_iload dX3_faultOfNumber_34 rfl ?_
      refine WQ_iast dX3_faultOfNumber_36 (lyx_is hy 4 13 rfl) (lyx_n hy 4 5 rfl) (by omega) (by omega) (fun I6089 fI6089 => ?_)
      have eI6089 := fI6089
      rw [cl (x := ix) (n := 4) (by omega)] at eI6089
      clear fI6089
      have hI6089 : XI g n L I6089 := by rw [eI6089]; exact (xi_f hy hI (c := 4) (0) (0) (1000) (by decide) (Or.inl (by decide)) (by decide) (by omega) (by omega))
      have e6090 : I6089 (ad g 1) 1 = L := by rw [eI6089, pp_ne _ _ (Or.inl (lyx_ne hy (by decide) (by decide) (by decide)))]; exact e6074
      have e6091 : I6089 (ad g 4) 0 = w6076 := by rw [eI6089, pp_ne _ _ (Or.inr (by decide))]; exact ew6076
      have e6092 : I6089 (ad g 4) 1 = w6077 := by rw [eI6089, pp_ne _ _ (Or.inr (by decide))]; exact ew6077
      have e6093 : I6089 (ad g 4) 2 = w6078 := by rw [eI6089, pp_ne _ _ (Or.inr (by decide))]; exact ew6078
      have e6094 : I6089 (ad g 4) 3 = w6079 := by rw [eI6089, pp_ne _ _ (Or.inr (by decide))]; exact ew6079
      have e6095 : I6089 (ad g 6) 1 = w6080 := by rw [eI6089, pp_ne _ _ (Or.inl (lyx_ne hy (by decide) (by decide) (by decide)))]; exact ew6080
      have e6096 : I6089 (ad g 6) 2 = w6081 := by rw [eI6089, pp_ne _ _ (Or.inl (lyx_ne hy (by decide) (by decide) (by decide)))]; exact ew6081
      have e6097 : I6089 (ad g 1) 4 = v6082 := by rw [eI6089, pp_ne _ _ (Or.inl (lyx_ne hy (by decide) (by decide) (by decide)))]; exact ev6082
      have e6098 : I6089 (ad g 4) 4 = v6082 := by rw [eI6089, pp_self]
      clear eI6089
      refine WP_iload_n dX3_faultOfNumber_37 rfl ?_
      refine WQ_bipush (68) (68) dX3_faultOfNumber_38 rfl rfl (fun v6099 hv6099 => ?_)
      refine WQ_icmp_eq 45 dX3_faultOfNumber_40 rfl (fun c6099 => False.elim (by omega)) (fun c6099 => ?_)
      refine WQ_iconst (0) (0) dX3_faultOfNumber_43 rfl rfl (fun v6101 hv6101 => ?_)
      exact WP_iret dX3_faultOfNumber_44 rfl ⟨⟨hI6089, rfl, ⟨trivial, (by rw [e6091, ew6076] <;> exact (eq32 _ _).mpr (by omega)), (by rw [e6092, ew6077] <;> exact (eq32 _ _).mpr (by omega)), (by rw [e6093, ew6078] <;> exact (eq32 _ _).mpr (by omega)), (by rw [e6094, ew6079] <;> exact (eq32 _ _).mpr (by omega)), (by rw [e6095, ew6080] <;> exact (eq32 _ _).mpr (by omega)), (by rw [e6096, ew6081] <;> exact (eq32 _ _).mpr (by omega))⟩⟩, _, rfl, by omega, by omega, by (try rw [e6098]); omega⟩
    · refine WQ_iconst (2) (2) dX3_faultOfNumber_27 rfl rfl (fun v6102 hv6102 => ?_)
      obtain ⟨w6103, ew6103⟩ : ∃ w : Int32, I (ad g 4) 4 = w := ⟨_, rfl⟩
      have bw6103 := BT_get hI.1 4 0 5 (0) (0) (1000) (by decide) 4 (by decide) (by decide)
      rw [ew6103] at bw6103
      exact WP_iret dX3_faultOfNumber_28 rfl ⟨⟨hI, rfl, ⟨trivial, rfl, rfl, rfl, rfl, rfl, rfl⟩⟩, _, rfl, by omega, by omega, by (try rw [ew6103]); omega⟩
set_option maxHeartbeats 4000000 in
set_option maxRecDepth 100000 in
theorem sx_part_6_11_0 {g : GG} {n : Int} {L : Int32} (hy : LyX g)  {I : pI} {J : pJ} {R : pR} (hr : RfX g R) (hI : XI g n L I) (pa : Int32) (cz : Int32) (ix : Int32) (pa_lo : 86 ≤ pa.toInt) (pa_hi : pa.toInt ≤ 86) (cz_lo : 11 ≤ cz.toInt) (cz_hi : cz.toInt ≤ 11) (ix_lo : 0 ≤ ix.toInt) (ix_hi : ix.toInt ≤ 0) : SP g mX3_faultOfNumber [.ref (ad g 3), .int pa, .int cz, .int ix, .ref (ad g 6)] I J R (fun r I' J' R' => (XI g n L I' ∧ R' = R ∧ True ∧ I' (ad g 6) 1 = I (ad g 6) 1 ∧ I' (ad g 6) 2 = I (ad g 6) 2) ∧ ∃ v : Int32, r = some (.int v) ∧ 0 ≤ v.toInt ∧ v.toInt ≤ 5 ∧ (v.toInt = 0 → (I' (ad g 4) 0).toInt ≤ 99)) := by
  refine SP_of ⟨by decide, rfl⟩ (Nat.le_of_ble_eq_true rfl) ?_
  have e6104 : I (ad g 1) 1 = L := hI.2
  have b6105 := BT_get hI.1 1 1 2 (0) (0) (900) (by decide) 1 (by decide) (by decide)
  rw [e6104] at b6105
  obtain ⟨w6106, ew6106⟩ : ∃ w : Int32, I (ad g 6) 1 = w := ⟨_, rfl⟩
  have bw6106 := BT_get hI.1 6 1 2 (0) (0) (4) (by decide) 1 (by decide) (by decide)
  rw [ew6106] at bw6106
  obtain ⟨w6107, ew6107⟩ : ∃ w : Int32, I (ad g 6) 2 = w := ⟨_, rfl⟩
  have bw6107 := BT_get hI.1 6 2 3 (0) (0) (3) (by decide) 2 (by decide) (by decide)
  rw [ew6107] at bw6107
  refine WP_aload_n dX3_faultOfNumber_0 rfl ?_
  refine WP_getr dX3_faultOfNumber_1 fX3_15 rfl (lyx_is hy 3 3 rfl) (rfx hr 3 2 1 (by decide)) ?_
  refine WQ_getiu dX3_faultOfNumber_4 fX3_118 rfl (lyx_is hy 1 5 rfl) (fun v6108 ev6108 => ?_)
  refine WP_istore (ls' := [(0, _), (1, _), (2, _), (3, _), (4, _), (5, _)]) dX3_faultOfNumber_7 (by decide) rfl ?_
  refine WP_iload dX3_faultOfNumber_9 rfl ?_
  refine WP_iload_n dX3_faultOfNumber_11 rfl ?_
  refine WP_callS1 dX3_faultOfNumber_12 ⟨⟨⟨by decide, by decide⟩, zX3_leastOf⟩, lX3_121, tX3_leastOf⟩ (sx_leastOf hy hr hI pa ) (Nat.le_of_ble_eq_true rfl) ?_
  intro r Ia Ja Ra hq
  obtain ⟨⟨ea, eb, ec⟩, v6109, rfl, av6109, bv6109⟩ := hq
  show WP _ _ _ _ (.int _ :: _) _ _ _ _
  rw [ea, eb, ec]
  clear ea eb ec Ia Ja Ra
  refine WQ_icmp_lt 27 dX3_faultOfNumber_15 rfl (fun c6109 => ?_) (fun c6109 => ?_)
  · refine WQ_iconst (2) (2) dX3_faultOfNumber_27 rfl rfl (fun v6111 hv6111 => ?_)
    obtain ⟨w6112, ew6112⟩ : ∃ w : Int32, I (ad g 4) 0 = w := ⟨_, rfl⟩
    have bw6112 := BT_get hI.1 4 0 5 (0) (0) (1000) (by decide) 0 (by decide) (by decide)
    rw [ew6112] at bw6112
    exact WP_iret dX3_faultOfNumber_28 rfl ⟨⟨hI, rfl, ⟨trivial, rfl, rfl⟩⟩, _, rfl, by omega, by omega, by (try rw [ew6112]); omega⟩
  · refine WP_iload dX3_faultOfNumber_18 rfl ?_
    refine WP_iload_n dX3_faultOfNumber_20 rfl ?_
    refine WP_callS1 dX3_faultOfNumber_21 ⟨⟨⟨by decide, by decide⟩, zX3_mostOf⟩, lX3_125, tX3_mostOf⟩ (sx_mostOf hy hr hI pa ) (Nat.le_of_ble_eq_true rfl) ?_
    intro r Ia Ja Ra hq
    obtain ⟨⟨ea, eb, ec⟩, v6113, rfl, av6113, bv6113, cv6113⟩ := hq
    show WP _ _ _ _ (.int _ :: _) _ _ _ _
    rw [ea, eb, ec]
    clear ea eb ec Ia Ja Ra
    refine WQ_icmp_le 29 dX3_faultOfNumber_24 rfl (fun c6113 => ?_) (fun c6113 => ?_)
    · refine WP_aload_n dX3_faultOfNumber_29 rfl ?_
      refine WP_getr dX3_faultOfNumber_30 fX3_9 rfl (lyx_is hy 3 3 rfl) (rfx hr 3 3 4 (by decide)) ?_
      refine WP_iload_n dX3_faultOfNumber_33 rfl ?_
      refine WP_iload dX3_faultOfNumber_34 rfl ?_
      refine WQ_iast dX3_faultOfNumber_36 (lyx_is hy 4 13 rfl) (lyx_n hy 4 5 rfl) (by omega) (by omega) (fun I6115 fI6115 => ?_)
      have eI6115 := fI6115
      rw [cl (x := ix) (n := 0) (by omega)] at eI6115
      clear fI6115
      have hI6115 : XI g n L I6115 := by rw [eI6115]; exact (xi_f hy hI (c := 4) (0) (0) (1000) (by decide) (Or.inl (by decide)) (by decide) (by omega) (by omega))
      have e6116 : I6115 (ad g 1) 1 = L := by rw [eI6115, pp_ne _ _ (Or.inl (lyx_ne hy (by decide) (by decide) (by decide)))]; exact e6104
      have e6117 : I6115 (ad g 6) 1 = w6106 := by rw [eI6115, pp_ne _ _ (Or.inl (lyx_ne hy (by decide) (by decide) (by decide)))]; exact ew6106
      have e6118 : I6115 (ad g 6) 2 = w6107 := by rw [eI6115, pp_ne _ _ (Or.inl (lyx_ne hy (by decide) (by decide) (by decide)))]; exact ew6107
      have e6119 : I6115 (ad g 1) 4 = v6108 := by rw [eI6115, pp_ne _ _ (Or.inl (lyx_ne hy (by decide) (by decide) (by decide)))]; exact ev6108
      have e6120 : I6115 (ad g 4) 0 = v6108 := by rw [eI6115, pp_self]
      clear eI6115
      refine WP_iload_n dX3_faultOfNumber_37 rfl ?_
      refine WQ_bipush (68) (68) dX3_faultOfNumber_38 rfl rfl (fun v6121 hv6121 => ?_)
      refine WQ_icmp_eq 45 dX3_faultOfNumber_40 rfl (fun c6121 => False.elim (by omega)) (fun c6121 => ?_)
      refine WQ_iconst (0) (0) dX3_faultOfNumber_43 rfl rfl (fun v6123 hv6123 => ?_)
      exact WP_iret dX3_faultOfNumber_44 rfl ⟨⟨hI6115, rfl, ⟨trivial, (by rw [e6117, ew6106] <;> exact (eq32 _ _).mpr (by omega)), (by rw [e6118, ew6107] <;> exact (eq32 _ _).mpr (by omega))⟩⟩, _, rfl, by omega, by omega, by (try rw [e6120]); omega⟩
    · refine WQ_iconst (2) (2) dX3_faultOfNumber_27 rfl rfl (fun v6124 hv6124 => ?_)
      obtain ⟨w6125, ew6125⟩ : ∃ w : Int32, I (ad g 4) 0 = w := ⟨_, rfl⟩
      have bw6125 := BT_get hI.1 4 0 5 (0) (0) (1000) (by decide) 0 (by decide) (by decide)
      rw [ew6125] at bw6125
      exact WP_iret dX3_faultOfNumber_28 rfl ⟨⟨hI, rfl, ⟨trivial, rfl, rfl⟩⟩, _, rfl, by omega, by omega, by (try rw [ew6125]); omega⟩
set_option maxHeartbeats 4000000 in
set_option maxRecDepth 100000 in
theorem sx_part_6_11_1 {g : GG} {n : Int} {L : Int32} (hy : LyX g)  {I : pI} {J : pJ} {R : pR} (hr : RfX g R) (hI : XI g n L I) (pa : Int32) (cz : Int32) (ix : Int32) (pa_lo : 86 ≤ pa.toInt) (pa_hi : pa.toInt ≤ 86) (cz_lo : 11 ≤ cz.toInt) (cz_hi : cz.toInt ≤ 11) (ix_lo : 1 ≤ ix.toInt) (ix_hi : ix.toInt ≤ 1) : SP g mX3_faultOfNumber [.ref (ad g 3), .int pa, .int cz, .int ix, .ref (ad g 6)] I J R (fun r I' J' R' => (XI g n L I' ∧ R' = R ∧ True ∧ I' (ad g 4) 0 = I (ad g 4) 0 ∧ I' (ad g 6) 1 = I (ad g 6) 1 ∧ I' (ad g 6) 2 = I (ad g 6) 2) ∧ ∃ v : Int32, r = some (.int v) ∧ 0 ≤ v.toInt ∧ v.toInt ≤ 5 ∧ (v.toInt = 0 → (I' (ad g 4) 1).toInt ≤ 99)) := by
  refine SP_of ⟨by decide, rfl⟩ (Nat.le_of_ble_eq_true rfl) ?_
  have e6126 : I (ad g 1) 1 = L := hI.2
  have b6127 := BT_get hI.1 1 1 2 (0) (0) (900) (by decide) 1 (by decide) (by decide)
  rw [e6126] at b6127
  obtain ⟨w6128, ew6128⟩ : ∃ w : Int32, I (ad g 4) 0 = w := ⟨_, rfl⟩
  have bw6128 := BT_get hI.1 4 0 5 (0) (0) (1000) (by decide) 0 (by decide) (by decide)
  rw [ew6128] at bw6128
  obtain ⟨w6129, ew6129⟩ : ∃ w : Int32, I (ad g 6) 1 = w := ⟨_, rfl⟩
  have bw6129 := BT_get hI.1 6 1 2 (0) (0) (4) (by decide) 1 (by decide) (by decide)
  rw [ew6129] at bw6129
  obtain ⟨w6130, ew6130⟩ : ∃ w : Int32, I (ad g 6) 2 = w := ⟨_, rfl⟩
  have bw6130 := BT_get hI.1 6 2 3 (0) (0) (3) (by decide) 2 (by decide) (by decide)
  rw [ew6130] at bw6130
  refine WP_aload_n dX3_faultOfNumber_0 rfl ?_
  refine WP_getr dX3_faultOfNumber_1 fX3_15 rfl (lyx_is hy 3 3 rfl) (rfx hr 3 2 1 (by decide)) ?_
  refine WQ_getiu dX3_faultOfNumber_4 fX3_118 rfl (lyx_is hy 1 5 rfl) (fun v6131 ev6131 => ?_)
  refine WP_istore (ls' := [(0, _), (1, _), (2, _), (3, _), (4, _), (5, _)]) dX3_faultOfNumber_7 (by decide) rfl ?_
  refine WP_iload dX3_faultOfNumber_9 rfl ?_
  refine WP_iload_n dX3_faultOfNumber_11 rfl ?_
  refine WP_callS1 dX3_faultOfNumber_12 ⟨⟨⟨by decide, by decide⟩, zX3_leastOf⟩, lX3_121, tX3_leastOf⟩ (sx_leastOf hy hr hI pa ) (Nat.le_of_ble_eq_true rfl) ?_
  intro r Ia Ja Ra hq
  obtain ⟨⟨ea, eb, ec⟩, v6132, rfl, av6132, bv6132⟩ := hq
  show WP _ _ _ _ (.int _ :: _) _ _ _ _
  rw [ea, eb, ec]
  clear ea eb ec Ia Ja Ra
  refine WQ_icmp_lt 27 dX3_faultOfNumber_15 rfl (fun c6132 => ?_) (fun c6132 => ?_)
  · refine WQ_iconst (2) (2) dX3_faultOfNumber_27 rfl rfl (fun v6134 hv6134 => ?_)
    obtain ⟨w6135, ew6135⟩ : ∃ w : Int32, I (ad g 4) 1 = w := ⟨_, rfl⟩
    have bw6135 := BT_get hI.1 4 0 5 (0) (0) (1000) (by decide) 1 (by decide) (by decide)
    rw [ew6135] at bw6135
    exact WP_iret dX3_faultOfNumber_28 rfl ⟨⟨hI, rfl, ⟨trivial, rfl, rfl, rfl⟩⟩, _, rfl, by omega, by omega, by (try rw [ew6135]); omega⟩
  · refine WP_iload dX3_faultOfNumber_18 rfl ?_
    refine WP_iload_n dX3_faultOfNumber_20 rfl ?_
    refine WP_callS1 dX3_faultOfNumber_21 ⟨⟨⟨by decide, by decide⟩, zX3_mostOf⟩, lX3_125, tX3_mostOf⟩ (sx_mostOf hy hr hI pa ) (Nat.le_of_ble_eq_true rfl) ?_
    intro r Ia Ja Ra hq
    obtain ⟨⟨ea, eb, ec⟩, v6136, rfl, av6136, bv6136, cv6136⟩ := hq
    show WP _ _ _ _ (.int _ :: _) _ _ _ _
    rw [ea, eb, ec]
    clear ea eb ec Ia Ja Ra
    refine WQ_icmp_le 29 dX3_faultOfNumber_24 rfl (fun c6136 => ?_) (fun c6136 => ?_)
    · refine WP_aload_n dX3_faultOfNumber_29 rfl ?_
      refine WP_getr dX3_faultOfNumber_30 fX3_9 rfl (lyx_is hy 3 3 rfl) (rfx hr 3 3 4 (by decide)) ?_
      refine WP_iload_n dX3_faultOfNumber_33 rfl ?_
      refine WP_iload dX3_faultOfNumber_34 rfl ?_
      refine WQ_iast dX3_faultOfNumber_36 (lyx_is hy 4 13 rfl) (lyx_n hy 4 5 rfl) (by omega) (by omega) (fun I6138 fI6138 => ?_)
      have eI6138 := fI6138
      rw [cl (x := ix) (n := 1) (by omega)] at eI6138
      clear fI6138
      have hI6138 : XI g n L I6138 := by rw [eI6138]; exact (xi_f hy hI (c := 4) (0) (0) (1000) (by decide) (Or.inl (by decide)) (by decide) (by omega) (by omega))
      have e6139 : I6138 (ad g 1) 1 = L := by rw [eI6138, pp_ne _ _ (Or.inl (lyx_ne hy (by decide) (by decide) (by decide)))]; exact e6126
      have e6140 : I6138 (ad g 4) 0 = w6128 := by rw [eI6138, pp_ne _ _ (Or.inr (by decide))]; exact ew6128
      have e6141 : I6138 (ad g 6) 1 = w6129 := by rw [eI6138, pp_ne _ _ (Or.inl (lyx_ne hy (by decide) (by decide) (by decide)))]; exact ew6129
      have e6142 : I6138 (ad g 6) 2 = w6130 := by rw [eI6138, pp_ne _ _ (Or.inl (lyx_ne hy (by decide) (by decide) (by decide)))]; exact ew6130
      have e6143 : I6138 (ad g 1) 4 = v6131 := by rw [eI6138, pp_ne _ _ (Or.inl (lyx_ne hy (by decide) (by decide) (by decide)))]; exact ev6131
      have e6144 : I6138 (ad g 4) 1 = v6131 := by rw [eI6138, pp_self]
      clear eI6138
      refine WP_iload_n dX3_faultOfNumber_37 rfl ?_
      refine WQ_bipush (68) (68) dX3_faultOfNumber_38 rfl rfl (fun v6145 hv6145 => ?_)
      refine WQ_icmp_eq 45 dX3_faultOfNumber_40 rfl (fun c6145 => False.elim (by omega)) (fun c6145 => ?_)
      refine WQ_iconst (0) (0) dX3_faultOfNumber_43 rfl rfl (fun v6147 hv6147 => ?_)
      exact WP_iret dX3_faultOfNumber_44 rfl ⟨⟨hI6138, rfl, ⟨trivial, (by rw [e6140, ew6128] <;> exact (eq32 _ _).mpr (by omega)), (by rw [e6141, ew6129] <;> exact (eq32 _ _).mpr (by omega)), (by rw [e6142, ew6130] <;> exact (eq32 _ _).mpr (by omega))⟩⟩, _, rfl, by omega, by omega, by (try rw [e6144]); omega⟩
    · refine WQ_iconst (2) (2) dX3_faultOfNumber_27 rfl rfl (fun v6148 hv6148 => ?_)
      obtain ⟨w6149, ew6149⟩ : ∃ w : Int32, I (ad g 4) 1 = w := ⟨_, rfl⟩
      have bw6149 := BT_get hI.1 4 0 5 (0) (0) (1000) (by decide) 1 (by decide) (by decide)
      rw [ew6149] at bw6149
      exact WP_iret dX3_faultOfNumber_28 rfl ⟨⟨hI, rfl, ⟨trivial, rfl, rfl, rfl⟩⟩, _, rfl, by omega, by omega, by (try rw [ew6149]); omega⟩
set_option maxHeartbeats 4000000 in
set_option maxRecDepth 100000 in
theorem sx_name_27_1 {g : GG} {n : Int} {L : Int32} (hy : LyX g)  {I : pI} {J : pJ} {R : pR} (hr : RfX g R) (hI : XI g n L I) (os : Int32) (wd : Int64) (os_lo : 1 ≤ os.toInt) (os_hi : os.toInt ≤ 1) (hb : (I (ad g 27) 1).toInt ≤ 3) : SP g mX7_name [.ref (ad g 27), .int os, .long wd] I J R (fun r I' J' R' => (I' = I ∧ R' = R) ∧ r = none) := by
  refine SP_of ⟨by decide, rfl⟩ (Nat.le_of_ble_eq_true rfl) ?_
  have e6150 : I (ad g 1) 1 = L := hI.2
  have b6151 := BT_get hI.1 1 1 2 (0) (0) (900) (by decide) 1 (by decide) (by decide)
  rw [e6150] at b6151
  obtain ⟨w6152, ew6152⟩ : ∃ w : Int32, I (ad g 27) 1 = w := ⟨_, rfl⟩
  have bw6152 := BT_get hI.1 27 1 2 (0) (0) (4) (by decide) 1 (by decide) (by decide)
  rw [ew6152] at bw6152
  rw [ew6152] at hb
  refine WP_aload_n dX7_name_0 rfl ?_
  refine WP_getr dX7_name_1 fX7_51 rfl (lyx_is hy 27 7 rfl) (rfx hr 27 18 41 (by decide)) ?_
  refine WP_iload_n dX7_name_4 rfl ?_
  have jn21_6153 : ∀ (v6153 : Int32), 0 ≤ v6153.toInt → v6153.toInt ≤ 3 → WP g mX7_name 21 [(0, .ref (ad g 27)), (1, .int os), (2, .long wd)] [.int v6153, .ref (ad g 41)] I J R (fun r I' J' R' => (I' = I ∧ R' = R) ∧ r = none) := by
    intro v6153 av6153 bv6153
    refine WP_lload_n dX7_name_21 rfl ?_
    refine WQ_last dX7_name_22 (lyx_is hy 41 14 rfl) (lyx_n hy 41 7 rfl) (by omega) (by omega) (fun J6155 eJ6155 => ?_)
    clear eJ6155
    exact WP_vret dX7_name_23 rfl ⟨⟨rfl, rfl⟩, rfl⟩
  refine WQ_if_eq 15 dX7_name_5 rfl (fun c6155 => False.elim (by omega)) (fun c6155 => ?_)
  refine WP_aload_n dX7_name_8 rfl ?_
  refine WQ_getim dX7_name_9 fX7_65 rfl (lyx_is hy 27 7 rfl) ew6152 ?_
  refine WP_goto 21 dX7_name_12 rfl ?_
  exact WP_sub (fc rfl (fc rfl (fc rfl fn))) (jn21_6153 w6152 (by omega) (by omega))
set_option maxHeartbeats 4000000 in
set_option maxRecDepth 100000 in
theorem sx_name_27_0 {g : GG} {n : Int} {L : Int32} (hy : LyX g)  {I : pI} {J : pJ} {R : pR} (hr : RfX g R) (hI : XI g n L I) (os : Int32) (wd : Int64) (os_lo : 0 ≤ os.toInt) (os_hi : os.toInt ≤ 0) (hb : (I (ad g 27) 2).toInt ≤ 2) : SP g mX7_name [.ref (ad g 27), .int os, .long wd] I J R (fun r I' J' R' => (I' = I ∧ R' = R) ∧ r = none) := by
  refine SP_of ⟨by decide, rfl⟩ (Nat.le_of_ble_eq_true rfl) ?_
  have e6157 : I (ad g 1) 1 = L := hI.2
  have b6158 := BT_get hI.1 1 1 2 (0) (0) (900) (by decide) 1 (by decide) (by decide)
  rw [e6157] at b6158
  obtain ⟨w6159, ew6159⟩ : ∃ w : Int32, I (ad g 27) 2 = w := ⟨_, rfl⟩
  have bw6159 := BT_get hI.1 27 2 3 (0) (0) (3) (by decide) 2 (by decide) (by decide)
  rw [ew6159] at bw6159
  rw [ew6159] at hb
  refine WP_aload_n dX7_name_0 rfl ?_
  refine WP_getr dX7_name_1 fX7_51 rfl (lyx_is hy 27 7 rfl) (rfx hr 27 18 41 (by decide)) ?_
  refine WP_iload_n dX7_name_4 rfl ?_
  have jn21_6162 : ∀ (v6162 : Int32), 4 ≤ v6162.toInt → v6162.toInt ≤ 6 → WP g mX7_name 21 [(0, .ref (ad g 27)), (1, .int os), (2, .long wd)] [.int v6162, .ref (ad g 41)] I J R (fun r I' J' R' => (I' = I ∧ R' = R) ∧ r = none) := by
    intro v6162 av6162 bv6162
    refine WP_lload_n dX7_name_21 rfl ?_
    refine WQ_last dX7_name_22 (lyx_is hy 41 14 rfl) (lyx_n hy 41 7 rfl) (by omega) (by omega) (fun J6164 eJ6164 => ?_)
    clear eJ6164
    exact WP_vret dX7_name_23 rfl ⟨⟨rfl, rfl⟩, rfl⟩
  refine WQ_if_eq 15 dX7_name_5 rfl (fun c6164 => ?_) (fun c6164 => False.elim (by omega))
  refine WQ_iconst (4) (4) dX7_name_15 rfl rfl (fun v6166 hv6166 => ?_)
  refine WP_aload_n dX7_name_16 rfl ?_
  refine WQ_getim dX7_name_17 fX7_68 rfl (lyx_is hy 27 7 rfl) ew6159 ?_
  refine WQ_iadd dX7_name_20 (by omega) (by omega) (fun v6167 hv6167 => ?_)
  exact WP_sub (fc rfl (fc rfl (fc rfl fn))) (jn21_6162 v6167 (by omega) (by omega))
set_option maxHeartbeats 4000000 in
set_option maxRecDepth 100000 in
theorem sx_part_27_0_0 {g : GG} {n : Int} {L : Int32} (hy : LyX g)  {I : pI} {J : pJ} {R : pR} (hr : RfX g R) (hI : XI g n L I) (pa : Int32) (cz : Int32) (ix : Int32) (pa_lo : 68 ≤ pa.toInt) (pa_hi : pa.toInt ≤ 68) (cz_lo : 0 ≤ cz.toInt) (cz_hi : cz.toInt ≤ 0) (ix_lo : 0 ≤ ix.toInt) (ix_hi : ix.toInt ≤ 0) : SP g mX3_faultOfNumber [.ref (ad g 3), .int pa, .int cz, .int ix, .ref (ad g 27)] I J R (fun r I' J' R' => (XI g n L I' ∧ R' = R ∧ True ∧ I' (ad g 27) 1 = I (ad g 27) 1 ∧ I' (ad g 27) 2 = I (ad g 27) 2) ∧ ∃ v : Int32, r = some (.int v) ∧ 0 ≤ v.toInt ∧ v.toInt ≤ 5 ∧ (v.toInt = 0 → (I' (ad g 4) 0).toInt ≤ 6)) := by
  refine SP_of ⟨by decide, rfl⟩ (Nat.le_of_ble_eq_true rfl) ?_
  have e6168 : I (ad g 1) 1 = L := hI.2
  have b6169 := BT_get hI.1 1 1 2 (0) (0) (900) (by decide) 1 (by decide) (by decide)
  rw [e6168] at b6169
  obtain ⟨w6170, ew6170⟩ : ∃ w : Int32, I (ad g 27) 1 = w := ⟨_, rfl⟩
  have bw6170 := BT_get hI.1 27 1 2 (0) (0) (4) (by decide) 1 (by decide) (by decide)
  rw [ew6170] at bw6170
  obtain ⟨w6171, ew6171⟩ : ∃ w : Int32, I (ad g 27) 2 = w := ⟨_, rfl⟩
  have bw6171 := BT_get hI.1 27 2 3 (0) (0) (3) (by decide) 2 (by decide) (by decide)
  rw [ew6171] at bw6171
  refine WP_aload_n dX3_faultOfNumber_0 rfl ?_
  refine WP_getr dX3_faultOfNumber_1 fX3_15 rfl (lyx_is hy 3 3 rfl) (rfx hr 3 2 1 (by decide)) ?_
  refine WQ_getiu dX3_faultOfNumber_4 fX3_118 rfl (lyx_is hy 1 5 rfl) (fun v6172 ev6172 => ?_)
  refine WP_istore (ls' := [(0, _), (1, _), (2, _), (3, _), (4, _), (5, _)]) dX3_faultOfNumber_7 (by decide) rfl ?_
  refine WP_iload dX3_faultOfNumber_9 rfl ?_
  refine WP_iload_n dX3_faultOfNumber_11 rfl ?_
  refine WP_callS1 dX3_faultOfNumber_12 ⟨⟨⟨by decide, by decide⟩, zX3_leastOf⟩, lX3_121, tX3_leastOf⟩ (sx_leastOf hy hr hI pa ) (Nat.le_of_ble_eq_true rfl) ?_
  intro r Ia Ja Ra hq
  obtain ⟨⟨ea, eb, ec⟩, v6173, rfl, av6173, bv6173⟩ := hq
  show WP _ _ _ _ (.int _ :: _) _ _ _ _
  rw [ea, eb, ec]
  clear ea eb ec Ia Ja Ra
  refine WQ_icmp_lt 27 dX3_faultOfNumber_15 rfl (fun c6173 => ?_) (fun c6173 => ?_)
  · refine WQ_iconst (2) (2) dX3_faultOfNumber_27 rfl rfl (fun v6175 hv6175 => ?_)
    obtain ⟨w6176, ew6176⟩ : ∃ w : Int32, I (ad g 4) 0 = w := ⟨_, rfl⟩
    have bw6176 := BT_get hI.1 4 0 5 (0) (0) (1000) (by decide) 0 (by decide) (by decide)
    rw [ew6176] at bw6176
    exact WP_iret dX3_faultOfNumber_28 rfl ⟨⟨hI, rfl, ⟨trivial, rfl, rfl⟩⟩, _, rfl, by omega, by omega, by (try rw [ew6176]); omega⟩
  · refine WP_iload dX3_faultOfNumber_18 rfl ?_
    refine WP_iload_n dX3_faultOfNumber_20 rfl ?_
    refine WP_callS1 dX3_faultOfNumber_21 ⟨⟨⟨by decide, by decide⟩, zX3_mostOf⟩, lX3_125, tX3_mostOf⟩ (sx_mostOf hy hr hI pa ) (Nat.le_of_ble_eq_true rfl) ?_
    intro r Ia Ja Ra hq
    obtain ⟨⟨ea, eb, ec⟩, v6177, rfl, av6177, bv6177, cv6177⟩ := hq
    show WP _ _ _ _ (.int _ :: _) _ _ _ _
    rw [ea, eb, ec]
    clear ea eb ec Ia Ja Ra
    refine WQ_icmp_le 29 dX3_faultOfNumber_24 rfl (fun c6177 => ?_) (fun c6177 => ?_)
    · refine WP_aload_n dX3_faultOfNumber_29 rfl ?_
      refine WP_getr dX3_faultOfNumber_30 fX3_9 rfl (lyx_is hy 3 3 rfl) (rfx hr 3 3 4 (by decide)) ?_
      refine WP_iload_n dX3_faultOfNumber_33 rfl ?_
      refine WP_iload dX3_faultOfNumber_34 rfl ?_
      refine WQ_iast dX3_faultOfNumber_36 (lyx_is hy 4 13 rfl) (lyx_n hy 4 5 rfl) (by omega) (by omega) (fun I6179 fI6179 => ?_)
      have eI6179 := fI6179
      rw [cl (x := ix) (n := 0) (by omega)] at eI6179
      clear fI6179
      have hI6179 : XI g n L I6179 := by rw [eI6179]; exact (xi_f hy hI (c := 4) (0) (0) (1000) (by decide) (Or.inl (by decide)) (by decide) (by omega) (by omega))
      have e6180 : I6179 (ad g 1) 1 = L := by rw [eI6179, pp_ne _ _ (Or.inl (lyx_ne hy (by decide) (by decide) (by decide)))]; exact e6168
      have e6181 : I6179 (ad g 27) 1 = w6170 := by rw [eI6179, pp_ne _ _ (Or.inl (lyx_ne hy (by decide) (by decide) (by decide)))]; exact ew6170
      have e6182 : I6179 (ad g 27) 2 = w6171 := by rw [eI6179, pp_ne _ _ (Or.inl (lyx_ne hy (by decide) (by decide) (by decide)))]; exact ew6171
      have e6183 : I6179 (ad g 1) 4 = v6172 := by rw [eI6179, pp_ne _ _ (Or.inl (lyx_ne hy (by decide) (by decide) (by decide)))]; exact ev6172
      have e6184 : I6179 (ad g 4) 0 = v6172 := by rw [eI6179, pp_self]
      clear eI6179
      refine WP_iload_n dX3_faultOfNumber_37 rfl ?_
      refine WQ_bipush (68) (68) dX3_faultOfNumber_38 rfl rfl (fun v6185 hv6185 => ?_)
      refine WQ_icmp_eq 45 dX3_faultOfNumber_40 rfl (fun c6185 => ?_) (fun c6185 => False.elim (by omega))
      refine WP_aload dX3_faultOfNumber_45 rfl ?_
      refine WP_iload_n dX3_faultOfNumber_47 rfl ?_
      refine WP_iload_n dX3_faultOfNumber_48 rfl ?_
      refine WQ_if_ne 56 dX3_faultOfNumber_49 rfl (fun c6186 => False.elim (by omega)) (fun c6186 => ?_)
      refine WQ_iconst (0) (0) dX3_faultOfNumber_52 rfl rfl (fun v6188 hv6188 => ?_)
      refine WP_goto 62 dX3_faultOfNumber_53 rfl ?_
      refine WP_iload dX3_faultOfNumber_62 rfl ?_
      refine WP_callV3 (k := 7) dX3_faultOfNumber_64 ⟨⟨⟨by decide, by decide⟩, zX7_isTold⟩, lX3_114, by decide, rfl, vX7_isTold.1, vX7_isTold.2⟩ (lyx_is hy 27 7 rfl) (sx_isTold_27 hy hr hI6179 cz v6188 v6172 (by omega) (by omega) (by omega) (by omega) ) (Nat.le_of_ble_eq_true rfl) ?_
      intro r Ia Ja Ra hq
      obtain ⟨⟨ea, eb, ec⟩, v6189, rfl, av6189, bv6189⟩ := hq
      show WP _ _ _ _ (.int _ :: _) _ _ _ _
      rw [ea, eb, ec]
      clear ea eb ec Ia Ja Ra
      refine WQ_if_eq 74 dX3_faultOfNumber_67 rfl (fun c6189 => ?_) (fun c6189 => ?_)
      · refine WQ_iconst (0) (0) dX3_faultOfNumber_74 rfl rfl (fun v6191 hv6191 => ?_)
        exact WP_iret dX3_faultOfNumber_75 rfl ⟨⟨hI6179, rfl, ⟨trivial, (by rw [e6181, ew6170] <;> exact (eq32 _ _).mpr (by omega)), (by rw [e6182, ew6171] <;> exact (eq32 _ _).mpr (by omega))⟩⟩, _, rfl, by omega, by omega, by (try rw [e6184]); omega⟩
      · refine WQ_iconst (3) (3) dX3_faultOfNumber_70 rfl rfl (fun v6192 hv6192 => ?_)
        refine WP_goto 75 dX3_faultOfNumber_71 rfl ?_
        exact WP_iret dX3_faultOfNumber_75 rfl ⟨⟨hI6179, rfl, ⟨trivial, (by rw [e6181, ew6170] <;> exact (eq32 _ _).mpr (by omega)), (by rw [e6182, ew6171] <;> exact (eq32 _ _).mpr (by omega))⟩⟩, _, rfl, by omega, by omega, by (try rw [e6184]); omega⟩
    · refine WQ_iconst (2) (2) dX3_faultOfNumber_27 rfl rfl (fun v6193 hv6193 => ?_)
      obtain ⟨w6194, ew6194⟩ : ∃ w : Int32, I (ad g 4) 0 = w := ⟨_, rfl⟩
      have bw6194 := BT_get hI.1 4 0 5 (0) (0) (1000) (by decide) 0 (by decide) (by decide)
      rw [ew6194] at bw6194
      exact WP_iret dX3_faultOfNumber_28 rfl ⟨⟨hI, rfl, ⟨trivial, rfl, rfl⟩⟩, _, rfl, by omega, by omega, by (try rw [ew6194]); omega⟩
set_option maxHeartbeats 4000000 in
set_option maxRecDepth 100000 in
theorem sx_part_27_0_1 {g : GG} {n : Int} {L : Int32} (hy : LyX g)  {I : pI} {J : pJ} {R : pR} (hr : RfX g R) (hI : XI g n L I) (pa : Int32) (cz : Int32) (ix : Int32) (pa_lo : 76 ≤ pa.toInt) (pa_hi : pa.toInt ≤ 76) (cz_lo : 0 ≤ cz.toInt) (cz_hi : cz.toInt ≤ 0) (ix_lo : 1 ≤ ix.toInt) (ix_hi : ix.toInt ≤ 1) : SP g mX3_faultOfNumber [.ref (ad g 3), .int pa, .int cz, .int ix, .ref (ad g 27)] I J R (fun r I' J' R' => (XI g n L I' ∧ R' = R ∧ True ∧ I' (ad g 4) 0 = I (ad g 4) 0 ∧ I' (ad g 27) 1 = I (ad g 27) 1 ∧ I' (ad g 27) 2 = I (ad g 27) 2) ∧ ∃ v : Int32, r = some (.int v) ∧ 0 ≤ v.toInt ∧ v.toInt ≤ 5 ∧ (v.toInt = 0 → (I' (ad g 4) 1).toInt ≤ 900)) := by
  refine SP_of ⟨by decide, rfl⟩ (Nat.le_of_ble_eq_true rfl) ?_
  have e6195 : I (ad g 1) 1 = L := hI.2
  have b6196 := BT_get hI.1 1 1 2 (0) (0) (900) (by decide) 1 (by decide) (by decide)
  rw [e6195] at b6196
  obtain ⟨w6197, ew6197⟩ : ∃ w : Int32, I (ad g 4) 0 = w := ⟨_, rfl⟩
  have bw6197 := BT_get hI.1 4 0 5 (0) (0) (1000) (by decide) 0 (by decide) (by decide)
  rw [ew6197] at bw6197
  obtain ⟨w6198, ew6198⟩ : ∃ w : Int32, I (ad g 27) 1 = w := ⟨_, rfl⟩
  have bw6198 := BT_get hI.1 27 1 2 (0) (0) (4) (by decide) 1 (by decide) (by decide)
  rw [ew6198] at bw6198
  obtain ⟨w6199, ew6199⟩ : ∃ w : Int32, I (ad g 27) 2 = w := ⟨_, rfl⟩
  have bw6199 := BT_get hI.1 27 2 3 (0) (0) (3) (by decide) 2 (by decide) (by decide)
  rw [ew6199] at bw6199
  refine WP_aload_n dX3_faultOfNumber_0 rfl ?_
  refine WP_getr dX3_faultOfNumber_1 fX3_15 rfl (lyx_is hy 3 3 rfl) (rfx hr 3 2 1 (by decide)) ?_
  refine WQ_getiu dX3_faultOfNumber_4 fX3_118 rfl (lyx_is hy 1 5 rfl) (fun v6200 ev6200 => ?_)
  refine WP_istore (ls' := [(0, _), (1, _), (2, _), (3, _), (4, _), (5, _)]) dX3_faultOfNumber_7 (by decide) rfl ?_
  refine WP_iload dX3_faultOfNumber_9 rfl ?_
  refine WP_iload_n dX3_faultOfNumber_11 rfl ?_
  refine WP_callS1 dX3_faultOfNumber_12 ⟨⟨⟨by decide, by decide⟩, zX3_leastOf⟩, lX3_121, tX3_leastOf⟩ (sx_leastOf hy hr hI pa ) (Nat.le_of_ble_eq_true rfl) ?_
  intro r Ia Ja Ra hq
  obtain ⟨⟨ea, eb, ec⟩, v6201, rfl, av6201, bv6201⟩ := hq
  show WP _ _ _ _ (.int _ :: _) _ _ _ _
  rw [ea, eb, ec]
  clear ea eb ec Ia Ja Ra
  refine WQ_icmp_lt 27 dX3_faultOfNumber_15 rfl (fun c6201 => ?_) (fun c6201 => ?_)
  · refine WQ_iconst (2) (2) dX3_faultOfNumber_27 rfl rfl (fun v6203 hv6203 => ?_)
    obtain ⟨w6204, ew6204⟩ : ∃ w : Int32, I (ad g 4) 1 = w := ⟨_, rfl⟩
    have bw6204 := BT_get hI.1 4 0 5 (0) (0) (1000) (by decide) 1 (by decide) (by decide)
    rw [ew6204] at bw6204
    exact WP_iret dX3_faultOfNumber_28 rfl ⟨⟨hI, rfl, ⟨trivial, rfl, rfl, rfl⟩⟩, _, rfl, by omega, by omega, by (try rw [ew6204]); omega⟩
  · refine WP_iload dX3_faultOfNumber_18 rfl ?_
    refine WP_iload_n dX3_faultOfNumber_20 rfl ?_
    refine WP_callS1 dX3_faultOfNumber_21 ⟨⟨⟨by decide, by decide⟩, zX3_mostOf⟩, lX3_125, tX3_mostOf⟩ (sx_mostOf hy hr hI pa ) (Nat.le_of_ble_eq_true rfl) ?_
    intro r Ia Ja Ra hq
    obtain ⟨⟨ea, eb, ec⟩, v6205, rfl, av6205, bv6205, cv6205⟩ := hq
    show WP _ _ _ _ (.int _ :: _) _ _ _ _
    rw [ea, eb, ec]
    clear ea eb ec Ia Ja Ra
    refine WQ_icmp_le 29 dX3_faultOfNumber_24 rfl (fun c6205 => ?_) (fun c6205 => ?_)
    · refine WP_aload_n dX3_faultOfNumber_29 rfl ?_
      refine WP_getr dX3_faultOfNumber_30 fX3_9 rfl (lyx_is hy 3 3 rfl) (rfx hr 3 3 4 (by decide)) ?_
      refine WP_iload_n dX3_faultOfNumber_33 rfl ?_
      refine WP_iload dX3_faultOfNumber_34 rfl ?_
      refine WQ_iast dX3_faultOfNumber_36 (lyx_is hy 4 13 rfl) (lyx_n hy 4 5 rfl) (by omega) (by omega) (fun I6207 fI6207 => ?_)
      have eI6207 := fI6207
      rw [cl (x := ix) (n := 1) (by omega)] at eI6207
      clear fI6207
      have hI6207 : XI g n L I6207 := by rw [eI6207]; exact (xi_f hy hI (c := 4) (0) (0) (1000) (by decide) (Or.inl (by decide)) (by decide) (by omega) (by omega))
      have e6208 : I6207 (ad g 1) 1 = L := by rw [eI6207, pp_ne _ _ (Or.inl (lyx_ne hy (by decide) (by decide) (by decide)))]; exact e6195
      have e6209 : I6207 (ad g 4) 0 = w6197 := by rw [eI6207, pp_ne _ _ (Or.inr (by decide))]; exact ew6197
      have e6210 : I6207 (ad g 27) 1 = w6198 := by rw [eI6207, pp_ne _ _ (Or.inl (lyx_ne hy (by decide) (by decide) (by decide)))]; exact ew6198
      have e6211 : I6207 (ad g 27) 2 = w6199 := by rw [eI6207, pp_ne _ _ (Or.inl (lyx_ne hy (by decide) (by decide) (by decide)))]; exact ew6199
      have e6212 : I6207 (ad g 1) 4 = v6200 := by rw [eI6207, pp_ne _ _ (Or.inl (lyx_ne hy (by decide) (by decide) (by decide)))]; exact ev6200
      have e6213 : I6207 (ad g 4) 1 = v6200 := by rw [eI6207, pp_self]
      clear eI6207
      refine WP_iload_n dX3_faultOfNumber_37 rfl ?_
      refine WQ_bipush (68) (68) dX3_faultOfNumber_38 rfl rfl (fun v6214 hv6214 => ?_)
      refine WQ_icmp_eq 45 dX3_faultOfNumber_40 rfl (fun c6214 => False.elim (by omega)) (fun c6214 => ?_)
      refine WQ_iconst (0) (0) dX3_faultOfNumber_43 rfl rfl (fun v6216 hv6216 => ?_)
      exact WP_iret dX3_faultOfNumber_44 rfl ⟨⟨hI6207, rfl, ⟨trivial, (by rw [e6209, ew6197] <;> exact (eq32 _ _).mpr (by omega)), (by rw [e6210, ew6198] <;> exact (eq32 _ _).mpr (by omega)), (by rw [e6211, ew6199] <;> exact (eq32 _ _).mpr (by omega))⟩⟩, _, rfl, by omega, by omega, by (try rw [e6213]); omega⟩
    · refine WQ_iconst (2) (2) dX3_faultOfNumber_27 rfl rfl (fun v6217 hv6217 => ?_)
      obtain ⟨w6218, ew6218⟩ : ∃ w : Int32, I (ad g 4) 1 = w := ⟨_, rfl⟩
      have bw6218 := BT_get hI.1 4 0 5 (0) (0) (1000) (by decide) 1 (by decide) (by decide)
      rw [ew6218] at bw6218
      exact WP_iret dX3_faultOfNumber_28 rfl ⟨⟨hI, rfl, ⟨trivial, rfl, rfl, rfl⟩⟩, _, rfl, by omega, by omega, by (try rw [ew6218]); omega⟩
set_option maxHeartbeats 4000000 in
set_option maxRecDepth 100000 in
theorem sx_part_27_1_0 {g : GG} {n : Int} {L : Int32} (hy : LyX g)  {I : pI} {J : pJ} {R : pR} (hr : RfX g R) (hI : XI g n L I) (pa : Int32) (cz : Int32) (ix : Int32) (pa_lo : 110 ≤ pa.toInt) (pa_hi : pa.toInt ≤ 110) (cz_lo : 1 ≤ cz.toInt) (cz_hi : cz.toInt ≤ 1) (ix_lo : 0 ≤ ix.toInt) (ix_hi : ix.toInt ≤ 0) (hb : (I (ad g 27) 1).toInt ≤ 3) : SP g mX3_faultOfName [.ref (ad g 3), .int pa, .int cz, .int ix, .ref (ad g 27)] I J R (fun r I' J' R' => (XI g n L I' ∧ R' = R ∧ True ∧ I' (ad g 27) 1 = I (ad g 27) 1 ∧ I' (ad g 27) 2 = I (ad g 27) 2) ∧ ∃ v : Int32, r = some (.int v) ∧ 0 ≤ v.toInt ∧ v.toInt ≤ 5) := by
  refine SP_of ⟨by decide, rfl⟩ (Nat.le_of_ble_eq_true rfl) ?_
  have e6219 : I (ad g 1) 1 = L := hI.2
  have b6220 := BT_get hI.1 1 1 2 (0) (0) (900) (by decide) 1 (by decide) (by decide)
  rw [e6219] at b6220
  obtain ⟨w6221, ew6221⟩ : ∃ w : Int32, I (ad g 27) 1 = w := ⟨_, rfl⟩
  have bw6221 := BT_get hI.1 27 1 2 (0) (0) (4) (by decide) 1 (by decide) (by decide)
  rw [ew6221] at bw6221
  obtain ⟨w6222, ew6222⟩ : ∃ w : Int32, I (ad g 27) 2 = w := ⟨_, rfl⟩
  have bw6222 := BT_get hI.1 27 2 3 (0) (0) (3) (by decide) 2 (by decide) (by decide)
  rw [ew6222] at bw6222
  rw [ew6221] at hb
  refine WP_iload_n dX3_faultOfName_0 rfl ?_
  refine WQ_bipush (115) (115) dX3_faultOfName_1 rfl rfl (fun v6223 hv6223 => ?_)
  have jn17_6227 : ∀ (v6227 : Int32), 1 ≤ v6227.toInt → v6227.toInt ≤ 1 → WP g mX3_faultOfName 17 [(0, .ref (ad g 3)), (1, .int pa), (2, .int cz), (3, .int ix), (4, .ref (ad g 27))] [.int v6227] I J R (fun r I' J' R' => (XI g n L I' ∧ R' = R ∧ True ∧ I' (ad g 27) 1 = I (ad g 27) 1 ∧ I' (ad g 27) 2 = I (ad g 27) 2) ∧ ∃ v : Int32, r = some (.int v) ∧ 0 ≤ v.toInt ∧ v.toInt ≤ 5) := by
    intro v6227 av6227 bv6227
    refine WP_istore (ls' := [(0, _), (1, _), (2, _), (3, _), (4, _), (5, _)]) dX3_faultOfName_17 (by decide) rfl ?_
    refine WP_iload dX3_faultOfName_19 rfl ?_
    have jn51_6231 : ∀ (v6231 : Int32), -1 ≤ v6231.toInt → v6231.toInt ≤ 3 → WP g mX3_faultOfName 51 [(0, .ref (ad g 3)), (1, .int pa), (2, .int cz), (3, .int ix), (4, .ref (ad g 27)), (5, .int v6227)] [.int v6231] I J R (fun r I' J' R' => (XI g n L I' ∧ R' = R ∧ True ∧ I' (ad g 27) 1 = I (ad g 27) 1 ∧ I' (ad g 27) 2 = I (ad g 27) 2) ∧ ∃ v : Int32, r = some (.int v) ∧ 0 ≤ v.toInt ∧ v.toInt ≤ 5) := by
      intro v6231 av6231 bv6231
      refine WP_istore (ls' := [(0, _), (1, _), (2, _), (3, _), (4, _), (5, _), (6, _)]) dX3_faultOfName_51 (by decide) rfl ?_
      refine WP_iload_n dX3_faultOfName_53 rfl ?_
      refine WQ_bipush (110) (110) dX3_faultOfName_54 rfl rfl (fun v6233 hv6233 => ?_)
      refine WQ_icmp_eq 65 dX3_faultOfName_56 rfl (fun c6233 => ?_) (fun c6233 => False.elim (by omega))
      refine WP_iload dX3_faultOfName_65 rfl ?_
      refine WQ_iconst (-1) (-1) dX3_faultOfName_67 rfl rfl (fun v6235 hv6235 => ?_)
      refine WQ_icmp_eq 73 dX3_faultOfName_68 rfl (fun c6235 => ?_) (fun c6235 => ?_)
      · refine WP_aload dX3_faultOfName_73 rfl ?_
        refine WP_iload_n dX3_faultOfName_75 rfl ?_
        refine WQ_bipush (110) (110) dX3_faultOfName_76 rfl rfl (fun v6237 hv6237 => ?_)
        have jn86_6239 : ∀ (v6239 : Int32), 1 ≤ v6239.toInt → v6239.toInt ≤ 1 → WP g mX3_faultOfName 86 [(0, .ref (ad g 3)), (1, .int pa), (2, .int cz), (3, .int ix), (4, .ref (ad g 27)), (5, .int v6227), (6, .int v6231)] [.int v6239, .ref (ad g 27)] I J R (fun r I' J' R' => (XI g n L I' ∧ R' = R ∧ True ∧ I' (ad g 27) 1 = I (ad g 27) 1 ∧ I' (ad g 27) 2 = I (ad g 27) 2) ∧ ∃ v : Int32, r = some (.int v) ∧ 0 ≤ v.toInt ∧ v.toInt ≤ 5) := by
          intro v6239 av6239 bv6239
          refine WP_aload_n dX3_faultOfName_86 rfl ?_
          refine WP_getr dX3_faultOfName_87 fX3_15 rfl (lyx_is hy 3 3 rfl) (rfx hr 3 2 1 (by decide)) ?_
          refine WQ_getl dX3_faultOfName_90 fX3_80 rfl (lyx_is hy 1 5 rfl) (fun l6241 el6241 => ?_)
          refine WP_callV2 (k := 7) dX3_faultOfName_93 ⟨⟨⟨by decide, by decide⟩, zX7_name⟩, lX3_110, by decide, rfl, vX7_name.1, vX7_name.2⟩ (lyx_is hy 27 7 rfl) (sx_name_27_1 hy hr hI v6239 l6241 (by omega) (by omega) (by rw [ew6221]; omega)) (Nat.le_of_ble_eq_true rfl) ?_
          intro r Ia J6242 Ra hq
          obtain ⟨⟨ea, ec⟩, rfl⟩ := hq
          rw [ea, ec]
          clear ea ec Ia Ra
          refine WQ_iconst (0) (0) dX3_faultOfName_96 rfl rfl (fun v6243 hv6243 => ?_)
          exact WP_iret dX3_faultOfName_97 rfl ⟨⟨hI, rfl, ⟨trivial, rfl, rfl⟩⟩, _, rfl, by omega, by omega⟩
        refine WQ_icmp_ne 85 dX3_faultOfName_78 rfl (fun c6243 => False.elim (by omega)) (fun c6243 => ?_)
        refine WQ_iconst (1) (1) dX3_faultOfName_81 rfl rfl (fun v6245 hv6245 => ?_)
        refine WP_goto 86 dX3_faultOfName_82 rfl ?_
        exact WP_sub (fc rfl (fc rfl (fc rfl (fc rfl (fc rfl (fc rfl (fc rfl fn))))))) (jn86_6239 v6245 (by omega) (by omega))
      · refine WQ_iconst (3) (3) dX3_faultOfName_71 rfl rfl (fun v6246 hv6246 => ?_)
        exact WP_iret dX3_faultOfName_72 rfl ⟨⟨hI, rfl, ⟨trivial, rfl, rfl⟩⟩, _, rfl, by omega, by omega⟩
    refine WQ_if_eq 39 dX3_faultOfName_21 rfl (fun c6246 => False.elim (by omega)) (fun c6246 => ?_)
    refine WP_aload dX3_faultOfName_24 rfl ?_
    refine WP_aload_n dX3_faultOfName_26 rfl ?_
    refine WP_getr dX3_faultOfName_27 fX3_15 rfl (lyx_is hy 3 3 rfl) (rfx hr 3 2 1 (by decide)) ?_
    refine WQ_getl dX3_faultOfName_30 fX3_80 rfl (lyx_is hy 1 5 rfl) (fun l6248 el6248 => ?_)
    refine WP_callV1 (k := 7) dX3_faultOfName_33 ⟨⟨⟨by decide, by decide⟩, zX7_sortNamed⟩, lX3_103, by decide, rfl, vX7_sortNamed.1, vX7_sortNamed.2⟩ (lyx_is hy 27 7 rfl) (sx_sortNamed_27 hy hr hI l6248 ) (Nat.le_of_ble_eq_true rfl) ?_
    intro r Ia Ja Ra hq
    obtain ⟨⟨ea, eb, ec⟩, v6249, rfl, av6249, bv6249⟩ := hq
    show WP _ _ _ _ (.int _ :: _) _ _ _ _
    rw [ea, eb, ec]
    clear ea eb ec Ia Ja Ra
    refine WP_goto 51 dX3_faultOfName_36 rfl ?_
    exact WP_sub (fc rfl (fc rfl (fc rfl (fc rfl (fc rfl (fc rfl fn)))))) (jn51_6231 v6249 (by omega) (by omega))
  refine WQ_icmp_eq 12 dX3_faultOfName_3 rfl (fun c6249 => False.elim (by omega)) (fun c6249 => ?_)
  refine WP_iload_n dX3_faultOfName_6 rfl ?_
  refine WQ_bipush (110) (110) dX3_faultOfName_7 rfl rfl (fun v6251 hv6251 => ?_)
  refine WQ_icmp_ne 16 dX3_faultOfName_9 rfl (fun c6251 => False.elim (by omega)) (fun c6251 => ?_)
  refine WQ_iconst (1) (1) dX3_faultOfName_12 rfl rfl (fun v6253 hv6253 => ?_)
  refine WP_goto 17 dX3_faultOfName_13 rfl ?_
  exact WP_sub (fc rfl (fc rfl (fc rfl (fc rfl (fc rfl fn))))) (jn17_6227 v6253 (by omega) (by omega))
set_option maxHeartbeats 4000000 in
set_option maxRecDepth 100000 in
theorem sx_part_27_1_1 {g : GG} {n : Int} {L : Int32} (hy : LyX g)  {I : pI} {J : pJ} {R : pR} (hr : RfX g R) (hI : XI g n L I) (pa : Int32) (cz : Int32) (ix : Int32) (pa_lo : 80 ≤ pa.toInt) (pa_hi : pa.toInt ≤ 80) (cz_lo : 1 ≤ cz.toInt) (cz_hi : cz.toInt ≤ 1) (ix_lo : 1 ≤ ix.toInt) (ix_hi : ix.toInt ≤ 1) : SP g mX3_faultOfNumber [.ref (ad g 3), .int pa, .int cz, .int ix, .ref (ad g 27)] I J R (fun r I' J' R' => (XI g n L I' ∧ R' = R ∧ True ∧ I' (ad g 4) 0 = I (ad g 4) 0 ∧ I' (ad g 27) 1 = I (ad g 27) 1 ∧ I' (ad g 27) 2 = I (ad g 27) 2) ∧ ∃ v : Int32, r = some (.int v) ∧ 0 ≤ v.toInt ∧ v.toInt ≤ 5 ∧ (v.toInt = 0 → (I' (ad g 4) 1).toInt ≤ 99)) := by
  refine SP_of ⟨by decide, rfl⟩ (Nat.le_of_ble_eq_true rfl) ?_
  have e6254 : I (ad g 1) 1 = L := hI.2
  have b6255 := BT_get hI.1 1 1 2 (0) (0) (900) (by decide) 1 (by decide) (by decide)
  rw [e6254] at b6255
  obtain ⟨w6256, ew6256⟩ : ∃ w : Int32, I (ad g 4) 0 = w := ⟨_, rfl⟩
  have bw6256 := BT_get hI.1 4 0 5 (0) (0) (1000) (by decide) 0 (by decide) (by decide)
  rw [ew6256] at bw6256
  obtain ⟨w6257, ew6257⟩ : ∃ w : Int32, I (ad g 27) 1 = w := ⟨_, rfl⟩
  have bw6257 := BT_get hI.1 27 1 2 (0) (0) (4) (by decide) 1 (by decide) (by decide)
  rw [ew6257] at bw6257
  obtain ⟨w6258, ew6258⟩ : ∃ w : Int32, I (ad g 27) 2 = w := ⟨_, rfl⟩
  have bw6258 := BT_get hI.1 27 2 3 (0) (0) (3) (by decide) 2 (by decide) (by decide)
  rw [ew6258] at bw6258
  refine WP_aload_n dX3_faultOfNumber_0 rfl ?_
  refine WP_getr dX3_faultOfNumber_1 fX3_15 rfl (lyx_is hy 3 3 rfl) (rfx hr 3 2 1 (by decide)) ?_
  refine WQ_getiu dX3_faultOfNumber_4 fX3_118 rfl (lyx_is hy 1 5 rfl) (fun v6259 ev6259 => ?_)
  refine WP_istore (ls' := [(0, _), (1, _), (2, _), (3, _), (4, _), (5, _)]) dX3_faultOfNumber_7 (by decide) rfl ?_
  refine WP_iload dX3_faultOfNumber_9 rfl ?_
  refine WP_iload_n dX3_faultOfNumber_11 rfl ?_
  refine WP_callS1 dX3_faultOfNumber_12 ⟨⟨⟨by decide, by decide⟩, zX3_leastOf⟩, lX3_121, tX3_leastOf⟩ (sx_leastOf hy hr hI pa ) (Nat.le_of_ble_eq_true rfl) ?_
  intro r Ia Ja Ra hq
  obtain ⟨⟨ea, eb, ec⟩, v6260, rfl, av6260, bv6260⟩ := hq
  show WP _ _ _ _ (.int _ :: _) _ _ _ _
  rw [ea, eb, ec]
  clear ea eb ec Ia Ja Ra
  refine WQ_icmp_lt 27 dX3_faultOfNumber_15 rfl (fun c6260 => ?_) (fun c6260 => ?_)
  · refine WQ_iconst (2) (2) dX3_faultOfNumber_27 rfl rfl (fun v6262 hv6262 => ?_)
    obtain ⟨w6263, ew6263⟩ : ∃ w : Int32, I (ad g 4) 1 = w := ⟨_, rfl⟩
    have bw6263 := BT_get hI.1 4 0 5 (0) (0) (1000) (by decide) 1 (by decide) (by decide)
    rw [ew6263] at bw6263
    exact WP_iret dX3_faultOfNumber_28 rfl ⟨⟨hI, rfl, ⟨trivial, rfl, rfl, rfl⟩⟩, _, rfl, by omega, by omega, by (try rw [ew6263]); omega⟩
  · refine WP_iload dX3_faultOfNumber_18 rfl ?_
    refine WP_iload_n dX3_faultOfNumber_20 rfl ?_
    refine WP_callS1 dX3_faultOfNumber_21 ⟨⟨⟨by decide, by decide⟩, zX3_mostOf⟩, lX3_125, tX3_mostOf⟩ (sx_mostOf hy hr hI pa ) (Nat.le_of_ble_eq_true rfl) ?_
    intro r Ia Ja Ra hq
    obtain ⟨⟨ea, eb, ec⟩, v6264, rfl, av6264, bv6264, cv6264⟩ := hq
    show WP _ _ _ _ (.int _ :: _) _ _ _ _
    rw [ea, eb, ec]
    clear ea eb ec Ia Ja Ra
    refine WQ_icmp_le 29 dX3_faultOfNumber_24 rfl (fun c6264 => ?_) (fun c6264 => ?_)
    · refine WP_aload_n dX3_faultOfNumber_29 rfl ?_
      refine WP_getr dX3_faultOfNumber_30 fX3_9 rfl (lyx_is hy 3 3 rfl) (rfx hr 3 3 4 (by decide)) ?_
      refine WP_iload_n dX3_faultOfNumber_33 rfl ?_
      refine WP_iload dX3_faultOfNumber_34 rfl ?_
      refine WQ_iast dX3_faultOfNumber_36 (lyx_is hy 4 13 rfl) (lyx_n hy 4 5 rfl) (by omega) (by omega) (fun I6266 fI6266 => ?_)
      have eI6266 := fI6266
      rw [cl (x := ix) (n := 1) (by omega)] at eI6266
      clear fI6266
      have hI6266 : XI g n L I6266 := by rw [eI6266]; exact (xi_f hy hI (c := 4) (0) (0) (1000) (by decide) (Or.inl (by decide)) (by decide) (by omega) (by omega))
      have e6267 : I6266 (ad g 1) 1 = L := by rw [eI6266, pp_ne _ _ (Or.inl (lyx_ne hy (by decide) (by decide) (by decide)))]; exact e6254
      have e6268 : I6266 (ad g 4) 0 = w6256 := by rw [eI6266, pp_ne _ _ (Or.inr (by decide))]; exact ew6256
      have e6269 : I6266 (ad g 27) 1 = w6257 := by rw [eI6266, pp_ne _ _ (Or.inl (lyx_ne hy (by decide) (by decide) (by decide)))]; exact ew6257
      have e6270 : I6266 (ad g 27) 2 = w6258 := by rw [eI6266, pp_ne _ _ (Or.inl (lyx_ne hy (by decide) (by decide) (by decide)))]; exact ew6258
      have e6271 : I6266 (ad g 1) 4 = v6259 := by rw [eI6266, pp_ne _ _ (Or.inl (lyx_ne hy (by decide) (by decide) (by decide)))]; exact ev6259
      have e6272 : I6266 (ad g 4) 1 = v6259 := by rw [eI6266, pp_self]
      clear eI6266
      refine WP_iload_n dX3_faultOfNumber_37 rfl ?_
      refine WQ_bipush (68) (68) dX3_faultOfNumber_38 rfl rfl (fun v6273 hv6273 => ?_)
      refine WQ_icmp_eq 45 dX3_faultOfNumber_40 rfl (fun c6273 => False.elim (by omega)) (fun c6273 => ?_)
      refine WQ_iconst (0) (0) dX3_faultOfNumber_43 rfl rfl (fun v6275 hv6275 => ?_)
      exact WP_iret dX3_faultOfNumber_44 rfl ⟨⟨hI6266, rfl, ⟨trivial, (by rw [e6268, ew6256] <;> exact (eq32 _ _).mpr (by omega)), (by rw [e6269, ew6257] <;> exact (eq32 _ _).mpr (by omega)), (by rw [e6270, ew6258] <;> exact (eq32 _ _).mpr (by omega))⟩⟩, _, rfl, by omega, by omega, by (try rw [e6272]); omega⟩
    · refine WQ_iconst (2) (2) dX3_faultOfNumber_27 rfl rfl (fun v6276 hv6276 => ?_)
      obtain ⟨w6277, ew6277⟩ : ∃ w : Int32, I (ad g 4) 1 = w := ⟨_, rfl⟩
      have bw6277 := BT_get hI.1 4 0 5 (0) (0) (1000) (by decide) 1 (by decide) (by decide)
      rw [ew6277] at bw6277
      exact WP_iret dX3_faultOfNumber_28 rfl ⟨⟨hI, rfl, ⟨trivial, rfl, rfl, rfl⟩⟩, _, rfl, by omega, by omega, by (try rw [ew6277]); omega⟩
set_option maxHeartbeats 4000000 in
set_option maxRecDepth 100000 in
theorem sx_part_27_1_2 {g : GG} {n : Int} {L : Int32} (hy : LyX g)  {I : pI} {J : pJ} {R : pR} (hr : RfX g R) (hI : XI g n L I) (pa : Int32) (cz : Int32) (ix : Int32) (pa_lo : 72 ≤ pa.toInt) (pa_hi : pa.toInt ≤ 72) (cz_lo : 1 ≤ cz.toInt) (cz_hi : cz.toInt ≤ 1) (ix_lo : 2 ≤ ix.toInt) (ix_hi : ix.toInt ≤ 2) : SP g mX3_faultOfNumber [.ref (ad g 3), .int pa, .int cz, .int ix, .ref (ad g 27)] I J R (fun r I' J' R' => (XI g n L I' ∧ R' = R ∧ True ∧ I' (ad g 4) 0 = I (ad g 4) 0 ∧ I' (ad g 4) 1 = I (ad g 4) 1 ∧ I' (ad g 27) 1 = I (ad g 27) 1 ∧ I' (ad g 27) 2 = I (ad g 27) 2) ∧ ∃ v : Int32, r = some (.int v) ∧ 0 ≤ v.toInt ∧ v.toInt ≤ 5 ∧ (v.toInt = 0 → (I' (ad g 4) 2).toInt ≤ 1000)) := by
  refine SP_of ⟨by decide, rfl⟩ (Nat.le_of_ble_eq_true rfl) ?_
  have e6278 : I (ad g 1) 1 = L := hI.2
  have b6279 := BT_get hI.1 1 1 2 (0) (0) (900) (by decide) 1 (by decide) (by decide)
  rw [e6278] at b6279
  obtain ⟨w6280, ew6280⟩ : ∃ w : Int32, I (ad g 4) 0 = w := ⟨_, rfl⟩
  have bw6280 := BT_get hI.1 4 0 5 (0) (0) (1000) (by decide) 0 (by decide) (by decide)
  rw [ew6280] at bw6280
  obtain ⟨w6281, ew6281⟩ : ∃ w : Int32, I (ad g 4) 1 = w := ⟨_, rfl⟩
  have bw6281 := BT_get hI.1 4 0 5 (0) (0) (1000) (by decide) 1 (by decide) (by decide)
  rw [ew6281] at bw6281
  obtain ⟨w6282, ew6282⟩ : ∃ w : Int32, I (ad g 27) 1 = w := ⟨_, rfl⟩
  have bw6282 := BT_get hI.1 27 1 2 (0) (0) (4) (by decide) 1 (by decide) (by decide)
  rw [ew6282] at bw6282
  obtain ⟨w6283, ew6283⟩ : ∃ w : Int32, I (ad g 27) 2 = w := ⟨_, rfl⟩
  have bw6283 := BT_get hI.1 27 2 3 (0) (0) (3) (by decide) 2 (by decide) (by decide)
  rw [ew6283] at bw6283
  refine WP_aload_n dX3_faultOfNumber_0 rfl ?_
  refine WP_getr dX3_faultOfNumber_1 fX3_15 rfl (lyx_is hy 3 3 rfl) (rfx hr 3 2 1 (by decide)) ?_
  refine WQ_getiu dX3_faultOfNumber_4 fX3_118 rfl (lyx_is hy 1 5 rfl) (fun v6284 ev6284 => ?_)
  refine WP_istore (ls' := [(0, _), (1, _), (2, _), (3, _), (4, _), (5, _)]) dX3_faultOfNumber_7 (by decide) rfl ?_
  refine WP_iload dX3_faultOfNumber_9 rfl ?_
  refine WP_iload_n dX3_faultOfNumber_11 rfl ?_
  refine WP_callS1 dX3_faultOfNumber_12 ⟨⟨⟨by decide, by decide⟩, zX3_leastOf⟩, lX3_121, tX3_leastOf⟩ (sx_leastOf hy hr hI pa ) (Nat.le_of_ble_eq_true rfl) ?_
  intro r Ia Ja Ra hq
  obtain ⟨⟨ea, eb, ec⟩, v6285, rfl, av6285, bv6285⟩ := hq
  show WP _ _ _ _ (.int _ :: _) _ _ _ _
  rw [ea, eb, ec]
  clear ea eb ec Ia Ja Ra
  refine WQ_icmp_lt 27 dX3_faultOfNumber_15 rfl (fun c6285 => ?_) (fun c6285 => ?_)
  · refine WQ_iconst (2) (2) dX3_faultOfNumber_27 rfl rfl (fun v6287 hv6287 => ?_)
    obtain ⟨w6288, ew6288⟩ : ∃ w : Int32, I (ad g 4) 2 = w := ⟨_, rfl⟩
    have bw6288 := BT_get hI.1 4 0 5 (0) (0) (1000) (by decide) 2 (by decide) (by decide)
    rw [ew6288] at bw6288
    exact WP_iret dX3_faultOfNumber_28 rfl ⟨⟨hI, rfl, ⟨trivial, rfl, rfl, rfl, rfl⟩⟩, _, rfl, by omega, by omega, by (try rw [ew6288]); omega⟩
  · refine WP_iload dX3_faultOfNumber_18 rfl ?_
    refine WP_iload_n dX3_faultOfNumber_20 rfl ?_
    refine WP_callS1 dX3_faultOfNumber_21 ⟨⟨⟨by decide, by decide⟩, zX3_mostOf⟩, lX3_125, tX3_mostOf⟩ (sx_mostOf hy hr hI pa ) (Nat.le_of_ble_eq_true rfl) ?_
    intro r Ia Ja Ra hq
    obtain ⟨⟨ea, eb, ec⟩, v6289, rfl, av6289, bv6289, cv6289⟩ := hq
    show WP _ _ _ _ (.int _ :: _) _ _ _ _
    rw [ea, eb, ec]
    clear ea eb ec Ia Ja Ra
    refine WQ_icmp_le 29 dX3_faultOfNumber_24 rfl (fun c6289 => ?_) (fun c6289 => ?_)
    · refine WP_aload_n dX3_faultOfNumber_29 rfl ?_
      refine WP_getr dX3_faultOfNumber_30 fX3_9 rfl (lyx_is hy 3 3 rfl) (rfx hr 3 3 4 (by decide)) ?_
      refine WP_iload_n dX3_faultOfNumber_33 rfl ?_
      refine WP_iload dX3_faultOfNumber_34 rfl ?_
      refine WQ_iast dX3_faultOfNumber_36 (lyx_is hy 4 13 rfl) (lyx_n hy 4 5 rfl) (by omega) (by omega) (fun I6291 fI6291 => ?_)
      have eI6291 := fI6291
      rw [cl (x := ix) (n := 2) (by omega)] at eI6291
      clear fI6291
      have hI6291 : XI g n L I6291 := by rw [eI6291]; exact (xi_f hy hI (c := 4) (0) (0) (1000) (by decide) (Or.inl (by decide)) (by decide) (by omega) (by omega))
      have e6292 : I6291 (ad g 1) 1 = L := by rw [eI6291, pp_ne _ _ (Or.inl (lyx_ne hy (by decide) (by decide) (by decide)))]; exact e6278
      have e6293 : I6291 (ad g 4) 0 = w6280 := by rw [eI6291, pp_ne _ _ (Or.inr (by decide))]; exact ew6280
      have e6294 : I6291 (ad g 4) 1 = w6281 := by rw [eI6291, pp_ne _ _ (Or.inr (by decide))]; exact ew6281
      have e6295 : I6291 (ad g 27) 1 = w6282 := by rw [eI6291, pp_ne _ _ (Or.inl (lyx_ne hy (by decide) (by decide) (by decide)))]; exact ew6282
      have e6296 : I6291 (ad g 27) 2 = w6283 := by rw [eI6291, pp_ne _ _ (Or.inl (lyx_ne hy (by decide) (by decide) (by decide)))]; exact ew6283
      have e6297 : I6291 (ad g 1) 4 = v6284 := by rw [eI6291, pp_ne _ _ (Or.inl (lyx_ne hy (by decide) (by decide) (by decide)))]; exact ev6284
      have e6298 : I6291 (ad g 4) 2 = v6284 := by rw [eI6291, pp_self]
      clear eI6291
      refine WP_iload_n dX3_faultOfNumber_37 rfl ?_
      refine WQ_bipush (68) (68) dX3_faultOfNumber_38 rfl rfl (fun v6299 hv6299 => ?_)
      refine WQ_icmp_eq 45 dX3_faultOfNumber_40 rfl (fun c6299 => False.elim (by omega)) (fun c6299 => ?_)
      refine WQ_iconst (0) (0) dX3_faultOfNumber_43 rfl rfl (fun v6301 hv6301 => ?_)
      exact WP_iret dX3_faultOfNumber_44 rfl ⟨⟨hI6291, rfl, ⟨trivial, (by rw [e6293, ew6280] <;> exact (eq32 _ _).mpr (by omega)), (by rw [e6294, ew6281] <;> exact (eq32 _ _).mpr (by omega)), (by rw [e6295, ew6282] <;> exact (eq32 _ _).mpr (by omega)), (by rw [e6296, ew6283] <;> exact (eq32 _ _).mpr (by omega))⟩⟩, _, rfl, by omega, by omega, by (try rw [e6298]); omega⟩
    · refine WQ_iconst (2) (2) dX3_faultOfNumber_27 rfl rfl (fun v6302 hv6302 => ?_)
      obtain ⟨w6303, ew6303⟩ : ∃ w : Int32, I (ad g 4) 2 = w := ⟨_, rfl⟩
      have bw6303 := BT_get hI.1 4 0 5 (0) (0) (1000) (by decide) 2 (by decide) (by decide)
      rw [ew6303] at bw6303
      exact WP_iret dX3_faultOfNumber_28 rfl ⟨⟨hI, rfl, ⟨trivial, rfl, rfl, rfl, rfl⟩⟩, _, rfl, by omega, by omega, by (try rw [ew6303]); omega⟩
set_option maxHeartbeats 4000000 in
set_option maxRecDepth 100000 in
theorem sx_part_27_1_3 {g : GG} {n : Int} {L : Int32} (hy : LyX g)  {I : pI} {J : pJ} {R : pR} (hr : RfX g R) (hI : XI g n L I) (pa : Int32) (cz : Int32) (ix : Int32) (pa_lo : 67 ≤ pa.toInt) (pa_hi : pa.toInt ≤ 67) (cz_lo : 1 ≤ cz.toInt) (cz_hi : cz.toInt ≤ 1) (ix_lo : 3 ≤ ix.toInt) (ix_hi : ix.toInt ≤ 3) : SP g mX3_faultOfNumber [.ref (ad g 3), .int pa, .int cz, .int ix, .ref (ad g 27)] I J R (fun r I' J' R' => (XI g n L I' ∧ R' = R ∧ True ∧ I' (ad g 4) 0 = I (ad g 4) 0 ∧ I' (ad g 4) 1 = I (ad g 4) 1 ∧ I' (ad g 4) 2 = I (ad g 4) 2 ∧ I' (ad g 27) 1 = I (ad g 27) 1 ∧ I' (ad g 27) 2 = I (ad g 27) 2) ∧ ∃ v : Int32, r = some (.int v) ∧ 0 ≤ v.toInt ∧ v.toInt ≤ 5 ∧ (v.toInt = 0 → (I' (ad g 4) 3).toInt ≤ 60)) := by
  refine SP_of ⟨by decide, rfl⟩ (Nat.le_of_ble_eq_true rfl) ?_
  have e6304 : I (ad g 1) 1 = L := hI.2
  have b6305 := BT_get hI.1 1 1 2 (0) (0) (900) (by decide) 1 (by decide) (by decide)
  rw [e6304] at b6305
  obtain ⟨w6306, ew6306⟩ : ∃ w : Int32, I (ad g 4) 0 = w := ⟨_, rfl⟩
  have bw6306 := BT_get hI.1 4 0 5 (0) (0) (1000) (by decide) 0 (by decide) (by decide)
  rw [ew6306] at bw6306
  obtain ⟨w6307, ew6307⟩ : ∃ w : Int32, I (ad g 4) 1 = w := ⟨_, rfl⟩
  have bw6307 := BT_get hI.1 4 0 5 (0) (0) (1000) (by decide) 1 (by decide) (by decide)
  rw [ew6307] at bw6307
  obtain ⟨w6308, ew6308⟩ : ∃ w : Int32, I (ad g 4) 2 = w := ⟨_, rfl⟩
  have bw6308 := BT_get hI.1 4 0 5 (0) (0) (1000) (by decide) 2 (by decide) (by decide)
  rw [ew6308] at bw6308
  obtain ⟨w6309, ew6309⟩ : ∃ w : Int32, I (ad g 27) 1 = w := ⟨_, rfl⟩
  have bw6309 := BT_get hI.1 27 1 2 (0) (0) (4) (by decide) 1 (by decide) (by decide)
  rw [ew6309] at bw6309
  obtain ⟨w6310, ew6310⟩ : ∃ w : Int32, I (ad g 27) 2 = w := ⟨_, rfl⟩
  have bw6310 := BT_get hI.1 27 2 3 (0) (0) (3) (by decide) 2 (by decide) (by decide)
  rw [ew6310] at bw6310
  refine WP_aload_n dX3_faultOfNumber_0 rfl ?_
  refine WP_getr dX3_faultOfNumber_1 fX3_15 rfl (lyx_is hy 3 3 rfl) (rfx hr 3 2 1 (by decide)) ?_
  refine WQ_getiu dX3_faultOfNumber_4 fX3_118 rfl (lyx_is hy 1 5 rfl) (fun v6311 ev6311 => ?_)
  refine WP_istore (ls' := [(0, _), (1, _), (2, _), (3, _), (4, _), (5, _)]) dX3_faultOfNumber_7 (by decide) rfl ?_
  refine WP_iload dX3_faultOfNumber_9 rfl ?_
  refine WP_iload_n dX3_faultOfNumber_11 rfl ?_
  refine WP_callS1 dX3_faultOfNumber_12 ⟨⟨⟨by decide, by decide⟩, zX3_leastOf⟩, lX3_121, tX3_leastOf⟩ (sx_leastOf hy hr hI pa ) (Nat.le_of_ble_eq_true rfl) ?_
  intro r Ia Ja Ra hq
  obtain ⟨⟨ea, eb, ec⟩, v6312, rfl, av6312, bv6312⟩ := hq
  show WP _ _ _ _ (.int _ :: _) _ _ _ _
  rw [ea, eb, ec]
  clear ea eb ec Ia Ja Ra
  refine WQ_icmp_lt 27 dX3_faultOfNumber_15 rfl (fun c6312 => ?_) (fun c6312 => ?_)
  · refine WQ_iconst (2) (2) dX3_faultOfNumber_27 rfl rfl (fun v6314 hv6314 => ?_)
    obtain ⟨w6315, ew6315⟩ : ∃ w : Int32, I (ad g 4) 3 = w := ⟨_, rfl⟩
    have bw6315 := BT_get hI.1 4 0 5 (0) (0) (1000) (by decide) 3 (by decide) (by decide)
    rw [ew6315] at bw6315
    exact WP_iret dX3_faultOfNumber_28 rfl ⟨⟨hI, rfl, ⟨trivial, rfl, rfl, rfl, rfl, rfl⟩⟩, _, rfl, by omega, by omega, by (try rw [ew6315]); omega⟩
  · refine WP_iload dX3_faultOfNumber_18 rfl ?_
    refine WP_iload_n dX3_faultOfNumber_20 rfl ?_
    refine WP_callS1 dX3_faultOfNumber_21 ⟨⟨⟨by decide, by decide⟩, zX3_mostOf⟩, lX3_125, tX3_mostOf⟩ (sx_mostOf hy hr hI pa ) (Nat.le_of_ble_eq_true rfl) ?_
    intro r Ia Ja Ra hq
    obtain ⟨⟨ea, eb, ec⟩, v6316, rfl, av6316, bv6316, cv6316⟩ := hq
    show WP _ _ _ _ (.int _ :: _) _ _ _ _
    rw [ea, eb, ec]
    clear ea eb ec Ia Ja Ra
    refine WQ_icmp_le 29 dX3_faultOfNumber_24 rfl (fun c6316 => ?_) (fun c6316 => ?_)
    · refine WP_aload_n dX3_faultOfNumber_29 rfl ?_
      refine WP_getr dX3_faultOfNumber_30 fX3_9 rfl (lyx_is hy 3 3 rfl) (rfx hr 3 3 4 (by decide)) ?_
      refine WP_iload_n dX3_faultOfNumber_33 rfl ?_
      refine WP_iload dX3_faultOfNumber_34 rfl ?_
      refine WQ_iast dX3_faultOfNumber_36 (lyx_is hy 4 13 rfl) (lyx_n hy 4 5 rfl) (by omega) (by omega) (fun I6318 fI6318 => ?_)
      have eI6318 := fI6318
      rw [cl (x := ix) (n := 3) (by omega)] at eI6318
      clear fI6318
      have hI6318 : XI g n L I6318 := by rw [eI6318]; exact (xi_f hy hI (c := 4) (0) (0) (1000) (by decide) (Or.inl (by decide)) (by decide) (by omega) (by omega))
      have e6319 : I6318 (ad g 1) 1 = L := by rw [eI6318, pp_ne _ _ (Or.inl (lyx_ne hy (by decide) (by decide) (by decide)))]; exact e6304
      have e6320 : I6318 (ad g 4) 0 = w6306 := by rw [eI6318, pp_ne _ _ (Or.inr (by decide))]; exact ew6306
      have e6321 : I6318 (ad g 4) 1 = w6307 := by rw [eI6318, pp_ne _ _ (Or.inr (by decide))]; exact ew6307
      have e6322 : I6318 (ad g 4) 2 = w6308 := by rw [eI6318, pp_ne _ _ (Or.inr (by decide))]; exact ew6308
      have e6323 : I6318 (ad g 27) 1 = w6309 := by rw [eI6318, pp_ne _ _ (Or.inl (lyx_ne hy (by decide) (by decide) (by decide)))]; exact ew6309
      have e6324 : I6318 (ad g 27) 2 = w6310 := by rw [eI6318, pp_ne _ _ (Or.inl (lyx_ne hy (by decide) (by decide) (by decide)))]; exact ew6310
      have e6325 : I6318 (ad g 1) 4 = v6311 := by rw [eI6318, pp_ne _ _ (Or.inl (lyx_ne hy (by decide) (by decide) (by decide)))]; exact ev6311
      have e6326 : I6318 (ad g 4) 3 = v6311 := by rw [eI6318, pp_self]
      clear eI6318
      refine WP_iload_n dX3_faultOfNumber_37 rfl ?_
      refine WQ_bipush (68) (68) dX3_faultOfNumber_38 rfl rfl (fun v6327 hv6327 => ?_)
      refine WQ_icmp_eq 45 dX3_faultOfNumber_40 rfl (fun c6327 => False.elim (by omega)) (fun c6327 => ?_)
      refine WQ_iconst (0) (0) dX3_faultOfNumber_43 rfl rfl (fun v6329 hv6329 => ?_)
      exact WP_iret dX3_faultOfNumber_44 rfl ⟨⟨hI6318, rfl, ⟨trivial, (by rw [e6320, ew6306] <;> exact (eq32 _ _).mpr (by omega)), (by rw [e6321, ew6307] <;> exact (eq32 _ _).mpr (by omega)), (by rw [e6322, ew6308] <;> exact (eq32 _ _).mpr (by omega)), (by rw [e6323, ew6309] <;> exact (eq32 _ _).mpr (by omega)), (by rw [e6324, ew6310] <;> exact (eq32 _ _).mpr (by omega))⟩⟩, _, rfl, by omega, by omega, by (try rw [e6326]); omega⟩
    · refine WQ_iconst (2) (2) dX3_faultOfNumber_27 rfl rfl (fun v6330 hv6330 => ?_)
      obtain ⟨w6331, ew6331⟩ : ∃ w : Int32, I (ad g 4) 3 = w := ⟨_, rfl⟩
      have bw6331 := BT_get hI.1 4 0 5 (0) (0) (1000) (by decide) 3 (by decide) (by decide)
      rw [ew6331] at bw6331
      exact WP_iret dX3_faultOfNumber_28 rfl ⟨⟨hI, rfl, ⟨trivial, rfl, rfl, rfl, rfl, rfl⟩⟩, _, rfl, by omega, by omega, by (try rw [ew6331]); omega⟩
set_option maxHeartbeats 4000000 in
set_option maxRecDepth 100000 in
theorem sx_part_27_2_0 {g : GG} {n : Int} {L : Int32} (hy : LyX g)  {I : pI} {J : pJ} {R : pR} (hr : RfX g R) (hI : XI g n L I) (pa : Int32) (cz : Int32) (ix : Int32) (pa_lo : 109 ≤ pa.toInt) (pa_hi : pa.toInt ≤ 109) (cz_lo : 2 ≤ cz.toInt) (cz_hi : cz.toInt ≤ 2) (ix_lo : 0 ≤ ix.toInt) (ix_hi : ix.toInt ≤ 0) (hb : (I (ad g 27) 2).toInt ≤ 2) : SP g mX3_faultOfName [.ref (ad g 3), .int pa, .int cz, .int ix, .ref (ad g 27)] I J R (fun r I' J' R' => (XI g n L I' ∧ R' = R ∧ True ∧ I' (ad g 27) 1 = I (ad g 27) 1 ∧ I' (ad g 27) 2 = I (ad g 27) 2) ∧ ∃ v : Int32, r = some (.int v) ∧ 0 ≤ v.toInt ∧ v.toInt ≤ 5) := by
  refine SP_of ⟨by decide, rfl⟩ (Nat.le_of_ble_eq_true rfl) ?_
  have e6332 : I (ad g 1) 1 = L := hI.2
  have b6333 := BT_get hI.1 1 1 2 (0) (0) (900) (by decide) 1 (by decide) (by decide)
  rw [e6332] at b6333
  obtain ⟨w6334, ew6334⟩ : ∃ w : Int32, I (ad g 27) 1 = w := ⟨_, rfl⟩
  have bw6334 := BT_get hI.1 27 1 2 (0) (0) (4) (by decide) 1 (by decide) (by decide)
  rw [ew6334] at bw6334
  obtain ⟨w6335, ew6335⟩ : ∃ w : Int32, I (ad g 27) 2 = w := ⟨_, rfl⟩
  have bw6335 := BT_get hI.1 27 2 3 (0) (0) (3) (by decide) 2 (by decide) (by decide)
  rw [ew6335] at bw6335
  rw [ew6335] at hb
  refine WP_iload_n dX3_faultOfName_0 rfl ?_
  refine WQ_bipush (115) (115) dX3_faultOfName_1 rfl rfl (fun v6336 hv6336 => ?_)
  have jn17_6340 : ∀ (v6340 : Int32), 0 ≤ v6340.toInt → v6340.toInt ≤ 0 → WP g mX3_faultOfName 17 [(0, .ref (ad g 3)), (1, .int pa), (2, .int cz), (3, .int ix), (4, .ref (ad g 27))] [.int v6340] I J R (fun r I' J' R' => (XI g n L I' ∧ R' = R ∧ True ∧ I' (ad g 27) 1 = I (ad g 27) 1 ∧ I' (ad g 27) 2 = I (ad g 27) 2) ∧ ∃ v : Int32, r = some (.int v) ∧ 0 ≤ v.toInt ∧ v.toInt ≤ 5) := by
    intro v6340 av6340 bv6340
    refine WP_istore (ls' := [(0, _), (1, _), (2, _), (3, _), (4, _), (5, _)]) dX3_faultOfName_17 (by decide) rfl ?_
    refine WP_iload dX3_faultOfName_19 rfl ?_
    have jn51_6344 : ∀ (v6344 : Int32), -1 ≤ v6344.toInt → v6344.toInt ≤ 2 → WP g mX3_faultOfName 51 [(0, .ref (ad g 3)), (1, .int pa), (2, .int cz), (3, .int ix), (4, .ref (ad g 27)), (5, .int v6340)] [.int v6344] I J R (fun r I' J' R' => (XI g n L I' ∧ R' = R ∧ True ∧ I' (ad g 27) 1 = I (ad g 27) 1 ∧ I' (ad g 27) 2 = I (ad g 27) 2) ∧ ∃ v : Int32, r = some (.int v) ∧ 0 ≤ v.toInt ∧ v.toInt ≤ 5) := by
      intro v6344 av6344 bv6344
      refine WP_istore (ls' := [(0, _), (1, _), (2, _), (3, _), (4, _), (5, _), (6, _)]) dX3_faultOfName_51 (by decide) rfl ?_
      refine WP_iload_n dX3_faultOfName_53 rfl ?_
      refine WQ_bipush (110) (110) dX3_faultOfName_54 rfl rfl (fun v6346 hv6346 => ?_)
      refine WQ_icmp_eq 65 dX3_faultOfName_56 rfl (fun c6346 => False.elim (by omega)) (fun c6346 => ?_)
      refine WP_iload_n dX3_faultOfName_59 rfl ?_
      refine WQ_bipush (109) (109) dX3_faultOfName_60 rfl rfl (fun v6348 hv6348 => ?_)
      refine WQ_icmp_ne 98 dX3_faultOfName_62 rfl (fun c6348 => False.elim (by omega)) (fun c6348 => ?_)
      refine WP_iload dX3_faultOfName_65 rfl ?_
      refine WQ_iconst (-1) (-1) dX3_faultOfName_67 rfl rfl (fun v6350 hv6350 => ?_)
      refine WQ_icmp_eq 73 dX3_faultOfName_68 rfl (fun c6350 => ?_) (fun c6350 => ?_)
      · refine WP_aload dX3_faultOfName_73 rfl ?_
        refine WP_iload_n dX3_faultOfName_75 rfl ?_
        refine WQ_bipush (110) (110) dX3_faultOfName_76 rfl rfl (fun v6352 hv6352 => ?_)
        have jn86_6354 : ∀ (v6354 : Int32), 0 ≤ v6354.toInt → v6354.toInt ≤ 0 → WP g mX3_faultOfName 86 [(0, .ref (ad g 3)), (1, .int pa), (2, .int cz), (3, .int ix), (4, .ref (ad g 27)), (5, .int v6340), (6, .int v6344)] [.int v6354, .ref (ad g 27)] I J R (fun r I' J' R' => (XI g n L I' ∧ R' = R ∧ True ∧ I' (ad g 27) 1 = I (ad g 27) 1 ∧ I' (ad g 27) 2 = I (ad g 27) 2) ∧ ∃ v : Int32, r = some (.int v) ∧ 0 ≤ v.toInt ∧ v.toInt ≤ 5) := by
          intro v6354 av6354 bv6354
          refine WP_aload_n dX3_faultOfName_86 rfl ?_
          refine WP_getr dX3_faultOfName_87 fX3_15 rfl (lyx_is hy 3 3 rfl) (rfx hr 3 2 1 (by decide)) ?_
          refine WQ_getl dX3_faultOfName_90 fX3_80 rfl (lyx_is hy 1 5 rfl) (fun l6356 el6356 => ?_)
          refine WP_callV2 (k := 7) dX3_faultOfName_93 ⟨⟨⟨by decide, by decide⟩, zX7_name⟩, lX3_110, by decide, rfl, vX7_name.1, vX7_name.2⟩ (lyx_is hy 27 7 rfl) (sx_name_27_0 hy hr hI v6354 l6356 (by omega) (by omega) (by rw [ew6335]; omega)) (Nat.le_of_ble_eq_true rfl) ?_
          intro r Ia J6357 Ra hq
          obtain ⟨⟨ea, ec⟩, rfl⟩ := hq
          rw [ea, ec]
          clear ea ec Ia Ra
          refine WQ_iconst (0) (0) dX3_faultOfName_96 rfl rfl (fun v6358 hv6358 => ?_)
          exact WP_iret dX3_faultOfName_97 rfl ⟨⟨hI, rfl, ⟨trivial, rfl, rfl⟩⟩, _, rfl, by omega, by omega⟩
        refine WQ_icmp_ne 85 dX3_faultOfName_78 rfl (fun c6358 => ?_) (fun c6358 => False.elim (by omega))
        refine WQ_iconst (0) (0) dX3_faultOfName_85 rfl rfl (fun v6360 hv6360 => ?_)
        exact WP_sub (fc rfl (fc rfl (fc rfl (fc rfl (fc rfl (fc rfl (fc rfl fn))))))) (jn86_6354 v6360 (by omega) (by omega))
      · refine WQ_iconst (3) (3) dX3_faultOfName_71 rfl rfl (fun v6361 hv6361 => ?_)
        exact WP_iret dX3_faultOfName_72 rfl ⟨⟨hI, rfl, ⟨trivial, rfl, rfl⟩⟩, _, rfl, by omega, by omega⟩
    refine WQ_if_eq 39 dX3_faultOfName_21 rfl (fun c6361 => ?_) (fun c6361 => False.elim (by omega))
    refine WP_aload dX3_faultOfName_39 rfl ?_
    refine WP_aload_n dX3_faultOfName_41 rfl ?_
    refine WP_getr dX3_faultOfName_42 fX3_15 rfl (lyx_is hy 3 3 rfl) (rfx hr 3 2 1 (by decide)) ?_
    refine WQ_getl dX3_faultOfName_45 fX3_80 rfl (lyx_is hy 1 5 rfl) (fun l6363 el6363 => ?_)
    refine WP_callV1 (k := 7) dX3_faultOfName_48 ⟨⟨⟨by decide, by decide⟩, zX7_thingNamed⟩, lX3_107, by decide, rfl, vX7_thingNamed.1, vX7_thingNamed.2⟩ (lyx_is hy 27 7 rfl) (sx_thingNamed_27 hy hr hI l6363 ) (Nat.le_of_ble_eq_true rfl) ?_
    intro r Ia Ja Ra hq
    obtain ⟨⟨ea, eb, ec⟩, v6364, rfl, av6364, bv6364⟩ := hq
    show WP _ _ _ _ (.int _ :: _) _ _ _ _
    rw [ea, eb, ec]
    clear ea eb ec Ia Ja Ra
    exact WP_sub (fc rfl (fc rfl (fc rfl (fc rfl (fc rfl (fc rfl fn)))))) (jn51_6344 v6364 (by omega) (by omega))
  refine WQ_icmp_eq 12 dX3_faultOfName_3 rfl (fun c6364 => False.elim (by omega)) (fun c6364 => ?_)
  refine WP_iload_n dX3_faultOfName_6 rfl ?_
  refine WQ_bipush (110) (110) dX3_faultOfName_7 rfl rfl (fun v6366 hv6366 => ?_)
  refine WQ_icmp_ne 16 dX3_faultOfName_9 rfl (fun c6366 => ?_) (fun c6366 => False.elim (by omega))
  refine WQ_iconst (0) (0) dX3_faultOfName_16 rfl rfl (fun v6368 hv6368 => ?_)
  exact WP_sub (fc rfl (fc rfl (fc rfl (fc rfl (fc rfl fn))))) (jn17_6340 v6368 (by omega) (by omega))
set_option maxHeartbeats 4000000 in
set_option maxRecDepth 100000 in
theorem sx_part_27_2_1 {g : GG} {n : Int} {L : Int32} (hy : LyX g)  {I : pI} {J : pJ} {R : pR} (hr : RfX g R) (hI : XI g n L I) (pa : Int32) (cz : Int32) (ix : Int32) (pa_lo : 72 ≤ pa.toInt) (pa_hi : pa.toInt ≤ 72) (cz_lo : 2 ≤ cz.toInt) (cz_hi : cz.toInt ≤ 2) (ix_lo : 1 ≤ ix.toInt) (ix_hi : ix.toInt ≤ 1) : SP g mX3_faultOfNumber [.ref (ad g 3), .int pa, .int cz, .int ix, .ref (ad g 27)] I J R (fun r I' J' R' => (XI g n L I' ∧ R' = R ∧ True ∧ I' (ad g 4) 0 = I (ad g 4) 0 ∧ I' (ad g 27) 1 = I (ad g 27) 1 ∧ I' (ad g 27) 2 = I (ad g 27) 2) ∧ ∃ v : Int32, r = some (.int v) ∧ 0 ≤ v.toInt ∧ v.toInt ≤ 5 ∧ (v.toInt = 0 → (I' (ad g 4) 1).toInt ≤ 1000)) := by
  refine SP_of ⟨by decide, rfl⟩ (Nat.le_of_ble_eq_true rfl) ?_
  have e6369 : I (ad g 1) 1 = L := hI.2
  have b6370 := BT_get hI.1 1 1 2 (0) (0) (900) (by decide) 1 (by decide) (by decide)
  rw [e6369] at b6370
  obtain ⟨w6371, ew6371⟩ : ∃ w : Int32, I (ad g 4) 0 = w := ⟨_, rfl⟩
  have bw6371 := BT_get hI.1 4 0 5 (0) (0) (1000) (by decide) 0 (by decide) (by decide)
  rw [ew6371] at bw6371
  obtain ⟨w6372, ew6372⟩ : ∃ w : Int32, I (ad g 27) 1 = w := ⟨_, rfl⟩
  have bw6372 := BT_get hI.1 27 1 2 (0) (0) (4) (by decide) 1 (by decide) (by decide)
  rw [ew6372] at bw6372
  obtain ⟨w6373, ew6373⟩ : ∃ w : Int32, I (ad g 27) 2 = w := ⟨_, rfl⟩
  have bw6373 := BT_get hI.1 27 2 3 (0) (0) (3) (by decide) 2 (by decide) (by decide)
  rw [ew6373] at bw6373
  refine WP_aload_n dX3_faultOfNumber_0 rfl ?_
  refine WP_getr dX3_faultOfNumber_1 fX3_15 rfl (lyx_is hy 3 3 rfl) (rfx hr 3 2 1 (by decide)) ?_
  refine WQ_getiu dX3_faultOfNumber_4 fX3_118 rfl (lyx_is hy 1 5 rfl) (fun v6374 ev6374 => ?_)
  refine WP_istore (ls' := [(0, _), (1, _), (2, _), (3, _), (4, _), (5, _)]) dX3_faultOfNumber_7 (by decide) rfl ?_
  refine WP_iload dX3_faultOfNumber_9 rfl ?_
  refine WP_iload_n dX3_faultOfNumber_11 rfl ?_
  refine WP_callS1 dX3_faultOfNumber_12 ⟨⟨⟨by decide, by decide⟩, zX3_leastOf⟩, lX3_121, tX3_leastOf⟩ (sx_leastOf hy hr hI pa ) (Nat.le_of_ble_eq_true rfl) ?_
  intro r Ia Ja Ra hq
  obtain ⟨⟨ea, eb, ec⟩, v6375, rfl, av6375, bv6375⟩ := hq
  show WP _ _ _ _ (.int _ :: _) _ _ _ _
  rw [ea, eb, ec]
  clear ea eb ec Ia Ja Ra
  refine WQ_icmp_lt 27 dX3_faultOfNumber_15 rfl (fun c6375 => ?_) (fun c6375 => ?_)
  · refine WQ_iconst (2) (2) dX3_faultOfNumber_27 rfl rfl (fun v6377 hv6377 => ?_)
    obtain ⟨w6378, ew6378⟩ : ∃ w : Int32, I (ad g 4) 1 = w := ⟨_, rfl⟩
    have bw6378 := BT_get hI.1 4 0 5 (0) (0) (1000) (by decide) 1 (by decide) (by decide)
    rw [ew6378] at bw6378
    exact WP_iret dX3_faultOfNumber_28 rfl ⟨⟨hI, rfl, ⟨trivial, rfl, rfl, rfl⟩⟩, _, rfl, by omega, by omega, by (try rw [ew6378]); omega⟩
  · refine WP_iload dX3_faultOfNumber_18 rfl ?_
    refine WP_iload_n dX3_faultOfNumber_20 rfl ?_
    refine WP_callS1 dX3_faultOfNumber_21 ⟨⟨⟨by decide, by decide⟩, zX3_mostOf⟩, lX3_125, tX3_mostOf⟩ (sx_mostOf hy hr hI pa ) (Nat.le_of_ble_eq_true rfl) ?_
    intro r Ia Ja Ra hq
    obtain ⟨⟨ea, eb, ec⟩, v6379, rfl, av6379, bv6379, cv6379⟩ := hq
    show WP _ _ _ _ (.int _ :: _) _ _ _ _
    rw [ea, eb, ec]
    clear ea eb ec Ia Ja Ra
    refine WQ_icmp_le 29 dX3_faultOfNumber_24 rfl (fun c6379 => ?_) (fun c6379 => ?_)
    · refine WP_aload_n dX3_faultOfNumber_29 rfl ?_
      refine WP_getr dX3_faultOfNumber_30 fX3_9 rfl (lyx_is hy 3 3 rfl) (rfx hr 3 3 4 (by decide)) ?_
      refine WP_iload_n dX3_faultOfNumber_33 rfl ?_
      refine WP_iload dX3_faultOfNumber_34 rfl ?_
      refine WQ_iast dX3_faultOfNumber_36 (lyx_is hy 4 13 rfl) (lyx_n hy 4 5 rfl) (by omega) (by omega) (fun I6381 fI6381 => ?_)
      have eI6381 := fI6381
      rw [cl (x := ix) (n := 1) (by omega)] at eI6381
      clear fI6381
      have hI6381 : XI g n L I6381 := by rw [eI6381]; exact (xi_f hy hI (c := 4) (0) (0) (1000) (by decide) (Or.inl (by decide)) (by decide) (by omega) (by omega))
      have e6382 : I6381 (ad g 1) 1 = L := by rw [eI6381, pp_ne _ _ (Or.inl (lyx_ne hy (by decide) (by decide) (by decide)))]; exact e6369
      have e6383 : I6381 (ad g 4) 0 = w6371 := by rw [eI6381, pp_ne _ _ (Or.inr (by decide))]; exact ew6371
      have e6384 : I6381 (ad g 27) 1 = w6372 := by rw [eI6381, pp_ne _ _ (Or.inl (lyx_ne hy (by decide) (by decide) (by decide)))]; exact ew6372
      have e6385 : I6381 (ad g 27) 2 = w6373 := by rw [eI6381, pp_ne _ _ (Or.inl (lyx_ne hy (by decide) (by decide) (by decide)))]; exact ew6373
      have e6386 : I6381 (ad g 1) 4 = v6374 := by rw [eI6381, pp_ne _ _ (Or.inl (lyx_ne hy (by decide) (by decide) (by decide)))]; exact ev6374
      have e6387 : I6381 (ad g 4) 1 = v6374 := by rw [eI6381, pp_self]
      clear eI6381
      refine WP_iload_n dX3_faultOfNumber_37 rfl ?_
      refine WQ_bipush (68) (68) dX3_faultOfNumber_38 rfl rfl (fun v6388 hv6388 => ?_)
      refine WQ_icmp_eq 45 dX3_faultOfNumber_40 rfl (fun c6388 => False.elim (by omega)) (fun c6388 => ?_)
      refine WQ_iconst (0) (0) dX3_faultOfNumber_43 rfl rfl (fun v6390 hv6390 => ?_)
      exact WP_iret dX3_faultOfNumber_44 rfl ⟨⟨hI6381, rfl, ⟨trivial, (by rw [e6383, ew6371] <;> exact (eq32 _ _).mpr (by omega)), (by rw [e6384, ew6372] <;> exact (eq32 _ _).mpr (by omega)), (by rw [e6385, ew6373] <;> exact (eq32 _ _).mpr (by omega))⟩⟩, _, rfl, by omega, by omega, by (try rw [e6387]); omega⟩
    · refine WQ_iconst (2) (2) dX3_faultOfNumber_27 rfl rfl (fun v6391 hv6391 => ?_)
      obtain ⟨w6392, ew6392⟩ : ∃ w : Int32, I (ad g 4) 1 = w := ⟨_, rfl⟩
      have bw6392 := BT_get hI.1 4 0 5 (0) (0) (1000) (by decide) 1 (by decide) (by decide)
      rw [ew6392] at bw6392
      exact WP_iret dX3_faultOfNumber_28 rfl ⟨⟨hI, rfl, ⟨trivial, rfl, rfl, rfl⟩⟩, _, rfl, by omega, by omega, by (try rw [ew6392]); omega⟩
set_option maxHeartbeats 4000000 in
set_option maxRecDepth 100000 in
theorem sx_part_27_2_2 {g : GG} {n : Int} {L : Int32} (hy : LyX g)  {I : pI} {J : pJ} {R : pR} (hr : RfX g R) (hI : XI g n L I) (pa : Int32) (cz : Int32) (ix : Int32) (pa_lo : 71 ≤ pa.toInt) (pa_hi : pa.toInt ≤ 71) (cz_lo : 2 ≤ cz.toInt) (cz_hi : cz.toInt ≤ 2) (ix_lo : 2 ≤ ix.toInt) (ix_hi : ix.toInt ≤ 2) : SP g mX3_faultOfNumber [.ref (ad g 3), .int pa, .int cz, .int ix, .ref (ad g 27)] I J R (fun r I' J' R' => (XI g n L I' ∧ R' = R ∧ True ∧ I' (ad g 4) 0 = I (ad g 4) 0 ∧ I' (ad g 4) 1 = I (ad g 4) 1 ∧ I' (ad g 27) 1 = I (ad g 27) 1 ∧ I' (ad g 27) 2 = I (ad g 27) 2) ∧ ∃ v : Int32, r = some (.int v) ∧ 0 ≤ v.toInt ∧ v.toInt ≤ 5 ∧ (v.toInt = 0 → (I' (ad g 4) 2).toInt ≤ 9)) := by
  refine SP_of ⟨by decide, rfl⟩ (Nat.le_of_ble_eq_true rfl) ?_
  have e6393 : I (ad g 1) 1 = L := hI.2
  have b6394 := BT_get hI.1 1 1 2 (0) (0) (900) (by decide) 1 (by decide) (by decide)
  rw [e6393] at b6394
  obtain ⟨w6395, ew6395⟩ : ∃ w : Int32, I (ad g 4) 0 = w := ⟨_, rfl⟩
  have bw6395 := BT_get hI.1 4 0 5 (0) (0) (1000) (by decide) 0 (by decide) (by decide)
  rw [ew6395] at bw6395
  obtain ⟨w6396, ew6396⟩ : ∃ w : Int32, I (ad g 4) 1 = w := ⟨_, rfl⟩
  have bw6396 := BT_get hI.1 4 0 5 (0) (0) (1000) (by decide) 1 (by decide) (by decide)
  rw [ew6396] at bw6396
  obtain ⟨w6397, ew6397⟩ : ∃ w : Int32, I (ad g 27) 1 = w := ⟨_, rfl⟩
  have bw6397 := BT_get hI.1 27 1 2 (0) (0) (4) (by decide) 1 (by decide) (by decide)
  rw [ew6397] at bw6397
  obtain ⟨w6398, ew6398⟩ : ∃ w : Int32, I (ad g 27) 2 = w := ⟨_, rfl⟩
  have bw6398 := BT_get hI.1 27 2 3 (0) (0) (3) (by decide) 2 (by decide) (by decide)
  rw [ew6398] at bw6398
  refine WP_aload_n dX3_faultOfNumber_0 rfl ?_
  refine WP_getr dX3_faultOfNumber_1 fX3_15 rfl (lyx_is hy 3 3 rfl) (rfx hr 3 2 1 (by decide)) ?_
  refine WQ_getiu dX3_faultOfNumber_4 fX3_118 rfl (lyx_is hy 1 5 rfl) (fun v6399 ev6399 => ?_)
  refine WP_istore (ls' := [(0, _), (1, _), (2, _), (3, _), (4, _), (5, _)]) dX3_faultOfNumber_7 (by decide) rfl ?_
  refine WP_iload dX3_faultOfNumber_9 rfl ?_
  refine WP_iload_n dX3_faultOfNumber_11 rfl ?_
  refine WP_callS1 dX3_faultOfNumber_12 ⟨⟨⟨by decide, by decide⟩, zX3_leastOf⟩, lX3_121, tX3_leastOf⟩ (sx_leastOf hy hr hI pa ) (Nat.le_of_ble_eq_true rfl) ?_
  intro r Ia Ja Ra hq
  obtain ⟨⟨ea, eb, ec⟩, v6400, rfl, av6400, bv6400⟩ := hq
  show WP _ _ _ _ (.int _ :: _) _ _ _ _
  rw [ea, eb, ec]
  clear ea eb ec Ia Ja Ra
  refine WQ_icmp_lt 27 dX3_faultOfNumber_15 rfl (fun c6400 => ?_) (fun c6400 => ?_)
  · refine WQ_iconst (2) (2) dX3_faultOfNumber_27 rfl rfl (fun v6402 hv6402 => ?_)
    obtain ⟨w6403, ew6403⟩ : ∃ w : Int32, I (ad g 4) 2 = w := ⟨_, rfl⟩
    have bw6403 := BT_get hI.1 4 0 5 (0) (0) (1000) (by decide) 2 (by decide) (by decide)
    rw [ew6403] at bw6403
    exact WP_iret dX3_faultOfNumber_28 rfl ⟨⟨hI, rfl, ⟨trivial, rfl, rfl, rfl, rfl⟩⟩, _, rfl, by omega, by omega, by (try rw [ew6403]); omega⟩
  · refine WP_iload dX3_faultOfNumber_18 rfl ?_
    refine WP_iload_n dX3_faultOfNumber_20 rfl ?_
    refine WP_callS1 dX3_faultOfNumber_21 ⟨⟨⟨by decide, by decide⟩, zX3_mostOf⟩, lX3_125, tX3_mostOf⟩ (sx_mostOf hy hr hI pa ) (Nat.le_of_ble_eq_true rfl) ?_
    intro r Ia Ja Ra hq
    obtain ⟨⟨ea, eb, ec⟩, v6404, rfl, av6404, bv6404, cv6404⟩ := hq
    show WP _ _ _ _ (.int _ :: _) _ _ _ _
    rw [ea, eb, ec]
    clear ea eb ec Ia Ja Ra
    refine WQ_icmp_le 29 dX3_faultOfNumber_24 rfl (fun c6404 => ?_) (fun c6404 => ?_)
    · refine WP_aload_n dX3_faultOfNumber_29 rfl ?_
      refine WP_getr dX3_faultOfNumber_30 fX3_9 rfl (lyx_is hy 3 3 rfl) (rfx hr 3 3 4 (by decide)) ?_
      refine WP_iload_n dX3_faultOfNumber_33 rfl ?_
      refine WP_iload dX3_faultOfNumber_34 rfl ?_
      refine WQ_iast dX3_faultOfNumber_36 (lyx_is hy 4 13 rfl) (lyx_n hy 4 5 rfl) (by omega) (by omega) (fun I6406 fI6406 => ?_)
      have eI6406 := fI6406
      rw [cl (x := ix) (n := 2) (by omega)] at eI6406
      clear fI6406
      have hI6406 : XI g n L I6406 := by rw [eI6406]; exact (xi_f hy hI (c := 4) (0) (0) (1000) (by decide) (Or.inl (by decide)) (by decide) (by omega) (by omega))
      have e6407 : I6406 (ad g 1) 1 = L := by rw [eI6406, pp_ne _ _ (Or.inl (lyx_ne hy (by decide) (by decide) (by decide)))]; exact e6393
      have e6408 : I6406 (ad g 4) 0 = w6395 := by rw [eI6406, pp_ne _ _ (Or.inr (by decide))]; exact ew6395
      have e6409 : I6406 (ad g 4) 1 = w6396 := by rw [eI6406, pp_ne _ _ (Or.inr (by decide))]; exact ew6396
      have e6410 : I6406 (ad g 27) 1 = w6397 := by rw [eI6406, pp_ne _ _ (Or.inl (lyx_ne hy (by decide) (by decide) (by decide)))]; exact ew6397
      have e6411 : I6406 (ad g 27) 2 = w6398 := by rw [eI6406, pp_ne _ _ (Or.inl (lyx_ne hy (by decide) (by decide) (by decide)))]; exact ew6398
      have e6412 : I6406 (ad g 1) 4 = v6399 := by rw [eI6406, pp_ne _ _ (Or.inl (lyx_ne hy (by decide) (by decide) (by decide)))]; exact ev6399
      have e6413 : I6406 (ad g 4) 2 = v6399 := by rw [eI6406, pp_self]
      clear eI6406
      refine WP_iload_n dX3_faultOfNumber_37 rfl ?_
      refine WQ_bipush (68) (68) dX3_faultOfNumber_38 rfl rfl (fun v6414 hv6414 => ?_)
      refine WQ_icmp_eq 45 dX3_faultOfNumber_40 rfl (fun c6414 => False.elim (by omega)) (fun c6414 => ?_)
      refine WQ_iconst (0) (0) dX3_faultOfNumber_43 rfl rfl (fun v6416 hv6416 => ?_)
      exact WP_iret dX3_faultOfNumber_44 rfl ⟨⟨hI6406, rfl, ⟨trivial, (by rw [e6408, ew6395] <;> exact (eq32 _ _).mpr (by omega)), (by rw [e6409, ew6396] <;> exact (eq32 _ _).mpr (by omega)), (by rw [e6410, ew6397] <;> exact (eq32 _ _).mpr (by omega)), (by rw [e6411, ew6398] <;> exact (eq32 _ _).mpr (by omega))⟩⟩, _, rfl, by omega, by omega, by (try rw [e6413]); omega⟩
    · refine WQ_iconst (2) (2) dX3_faultOfNumber_27 rfl rfl (fun v6417 hv6417 => ?_)
      obtain ⟨w6418, ew6418⟩ : ∃ w : Int32, I (ad g 4) 2 = w := ⟨_, rfl⟩
      have bw6418 := BT_get hI.1 4 0 5 (0) (0) (1000) (by decide) 2 (by decide) (by decide)
      rw [ew6418] at bw6418
      exact WP_iret dX3_faultOfNumber_28 rfl ⟨⟨hI, rfl, ⟨trivial, rfl, rfl, rfl, rfl⟩⟩, _, rfl, by omega, by omega, by (try rw [ew6418]); omega⟩
set_option maxHeartbeats 4000000 in
set_option maxRecDepth 100000 in
theorem sx_part_27_3_0 {g : GG} {n : Int} {L : Int32} (hy : LyX g)  {I : pI} {J : pJ} {R : pR} (hr : RfX g R) (hI : XI g n L I) (pa : Int32) (cz : Int32) (ix : Int32) (pa_lo : 115 ≤ pa.toInt) (pa_hi : pa.toInt ≤ 115) (cz_lo : 3 ≤ cz.toInt) (cz_hi : cz.toInt ≤ 3) (ix_lo : 0 ≤ ix.toInt) (ix_hi : ix.toInt ≤ 0) : SP g mX3_faultOfName [.ref (ad g 3), .int pa, .int cz, .int ix, .ref (ad g 27)] I J R (fun r I' J' R' => (XI g n L I' ∧ R' = R ∧ True ∧ I' (ad g 27) 1 = I (ad g 27) 1 ∧ I' (ad g 27) 2 = I (ad g 27) 2) ∧ ∃ v : Int32, r = some (.int v) ∧ 0 ≤ v.toInt ∧ v.toInt ≤ 5 ∧ (v.toInt = 0 → (I' (ad g 4) 0).toInt ≤ 3)) := by
  refine SP_of ⟨by decide, rfl⟩ (Nat.le_of_ble_eq_true rfl) ?_
  have e6419 : I (ad g 1) 1 = L := hI.2
  have b6420 := BT_get hI.1 1 1 2 (0) (0) (900) (by decide) 1 (by decide) (by decide)
  rw [e6419] at b6420
  obtain ⟨w6421, ew6421⟩ : ∃ w : Int32, I (ad g 27) 1 = w := ⟨_, rfl⟩
  have bw6421 := BT_get hI.1 27 1 2 (0) (0) (4) (by decide) 1 (by decide) (by decide)
  rw [ew6421] at bw6421
  obtain ⟨w6422, ew6422⟩ : ∃ w : Int32, I (ad g 27) 2 = w := ⟨_, rfl⟩
  have bw6422 := BT_get hI.1 27 2 3 (0) (0) (3) (by decide) 2 (by decide) (by decide)
  rw [ew6422] at bw6422
  refine WP_iload_n dX3_faultOfName_0 rfl ?_
  refine WQ_bipush (115) (115) dX3_faultOfName_1 rfl rfl (fun v6423 hv6423 => ?_)
  refine WQ_icmp_eq 12 dX3_faultOfName_3 rfl (fun c6423 => ?_) (fun c6423 => False.elim (by omega))
  refine WQ_iconst (1) (1) dX3_faultOfName_12 rfl rfl (fun v6425 hv6425 => ?_)
  refine WP_goto 17 dX3_faultOfName_13 rfl ?_
  refine WP_istore (ls' := [(0, _), (1, _), (2, _), (3, _), (4, _), (5, _)]) dX3_faultOfName_17 (by decide) rfl ?_
  refine WP_iload dX3_faultOfName_19 rfl ?_
  refine WQ_if_eq 39 dX3_faultOfName_21 rfl (fun c6425 => False.elim (by omega)) (fun c6425 => ?_)
  refine WP_aload dX3_faultOfName_24 rfl ?_
  refine WP_aload_n dX3_faultOfName_26 rfl ?_
  refine WP_getr dX3_faultOfName_27 fX3_15 rfl (lyx_is hy 3 3 rfl) (rfx hr 3 2 1 (by decide)) ?_
  refine WQ_getl dX3_faultOfName_30 fX3_80 rfl (lyx_is hy 1 5 rfl) (fun l6427 el6427 => ?_)
  refine WP_callV1 (k := 7) dX3_faultOfName_33 ⟨⟨⟨by decide, by decide⟩, zX7_sortNamed⟩, lX3_103, by decide, rfl, vX7_sortNamed.1, vX7_sortNamed.2⟩ (lyx_is hy 27 7 rfl) (sx_sortNamed_27 hy hr hI l6427 ) (Nat.le_of_ble_eq_true rfl) ?_
  intro r Ia Ja Ra hq
  obtain ⟨⟨ea, eb, ec⟩, v6428, rfl, av6428, bv6428⟩ := hq
  show WP _ _ _ _ (.int _ :: _) _ _ _ _
  rw [ea, eb, ec]
  clear ea eb ec Ia Ja Ra
  refine WP_goto 51 dX3_faultOfName_36 rfl ?_
  refine WP_istore (ls' := [(0, _), (1, _), (2, _), (3, _), (4, _), (5, _), (6, _)]) dX3_faultOfName_51 (by decide) rfl ?_
  refine WP_iload_n dX3_faultOfName_53 rfl ?_
  refine WQ_bipush (110) (110) dX3_faultOfName_54 rfl rfl (fun v6429 hv6429 => ?_)
  refine WQ_icmp_eq 65 dX3_faultOfName_56 rfl (fun c6429 => False.elim (by omega)) (fun c6429 => ?_)
  refine WP_iload_n dX3_faultOfName_59 rfl ?_
  refine WQ_bipush (109) (109) dX3_faultOfName_60 rfl rfl (fun v6431 hv6431 => ?_)
  refine WQ_icmp_ne 98 dX3_faultOfName_62 rfl (fun c6431 => ?_) (fun c6431 => False.elim (by omega))
  refine WP_iload dX3_faultOfName_98 rfl ?_
  refine WQ_iconst (-1) (-1) dX3_faultOfName_100 rfl rfl (fun v6433 hv6433 => ?_)
  refine WQ_icmp_ne 106 dX3_faultOfName_101 rfl (fun c6433 => ?_) (fun c6433 => ?_)
  · refine WP_aload_n dX3_faultOfName_106 rfl ?_
    refine WP_getr dX3_faultOfName_107 fX3_9 rfl (lyx_is hy 3 3 rfl) (rfx hr 3 3 4 (by decide)) ?_
    refine WP_iload_n dX3_faultOfName_110 rfl ?_
    refine WP_iload dX3_faultOfName_111 rfl ?_
    refine WQ_iast dX3_faultOfName_113 (lyx_is hy 4 13 rfl) (lyx_n hy 4 5 rfl) (by omega) (by omega) (fun I6435 fI6435 => ?_)
    have eI6435 := fI6435
    rw [cl (x := ix) (n := 0) (by omega)] at eI6435
    clear fI6435
    have hI6435 : XI g n L I6435 := by rw [eI6435]; exact (xi_f hy hI (c := 4) (0) (0) (1000) (by decide) (Or.inl (by decide)) (by decide) (by omega) (by omega))
    have e6436 : I6435 (ad g 1) 1 = L := by rw [eI6435, pp_ne _ _ (Or.inl (lyx_ne hy (by decide) (by decide) (by decide)))]; exact e6419
    have e6437 : I6435 (ad g 27) 1 = w6421 := by rw [eI6435, pp_ne _ _ (Or.inl (lyx_ne hy (by decide) (by decide) (by decide)))]; exact ew6421
    have e6438 : I6435 (ad g 27) 2 = w6422 := by rw [eI6435, pp_ne _ _ (Or.inl (lyx_ne hy (by decide) (by decide) (by decide)))]; exact ew6422
    have e6439 : I6435 (ad g 4) 0 = v6428 := by rw [eI6435, pp_self]
    clear eI6435
    refine WP_iload_n dX3_faultOfName_114 rfl ?_
    refine WQ_bipush (7) (7) dX3_faultOfName_115 rfl rfl (fun v6440 hv6440 => ?_)
    refine WQ_icmp_ne 137 dX3_faultOfName_117 rfl (fun c6440 => ?_) (fun c6440 => False.elim (by omega))
    refine WQ_iconst (0) (0) dX3_faultOfName_137 rfl rfl (fun v6442 hv6442 => ?_)
    exact WP_iret dX3_faultOfName_138 rfl ⟨⟨hI6435, rfl, ⟨trivial, (by rw [e6437, ew6421] <;> exact (eq32 _ _).mpr (by omega)), (by rw [e6438, ew6422] <;> exact (eq32 _ _).mpr (by omega))⟩⟩, _, rfl, by omega, by omega, by (try rw [e6439]); omega⟩
  · refine WQ_iconst (5) (5) dX3_faultOfName_104 rfl rfl (fun v6443 hv6443 => ?_)
    obtain ⟨w6444, ew6444⟩ : ∃ w : Int32, I (ad g 4) 0 = w := ⟨_, rfl⟩
    have bw6444 := BT_get hI.1 4 0 5 (0) (0) (1000) (by decide) 0 (by decide) (by decide)
    rw [ew6444] at bw6444
    exact WP_iret dX3_faultOfName_105 rfl ⟨⟨hI, rfl, ⟨trivial, rfl, rfl⟩⟩, _, rfl, by omega, by omega, by (try rw [ew6444]); omega⟩
set_option maxHeartbeats 4000000 in
set_option maxRecDepth 100000 in
theorem sx_part_27_3_1 {g : GG} {n : Int} {L : Int32} (hy : LyX g)  {I : pI} {J : pJ} {R : pR} (hr : RfX g R) (hI : XI g n L I) (pa : Int32) (cz : Int32) (ix : Int32) (pa_lo : 68 ≤ pa.toInt) (pa_hi : pa.toInt ≤ 68) (cz_lo : 3 ≤ cz.toInt) (cz_hi : cz.toInt ≤ 3) (ix_lo : 1 ≤ ix.toInt) (ix_hi : ix.toInt ≤ 1) (hb : (I (ad g 4) 0).toInt ≤ 3) : SP g mX3_faultOfNumber [.ref (ad g 3), .int pa, .int cz, .int ix, .ref (ad g 27)] I J R (fun r I' J' R' => (XI g n L I' ∧ R' = R ∧ True ∧ I' (ad g 4) 0 = I (ad g 4) 0 ∧ I' (ad g 27) 1 = I (ad g 27) 1 ∧ I' (ad g 27) 2 = I (ad g 27) 2) ∧ ∃ v : Int32, r = some (.int v) ∧ 0 ≤ v.toInt ∧ v.toInt ≤ 5 ∧ (v.toInt = 0 → (I' (ad g 4) 1).toInt ≤ 6)) := by
  refine SP_of ⟨by decide, rfl⟩ (Nat.le_of_ble_eq_true rfl) ?_
  have e6445 : I (ad g 1) 1 = L := hI.2
  have b6446 := BT_get hI.1 1 1 2 (0) (0) (900) (by decide) 1 (by decide) (by decide)
  rw [e6445] at b6446
  obtain ⟨w6447, ew6447⟩ : ∃ w : Int32, I (ad g 4) 0 = w := ⟨_, rfl⟩
  have bw6447 := BT_get hI.1 4 0 5 (0) (0) (1000) (by decide) 0 (by decide) (by decide)
  rw [ew6447] at bw6447
  obtain ⟨w6448, ew6448⟩ : ∃ w : Int32, I (ad g 27) 1 = w := ⟨_, rfl⟩
  have bw6448 := BT_get hI.1 27 1 2 (0) (0) (4) (by decide) 1 (by decide) (by decide)
  rw [ew6448] at bw6448
  obtain ⟨w6449, ew6449⟩ : ∃ w : Int32, I (ad g 27) 2 = w := ⟨_, rfl⟩
  have bw6449 := BT_get hI.1 27 2 3 (0) (0) (3) (by decide) 2 (by decide) (by decide)
  rw [ew6449] at bw6449
  rw [ew6447] at hb
  refine WP_aload_n dX3_faultOfNumber_0 rfl ?_
  refine WP_getr dX3_faultOfNumber_1 fX3_15 rfl (lyx_is hy 3 3 rfl) (rfx hr 3 2 1 (by decide)) ?_
  refine WQ_getiu dX3_faultOfNumber_4 fX3_118 rfl (lyx_is hy 1 5 rfl) (fun v6450 ev6450 => ?_)
  refine WP_istore (ls' := [(0, _), (1, _), (2, _), (3, _), (4, _), (5, _)]) dX3_faultOfNumber_7 (by decide) rfl ?_
  refine WP_iload dX3_faultOfNumber_9 rfl ?_
  refine WP_iload_n dX3_faultOfNumber_11 rfl ?_
  refine WP_callS1 dX3_faultOfNumber_12 ⟨⟨⟨by decide, by decide⟩, zX3_leastOf⟩, lX3_121, tX3_leastOf⟩ (sx_leastOf hy hr hI pa ) (Nat.le_of_ble_eq_true rfl) ?_
  intro r Ia Ja Ra hq
  obtain ⟨⟨ea, eb, ec⟩, v6451, rfl, av6451, bv6451⟩ := hq
  show WP _ _ _ _ (.int _ :: _) _ _ _ _
  rw [ea, eb, ec]
  clear ea eb ec Ia Ja Ra
  refine WQ_icmp_lt 27 dX3_faultOfNumber_15 rfl (fun c6451 => ?_) (fun c6451 => ?_)
  · refine WQ_iconst (2) (2) dX3_faultOfNumber_27 rfl rfl (fun v6453 hv6453 => ?_)
    obtain ⟨w6454, ew6454⟩ : ∃ w : Int32, I (ad g 4) 1 = w := ⟨_, rfl⟩
    have bw6454 := BT_get hI.1 4 0 5 (0) (0) (1000) (by decide) 1 (by decide) (by decide)
    rw [ew6454] at bw6454
    exact WP_iret dX3_faultOfNumber_28 rfl ⟨⟨hI, rfl, ⟨trivial, rfl, rfl, rfl⟩⟩, _, rfl, by omega, by omega, by (try rw [ew6454]); omega⟩
  · refine WP_iload dX3_faultOfNumber_18 rfl ?_
    refine WP_iload_n dX3_faultOfNumber_20 rfl ?_
    refine WP_callS1 dX3_faultOfNumber_21 ⟨⟨⟨by decide, by decide⟩, zX3_mostOf⟩, lX3_125, tX3_mostOf⟩ (sx_mostOf hy hr hI pa ) (Nat.le_of_ble_eq_true rfl) ?_
    intro r Ia Ja Ra hq
    obtain ⟨⟨ea, eb, ec⟩, v6455, rfl, av6455, bv6455, cv6455⟩ := hq
    show WP _ _ _ _ (.int _ :: _) _ _ _ _
    rw [ea, eb, ec]
    clear ea eb ec Ia Ja Ra
    refine WQ_icmp_le 29 dX3_faultOfNumber_24 rfl (fun c6455 => ?_) (fun c6455 => ?_)
    · refine WP_aload_n dX3_faultOfNumber_29 rfl ?_
      refine WP_getr dX3_faultOfNumber_30 fX3_9 rfl (lyx_is hy 3 3 rfl) (rfx hr 3 3 4 (by decide)) ?_
      refine WP_iload_n dX3_faultOfNumber_33 rfl ?_
      refine WP_iload dX3_faultOfNumber_34 rfl ?_
      refine WQ_iast dX3_faultOfNumber_36 (lyx_is hy 4 13 rfl) (lyx_n hy 4 5 rfl) (by omega) (by omega) (fun I6457 fI6457 => ?_)
      have eI6457 := fI6457
      rw [cl (x := ix) (n := 1) (by omega)] at eI6457
      clear fI6457
      have hI6457 : XI g n L I6457 := by rw [eI6457]; exact (xi_f hy hI (c := 4) (0) (0) (1000) (by decide) (Or.inl (by decide)) (by decide) (by omega) (by omega))
      have e6458 : I6457 (ad g 1) 1 = L := by rw [eI6457, pp_ne _ _ (Or.inl (lyx_ne hy (by decide) (by decide) (by decide)))]; exact e6445
      have e6459 : I6457 (ad g 4) 0 = w6447 := by rw [eI6457, pp_ne _ _ (Or.inr (by decide))]; exact ew6447
      have e6460 : I6457 (ad g 27) 1 = w6448 := by rw [eI6457, pp_ne _ _ (Or.inl (lyx_ne hy (by decide) (by decide) (by decide)))]; exact ew6448
      have e6461 : I6457 (ad g 27) 2 = w6449 := by rw [eI6457, pp_ne _ _ (Or.inl (lyx_ne hy (by decide) (by decide) (by decide)))]; exact ew6449
      have e6462 : I6457 (ad g 1) 4 = v6450 := by rw [eI6457, pp_ne _ _ (Or.inl (lyx_ne hy (by decide) (by decide) (by decide)))]; exact ev6450
      have e6463 : I6457 (ad g 4) 1 = v6450 := by rw [eI6457, pp_self]
      clear eI6457
      refine WP_iload_n dX3_faultOfNumber_37 rfl ?_
      refine WQ_bipush (68) (68) dX3_faultOfNumber_38 rfl rfl (fun v6464 hv6464 => ?_)
      refine WQ_icmp_eq 45 dX3_faultOfNumber_40 rfl (fun c6464 => ?_) (fun c6464 => False.elim (by omega))
      refine WP_aload dX3_faultOfNumber_45 rfl ?_
      refine WP_iload_n dX3_faultOfNumber_47 rfl ?_
      refine WP_iload_n dX3_faultOfNumber_48 rfl ?_
      refine WQ_if_ne 56 dX3_faultOfNumber_49 rfl (fun c6465 => ?_) (fun c6465 => False.elim (by omega))
      refine WP_aload_n dX3_faultOfNumber_56 rfl ?_
      refine WP_getr dX3_faultOfNumber_57 fX3_9 rfl (lyx_is hy 3 3 rfl) (rfx hr 3 3 4 (by decide)) ?_
      refine WQ_iconst (0) (0) dX3_faultOfNumber_60 rfl rfl (fun v6467 hv6467 => ?_)
      refine WQ_ialdm (z := 0) dX3_faultOfNumber_61 (lyx_is hy 4 13 rfl) (lyx_n hy 4 5 rfl) hv6467 (by decide) e6459 ?_
      refine WP_iload dX3_faultOfNumber_62 rfl ?_
      refine WP_callV3 (k := 7) dX3_faultOfNumber_64 ⟨⟨⟨by decide, by decide⟩, zX7_isTold⟩, lX3_114, by decide, rfl, vX7_isTold.1, vX7_isTold.2⟩ (lyx_is hy 27 7 rfl) (sx_isTold_27 hy hr hI6457 cz w6447 v6450 (by omega) (by omega) (by omega) (by omega) ) (Nat.le_of_ble_eq_true rfl) ?_
      intro r Ia Ja Ra hq
      obtain ⟨⟨ea, eb, ec⟩, v6469, rfl, av6469, bv6469⟩ := hq
      show WP _ _ _ _ (.int _ :: _) _ _ _ _
      rw [ea, eb, ec]
      clear ea eb ec Ia Ja Ra
      refine WQ_if_eq 74 dX3_faultOfNumber_67 rfl (fun c6469 => ?_) (fun c6469 => ?_)
      · refine WQ_iconst (0) (0) dX3_faultOfNumber_74 rfl rfl (fun v6471 hv6471 => ?_)
        exact WP_iret dX3_faultOfNumber_75 rfl ⟨⟨hI6457, rfl, ⟨trivial, (by rw [e6459, ew6447] <;> exact (eq32 _ _).mpr (by omega)), (by rw [e6460, ew6448] <;> exact (eq32 _ _).mpr (by omega)), (by rw [e6461, ew6449] <;> exact (eq32 _ _).mpr (by omega))⟩⟩, _, rfl, by omega, by omega, by (try rw [e6463]); omega⟩
      · refine WQ_iconst (3) (3) dX3_faultOfNumber_70 rfl rfl (fun v6472 hv6472 => ?_)
        refine WP_goto 75 dX3_faultOfNumber_71 rfl ?_
        exact WP_iret dX3_faultOfNumber_75 rfl ⟨⟨hI6457, rfl, ⟨trivial, (by rw [e6459, ew6447] <;> exact (eq32 _ _).mpr (by omega)), (by rw [e6460, ew6448] <;> exact (eq32 _ _).mpr (by omega)), (by rw [e6461, ew6449] <;> exact (eq32 _ _).mpr (by omega))⟩⟩, _, rfl, by omega, by omega, by (try rw [e6463]); omega⟩
    · refine WQ_iconst (2) (2) dX3_faultOfNumber_27 rfl rfl (fun v6473 hv6473 => ?_)
      obtain ⟨w6474, ew6474⟩ : ∃ w : Int32, I (ad g 4) 1 = w := ⟨_, rfl⟩
      have bw6474 := BT_get hI.1 4 0 5 (0) (0) (1000) (by decide) 1 (by decide) (by decide)
      rw [ew6474] at bw6474
      exact WP_iret dX3_faultOfNumber_28 rfl ⟨⟨hI, rfl, ⟨trivial, rfl, rfl, rfl⟩⟩, _, rfl, by omega, by omega, by (try rw [ew6474]); omega⟩
set_option maxHeartbeats 4000000 in
set_option maxRecDepth 100000 in
theorem sx_part_27_3_2 {g : GG} {n : Int} {L : Int32} (hy : LyX g)  {I : pI} {J : pJ} {R : pR} (hr : RfX g R) (hI : XI g n L I) (pa : Int32) (cz : Int32) (ix : Int32) (pa_lo : 69 ≤ pa.toInt) (pa_hi : pa.toInt ≤ 69) (cz_lo : 3 ≤ cz.toInt) (cz_hi : cz.toInt ≤ 3) (ix_lo : 2 ≤ ix.toInt) (ix_hi : ix.toInt ≤ 2) : SP g mX3_faultOfNumber [.ref (ad g 3), .int pa, .int cz, .int ix, .ref (ad g 27)] I J R (fun r I' J' R' => (XI g n L I' ∧ R' = R ∧ True ∧ I' (ad g 4) 0 = I (ad g 4) 0 ∧ I' (ad g 4) 1 = I (ad g 4) 1 ∧ I' (ad g 27) 1 = I (ad g 27) 1 ∧ I' (ad g 27) 2 = I (ad g 27) 2) ∧ ∃ v : Int32, r = some (.int v) ∧ 0 ≤ v.toInt ∧ v.toInt ≤ 5 ∧ (v.toInt = 0 → (I' (ad g 4) 2).toInt ≤ 20)) := by
  refine SP_of ⟨by decide, rfl⟩ (Nat.le_of_ble_eq_true rfl) ?_
  have e6475 : I (ad g 1) 1 = L := hI.2
  have b6476 := BT_get hI.1 1 1 2 (0) (0) (900) (by decide) 1 (by decide) (by decide)
  rw [e6475] at b6476
  obtain ⟨w6477, ew6477⟩ : ∃ w : Int32, I (ad g 4) 0 = w := ⟨_, rfl⟩
  have bw6477 := BT_get hI.1 4 0 5 (0) (0) (1000) (by decide) 0 (by decide) (by decide)
  rw [ew6477] at bw6477
  obtain ⟨w6478, ew6478⟩ : ∃ w : Int32, I (ad g 4) 1 = w := ⟨_, rfl⟩
  have bw6478 := BT_get hI.1 4 0 5 (0) (0) (1000) (by decide) 1 (by decide) (by decide)
  rw [ew6478] at bw6478
  obtain ⟨w6479, ew6479⟩ : ∃ w : Int32, I (ad g 27) 1 = w := ⟨_, rfl⟩
  have bw6479 := BT_get hI.1 27 1 2 (0) (0) (4) (by decide) 1 (by decide) (by decide)
  rw [ew6479] at bw6479
  obtain ⟨w6480, ew6480⟩ : ∃ w : Int32, I (ad g 27) 2 = w := ⟨_, rfl⟩
  have bw6480 := BT_get hI.1 27 2 3 (0) (0) (3) (by decide) 2 (by decide) (by decide)
  rw [ew6480] at bw6480
  refine WP_aload_n dX3_faultOfNumber_0 rfl ?_
  refine WP_getr dX3_faultOfNumber_1 fX3_15 rfl (lyx_is hy 3 3 rfl) (rfx hr 3 2 1 (by decide)) ?_
  refine WQ_getiu dX3_faultOfNumber_4 fX3_118 rfl (lyx_is hy 1 5 rfl) (fun v6481 ev6481 => ?_)
  refine WP_istore (ls' := [(0, _), (1, _), (2, _), (3, _), (4, _), (5, _)]) dX3_faultOfNumber_7 (by decide) rfl ?_
  refine WP_iload dX3_faultOfNumber_9 rfl ?_
  refine WP_iload_n dX3_faultOfNumber_11 rfl ?_
  refine WP_callS1 dX3_faultOfNumber_12 ⟨⟨⟨by decide, by decide⟩, zX3_leastOf⟩, lX3_121, tX3_leastOf⟩ (sx_leastOf hy hr hI pa ) (Nat.le_of_ble_eq_true rfl) ?_
  intro r Ia Ja Ra hq
  obtain ⟨⟨ea, eb, ec⟩, v6482, rfl, av6482, bv6482⟩ := hq
  show WP _ _ _ _ (.int _ :: _) _ _ _ _
  rw [ea, eb, ec]
  clear ea eb ec Ia Ja Ra
  refine WQ_icmp_lt 27 dX3_faultOfNumber_15 rfl (fun c6482 => ?_) (fun c6482 => ?_)
  · refine WQ_iconst (2) (2) dX3_faultOfNumber_27 rfl rfl (fun v6484 hv6484 => ?_)
    obtain ⟨w6485, ew6485⟩ : ∃ w : Int32, I (ad g 4) 2 = w := ⟨_, rfl⟩
    have bw6485 := BT_get hI.1 4 0 5 (0) (0) (1000) (by decide) 2 (by decide) (by decide)
    rw [ew6485] at bw6485
    exact WP_iret dX3_faultOfNumber_28 rfl ⟨⟨hI, rfl, ⟨trivial, rfl, rfl, rfl, rfl⟩⟩, _, rfl, by omega, by omega, by (try rw [ew6485]); omega⟩
  · refine WP_iload dX3_faultOfNumber_18 rfl ?_
    refine WP_iload_n dX3_faultOfNumber_20 rfl ?_
    refine WP_callS1 dX3_faultOfNumber_21 ⟨⟨⟨by decide, by decide⟩, zX3_mostOf⟩, lX3_125, tX3_mostOf⟩ (sx_mostOf hy hr hI pa ) (Nat.le_of_ble_eq_true rfl) ?_
    intro r Ia Ja Ra hq
    obtain ⟨⟨ea, eb, ec⟩, v6486, rfl, av6486, bv6486, cv6486⟩ := hq
    show WP _ _ _ _ (.int _ :: _) _ _ _ _
    rw [ea, eb, ec]
    clear ea eb ec Ia Ja Ra
    refine WQ_icmp_le 29 dX3_faultOfNumber_24 rfl (fun c6486 => ?_) (fun c6486 => ?_)
    · refine WP_aload_n dX3_faultOfNumber_29 rfl ?_
      refine WP_getr dX3_faultOfNumber_30 fX3_9 rfl (lyx_is hy 3 3 rfl) (rfx hr 3 3 4 (by decide)) ?_
      refine WP_iload_n dX3_faultOfNumber_33 rfl ?_
      refine WP_iload dX3_faultOfNumber_34 rfl ?_
      refine WQ_iast dX3_faultOfNumber_36 (lyx_is hy 4 13 rfl) (lyx_n hy 4 5 rfl) (by omega) (by omega) (fun I6488 fI6488 => ?_)
      have eI6488 := fI6488
      rw [cl (x := ix) (n := 2) (by omega)] at eI6488
      clear fI6488
      have hI6488 : XI g n L I6488 := by rw [eI6488]; exact (xi_f hy hI (c := 4) (0) (0) (1000) (by decide) (Or.inl (by decide)) (by decide) (by omega) (by omega))
      have e6489 : I6488 (ad g 1) 1 = L := by rw [eI6488, pp_ne _ _ (Or.inl (lyx_ne hy (by decide) (by decide) (by decide)))]; exact e6475
      have e6490 : I6488 (ad g 4) 0 = w6477 := by rw [eI6488, pp_ne _ _ (Or.inr (by decide))]; exact ew6477
      have e6491 : I6488 (ad g 4) 1 = w6478 := by rw [eI6488, pp_ne _ _ (Or.inr (by decide))]; exact ew6478
      have e6492 : I6488 (ad g 27) 1 = w6479 := by rw [eI6488, pp_ne _ _ (Or.inl (lyx_ne hy (by decide) (by decide) (by decide)))]; exact ew6479
      have e6493 : I6488 (ad g 27) 2 = w6480 := by rw [eI6488, pp_ne _ _ (Or.inl (lyx_ne hy (by decide) (by decide) (by decide)))]; exact ew6480
      have e6494 : I6488 (ad g 1) 4 = v6481 := by rw [eI6488, pp_ne _ _ (Or.inl (lyx_ne hy (by decide) (by decide) (by decide)))]; exact ev6481
      have e6495 : I6488 (ad g 4) 2 = v6481 := by rw [eI6488, pp_self]
      clear eI6488
      refine WP_iload_n dX3_faultOfNumber_37 rfl ?_
      refine WQ_bipush (68) (68) dX3_faultOfNumber_38 rfl rfl (fun v6496 hv6496 => ?_)
      refine WQ_icmp_eq 45 dX3_faultOfNumber_40 rfl (fun c6496 => False.elim (by omega)) (fun c6496 => ?_)
      refine WQ_iconst (0) (0) dX3_faultOfNumber_43 rfl rfl (fun v6498 hv6498 => ?_)
      exact WP_iret dX3_faultOfNumber_44 rfl ⟨⟨hI6488, rfl, ⟨trivial, (by rw [e6490, ew6477] <;> exact (eq32 _ _).mpr (by omega)), (by rw [e6491, ew6478] <;> exact (eq32 _ _).mpr (by omega)), (by rw [e6492, ew6479] <;> exact (eq32 _ _).mpr (by omega)), (by rw [e6493, ew6480] <;> exact (eq32 _ _).mpr (by omega))⟩⟩, _, rfl, by omega, by omega, by (try rw [e6495]); omega⟩
    · refine WQ_iconst (2) (2) dX3_faultOfNumber_27 rfl rfl (fun v6499 hv6499 => ?_)
      obtain ⟨w6500, ew6500⟩ : ∃ w : Int32, I (ad g 4) 2 = w := ⟨_, rfl⟩
      have bw6500 := BT_get hI.1 4 0 5 (0) (0) (1000) (by decide) 2 (by decide) (by decide)
      rw [ew6500] at bw6500
      exact WP_iret dX3_faultOfNumber_28 rfl ⟨⟨hI, rfl, ⟨trivial, rfl, rfl, rfl, rfl⟩⟩, _, rfl, by omega, by omega, by (try rw [ew6500]); omega⟩
set_option maxHeartbeats 4000000 in
set_option maxRecDepth 100000 in
theorem sx_part_27_4_0 {g : GG} {n : Int} {L : Int32} (hy : LyX g)  {I : pI} {J : pJ} {R : pR} (hr : RfX g R) (hI : XI g n L I) (pa : Int32) (cz : Int32) (ix : Int32) (pa_lo : 116 ≤ pa.toInt) (pa_hi : pa.toInt ≤ 116) (cz_lo : 4 ≤ cz.toInt) (cz_hi : cz.toInt ≤ 4) (ix_lo : 0 ≤ ix.toInt) (ix_hi : ix.toInt ≤ 0) : SP g mX3_faultOfName [.ref (ad g 3), .int pa, .int cz, .int ix, .ref (ad g 27)] I J R (fun r I' J' R' => (XI g n L I' ∧ R' = R ∧ True ∧ I' (ad g 27) 1 = I (ad g 27) 1 ∧ I' (ad g 27) 2 = I (ad g 27) 2) ∧ ∃ v : Int32, r = some (.int v) ∧ 0 ≤ v.toInt ∧ v.toInt ≤ 5 ∧ (v.toInt = 0 → (I' (ad g 4) 0).toInt ≤ 2)) := by
  refine SP_of ⟨by decide, rfl⟩ (Nat.le_of_ble_eq_true rfl) ?_
  have e6501 : I (ad g 1) 1 = L := hI.2
  have b6502 := BT_get hI.1 1 1 2 (0) (0) (900) (by decide) 1 (by decide) (by decide)
  rw [e6501] at b6502
  obtain ⟨w6503, ew6503⟩ : ∃ w : Int32, I (ad g 27) 1 = w := ⟨_, rfl⟩
  have bw6503 := BT_get hI.1 27 1 2 (0) (0) (4) (by decide) 1 (by decide) (by decide)
  rw [ew6503] at bw6503
  obtain ⟨w6504, ew6504⟩ : ∃ w : Int32, I (ad g 27) 2 = w := ⟨_, rfl⟩
  have bw6504 := BT_get hI.1 27 2 3 (0) (0) (3) (by decide) 2 (by decide) (by decide)
  rw [ew6504] at bw6504
  refine WP_iload_n dX3_faultOfName_0 rfl ?_
  refine WQ_bipush (115) (115) dX3_faultOfName_1 rfl rfl (fun v6505 hv6505 => ?_)
  refine WQ_icmp_eq 12 dX3_faultOfName_3 rfl (fun c6505 => False.elim (by omega)) (fun c6505 => ?_)
  refine WP_iload_n dX3_faultOfName_6 rfl ?_
  refine WQ_bipush (110) (110) dX3_faultOfName_7 rfl rfl (fun v6507 hv6507 => ?_)
  refine WQ_icmp_ne 16 dX3_faultOfName_9 rfl (fun c6507 => ?_) (fun c6507 => False.elim (by omega))
  refine WQ_iconst (0) (0) dX3_faultOfName_16 rfl rfl (fun v6509 hv6509 => ?_)
  refine WP_istore (ls' := [(0, _), (1, _), (2, _), (3, _), (4, _), (5, _)]) dX3_faultOfName_17 (by decide) rfl ?_
  refine WP_iload dX3_faultOfName_19 rfl ?_
  refine WQ_if_eq 39 dX3_faultOfName_21 rfl (fun c6509 => ?_) (fun c6509 => False.elim (by omega))
  refine WP_aload dX3_faultOfName_39 rfl ?_
  refine WP_aload_n dX3_faultOfName_41 rfl ?_
  refine WP_getr dX3_faultOfName_42 fX3_15 rfl (lyx_is hy 3 3 rfl) (rfx hr 3 2 1 (by decide)) ?_
  refine WQ_getl dX3_faultOfName_45 fX3_80 rfl (lyx_is hy 1 5 rfl) (fun l6511 el6511 => ?_)
  refine WP_callV1 (k := 7) dX3_faultOfName_48 ⟨⟨⟨by decide, by decide⟩, zX7_thingNamed⟩, lX3_107, by decide, rfl, vX7_thingNamed.1, vX7_thingNamed.2⟩ (lyx_is hy 27 7 rfl) (sx_thingNamed_27 hy hr hI l6511 ) (Nat.le_of_ble_eq_true rfl) ?_
  intro r Ia Ja Ra hq
  obtain ⟨⟨ea, eb, ec⟩, v6512, rfl, av6512, bv6512⟩ := hq
  show WP _ _ _ _ (.int _ :: _) _ _ _ _
  rw [ea, eb, ec]
  clear ea eb ec Ia Ja Ra
  refine WP_istore (ls' := [(0, _), (1, _), (2, _), (3, _), (4, _), (5, _), (6, _)]) dX3_faultOfName_51 (by decide) rfl ?_
  refine WP_iload_n dX3_faultOfName_53 rfl ?_
  refine WQ_bipush (110) (110) dX3_faultOfName_54 rfl rfl (fun v6513 hv6513 => ?_)
  refine WQ_icmp_eq 65 dX3_faultOfName_56 rfl (fun c6513 => False.elim (by omega)) (fun c6513 => ?_)
  refine WP_iload_n dX3_faultOfName_59 rfl ?_
  refine WQ_bipush (109) (109) dX3_faultOfName_60 rfl rfl (fun v6515 hv6515 => ?_)
  refine WQ_icmp_ne 98 dX3_faultOfName_62 rfl (fun c6515 => ?_) (fun c6515 => False.elim (by omega))
  refine WP_iload dX3_faultOfName_98 rfl ?_
  refine WQ_iconst (-1) (-1) dX3_faultOfName_100 rfl rfl (fun v6517 hv6517 => ?_)
  refine WQ_icmp_ne 106 dX3_faultOfName_101 rfl (fun c6517 => ?_) (fun c6517 => ?_)
  · refine WP_aload_n dX3_faultOfName_106 rfl ?_
    refine WP_getr dX3_faultOfName_107 fX3_9 rfl (lyx_is hy 3 3 rfl) (rfx hr 3 3 4 (by decide)) ?_
    refine WP_iload_n dX3_faultOfName_110 rfl ?_
    refine WP_iload dX3_faultOfName_111 rfl ?_
    refine WQ_iast dX3_faultOfName_113 (lyx_is hy 4 13 rfl) (lyx_n hy 4 5 rfl) (by omega) (by omega) (fun I6519 fI6519 => ?_)
    have eI6519 := fI6519
    rw [cl (x := ix) (n := 0) (by omega)] at eI6519
    clear fI6519
    have hI6519 : XI g n L I6519 := by rw [eI6519]; exact (xi_f hy hI (c := 4) (0) (0) (1000) (by decide) (Or.inl (by decide)) (by decide) (by omega) (by omega))
    have e6520 : I6519 (ad g 1) 1 = L := by rw [eI6519, pp_ne _ _ (Or.inl (lyx_ne hy (by decide) (by decide) (by decide)))]; exact e6501
    have e6521 : I6519 (ad g 27) 1 = w6503 := by rw [eI6519, pp_ne _ _ (Or.inl (lyx_ne hy (by decide) (by decide) (by decide)))]; exact ew6503
    have e6522 : I6519 (ad g 27) 2 = w6504 := by rw [eI6519, pp_ne _ _ (Or.inl (lyx_ne hy (by decide) (by decide) (by decide)))]; exact ew6504
    have e6523 : I6519 (ad g 4) 0 = v6512 := by rw [eI6519, pp_self]
    clear eI6519
    refine WP_iload_n dX3_faultOfName_114 rfl ?_
    refine WQ_bipush (7) (7) dX3_faultOfName_115 rfl rfl (fun v6524 hv6524 => ?_)
    refine WQ_icmp_ne 137 dX3_faultOfName_117 rfl (fun c6524 => ?_) (fun c6524 => False.elim (by omega))
    refine WQ_iconst (0) (0) dX3_faultOfName_137 rfl rfl (fun v6526 hv6526 => ?_)
    exact WP_iret dX3_faultOfName_138 rfl ⟨⟨hI6519, rfl, ⟨trivial, (by rw [e6521, ew6503] <;> exact (eq32 _ _).mpr (by omega)), (by rw [e6522, ew6504] <;> exact (eq32 _ _).mpr (by omega))⟩⟩, _, rfl, by omega, by omega, by (try rw [e6523]); omega⟩
  · refine WQ_iconst (5) (5) dX3_faultOfName_104 rfl rfl (fun v6527 hv6527 => ?_)
    obtain ⟨w6528, ew6528⟩ : ∃ w : Int32, I (ad g 4) 0 = w := ⟨_, rfl⟩
    have bw6528 := BT_get hI.1 4 0 5 (0) (0) (1000) (by decide) 0 (by decide) (by decide)
    rw [ew6528] at bw6528
    exact WP_iret dX3_faultOfName_105 rfl ⟨⟨hI, rfl, ⟨trivial, rfl, rfl⟩⟩, _, rfl, by omega, by omega, by (try rw [ew6528]); omega⟩
set_option maxHeartbeats 4000000 in
set_option maxRecDepth 100000 in
theorem sx_part_27_4_1 {g : GG} {n : Int} {L : Int32} (hy : LyX g)  {I : pI} {J : pJ} {R : pR} (hr : RfX g R) (hI : XI g n L I) (pa : Int32) (cz : Int32) (ix : Int32) (pa_lo : 68 ≤ pa.toInt) (pa_hi : pa.toInt ≤ 68) (cz_lo : 4 ≤ cz.toInt) (cz_hi : cz.toInt ≤ 4) (ix_lo : 1 ≤ ix.toInt) (ix_hi : ix.toInt ≤ 1) (hb : (I (ad g 4) 0).toInt ≤ 3) : SP g mX3_faultOfNumber [.ref (ad g 3), .int pa, .int cz, .int ix, .ref (ad g 27)] I J R (fun r I' J' R' => (XI g n L I' ∧ R' = R ∧ True ∧ I' (ad g 4) 0 = I (ad g 4) 0 ∧ I' (ad g 27) 1 = I (ad g 27) 1 ∧ I' (ad g 27) 2 = I (ad g 27) 2) ∧ ∃ v : Int32, r = some (.int v) ∧ 0 ≤ v.toInt ∧ v.toInt ≤ 5 ∧ (v.toInt = 0 → (I' (ad g 4) 1).toInt ≤ 6)) := by
  refine SP_of ⟨by decide, rfl⟩ (Nat.le_of_ble_eq_true rfl) ?_
  have e6529 : I (ad g 1) 1 = L := hI.2
  have b6530 := BT_get hI.1 1 1 2 (0) (0) (900) (by decide) 1 (by decide) (by decide)
  rw [e6529] at b6530
  obtain ⟨w6531, ew6531⟩ : ∃ w : Int32, I (ad g 4) 0 = w := ⟨_, rfl⟩
  have bw6531 := BT_get hI.1 4 0 5 (0) (0) (1000) (by decide) 0 (by decide) (by decide)
  rw [ew6531] at bw6531
  obtain ⟨w6532, ew6532⟩ : ∃ w : Int32, I (ad g 27) 1 = w := ⟨_, rfl⟩
  have bw6532 := BT_get hI.1 27 1 2 (0) (0) (4) (by decide) 1 (by decide) (by decide)
  rw [ew6532] at bw6532
  obtain ⟨w6533, ew6533⟩ : ∃ w : Int32, I (ad g 27) 2 = w := ⟨_, rfl⟩
  have bw6533 := BT_get hI.1 27 2 3 (0) (0) (3) (by decide) 2 (by decide) (by decide)
  rw [ew6533] at bw6533
  rw [ew6531] at hb
  refine WP_aload_n dX3_faultOfNumber_0 rfl ?_
  refine WP_getr dX3_faultOfNumber_1 fX3_15 rfl (lyx_is hy 3 3 rfl) (rfx hr 3 2 1 (by decide)) ?_
  refine WQ_getiu dX3_faultOfNumber_4 fX3_118 rfl (lyx_is hy 1 5 rfl) (fun v6534 ev6534 => ?_)
  refine WP_istore (ls' := [(0, _), (1, _), (2, _), (3, _), (4, _), (5, _)]) dX3_faultOfNumber_7 (by decide) rfl ?_
  refine WP_iload dX3_faultOfNumber_9 rfl ?_
  refine WP_iload_n dX3_faultOfNumber_11 rfl ?_
  refine WP_callS1 dX3_faultOfNumber_12 ⟨⟨⟨by decide, by decide⟩, zX3_leastOf⟩, lX3_121, tX3_leastOf⟩ (sx_leastOf hy hr hI pa ) (Nat.le_of_ble_eq_true rfl) ?_
  intro r Ia Ja Ra hq
  obtain ⟨⟨ea, eb, ec⟩, v6535, rfl, av6535, bv6535⟩ := hq
  show WP _ _ _ _ (.int _ :: _) _ _ _ _
  rw [ea, eb, ec]
  clear ea eb ec Ia Ja Ra
  refine WQ_icmp_lt 27 dX3_faultOfNumber_15 rfl (fun c6535 => ?_) (fun c6535 => ?_)
  · refine WQ_iconst (2) (2) dX3_faultOfNumber_27 rfl rfl (fun v6537 hv6537 => ?_)
    obtain ⟨w6538, ew6538⟩ : ∃ w : Int32, I (ad g 4) 1 = w := ⟨_, rfl⟩
    have bw6538 := BT_get hI.1 4 0 5 (0) (0) (1000) (by decide) 1 (by decide) (by decide)
    rw [ew6538] at bw6538
    exact WP_iret dX3_faultOfNumber_28 rfl ⟨⟨hI, rfl, ⟨trivial, rfl, rfl, rfl⟩⟩, _, rfl, by omega, by omega, by (try rw [ew6538]); omega⟩
  · refine WP_iload dX3_faultOfNumber_18 rfl ?_
    refine WP_iload_n dX3_faultOfNumber_20 rfl ?_
    refine WP_callS1 dX3_faultOfNumber_21 ⟨⟨⟨by decide, by decide⟩, zX3_mostOf⟩, lX3_125, tX3_mostOf⟩ (sx_mostOf hy hr hI pa ) (Nat.le_of_ble_eq_true rfl) ?_
    intro r Ia Ja Ra hq
    obtain ⟨⟨ea, eb, ec⟩, v6539, rfl, av6539, bv6539, cv6539⟩ := hq
    show WP _ _ _ _ (.int _ :: _) _ _ _ _
    rw [ea, eb, ec]
    clear ea eb ec Ia Ja Ra
    refine WQ_icmp_le 29 dX3_faultOfNumber_24 rfl (fun c6539 => ?_) (fun c6539 => ?_)
    · refine WP_aload_n dX3_faultOfNumber_29 rfl ?_
      refine WP_getr dX3_faultOfNumber_30 fX3_9 rfl (lyx_is hy 3 3 rfl) (rfx hr 3 3 4 (by decide)) ?_
      refine WP_iload_n dX3_faultOfNumber_33 rfl ?_
      refine WP_iload dX3_faultOfNumber_34 rfl ?_
      refine WQ_iast dX3_faultOfNumber_36 (lyx_is hy 4 13 rfl) (lyx_n hy 4 5 rfl) (by omega) (by omega) (fun I6541 fI6541 => ?_)
      have eI6541 := fI6541
      rw [cl (x := ix) (n := 1) (by omega)] at eI6541
      clear fI6541
      have hI6541 : XI g n L I6541 := by rw [eI6541]; exact (xi_f hy hI (c := 4) (0) (0) (1000) (by decide) (Or.inl (by decide)) (by decide) (by omega) (by omega))
      have e6542 : I6541 (ad g 1) 1 = L := by rw [eI6541, pp_ne _ _ (Or.inl (lyx_ne hy (by decide) (by decide) (by decide)))]; exact e6529
      have e6543 : I6541 (ad g 4) 0 = w6531 := by rw [eI6541, pp_ne _ _ (Or.inr (by decide))]; exact ew6531
      have e6544 : I6541 (ad g 27) 1 = w6532 := by rw [eI6541, pp_ne _ _ (Or.inl (lyx_ne hy (by decide) (by decide) (by decide)))]; exact ew6532
      have e6545 : I6541 (ad g 27) 2 = w6533 := by rw [eI6541, pp_ne _ _ (Or.inl (lyx_ne hy (by decide) (by decide) (by decide)))]; exact ew6533
      have e6546 : I6541 (ad g 1) 4 = v6534 := by rw [eI6541, pp_ne _ _ (Or.inl (lyx_ne hy (by decide) (by decide) (by decide)))]; exact ev6534
      have e6547 : I6541 (ad g 4) 1 = v6534 := by rw [eI6541, pp_self]
      clear eI6541
      refine WP_iload_n dX3_faultOfNumber_37 rfl ?_
      refine WQ_bipush (68) (68) dX3_faultOfNumber_38 rfl rfl (fun v6548 hv6548 => ?_)
      refine WQ_icmp_eq 45 dX3_faultOfNumber_40 rfl (fun c6548 => ?_) (fun c6548 => False.elim (by omega))
      refine WP_aload dX3_faultOfNumber_45 rfl ?_
      refine WP_iload_n dX3_faultOfNumber_47 rfl ?_
      refine WP_iload_n dX3_faultOfNumber_48 rfl ?_
      refine WQ_if_ne 56 dX3_faultOfNumber_49 rfl (fun c6549 => ?_) (fun c6549 => False.elim (by omega))
      refine WP_aload_n dX3_faultOfNumber_56 rfl ?_
      refine WP_getr dX3_faultOfNumber_57 fX3_9 rfl (lyx_is hy 3 3 rfl) (rfx hr 3 3 4 (by decide)) ?_
      refine WQ_iconst (0) (0) dX3_faultOfNumber_60 rfl rfl (fun v6551 hv6551 => ?_)
      refine WQ_ialdm (z := 0) dX3_faultOfNumber_61 (lyx_is hy 4 13 rfl) (lyx_n hy 4 5 rfl) hv6551 (by decide) e6543 ?_
      refine WP_iload dX3_faultOfNumber_62 rfl ?_
      refine WP_callV3 (k := 7) dX3_faultOfNumber_64 ⟨⟨⟨by decide, by decide⟩, zX7_isTold⟩, lX3_114, by decide, rfl, vX7_isTold.1, vX7_isTold.2⟩ (lyx_is hy 27 7 rfl) (sx_isTold_27 hy hr hI6541 cz w6531 v6534 (by omega) (by omega) (by omega) (by omega) ) (Nat.le_of_ble_eq_true rfl) ?_
      intro r Ia Ja Ra hq
      obtain ⟨⟨ea, eb, ec⟩, v6553, rfl, av6553, bv6553⟩ := hq
      show WP _ _ _ _ (.int _ :: _) _ _ _ _
      rw [ea, eb, ec]
      clear ea eb ec Ia Ja Ra
      refine WQ_if_eq 74 dX3_faultOfNumber_67 rfl (fun c6553 => ?_) (fun c6553 => ?_)
      · refine WQ_iconst (0) (0) dX3_faultOfNumber_74 rfl rfl (fun v6555 hv6555 => ?_)
        exact WP_iret dX3_faultOfNumber_75 rfl ⟨⟨hI6541, rfl, ⟨trivial, (by rw [e6543, ew6531] <;> exact (eq32 _ _).mpr (by omega)), (by rw [e6544, ew6532] <;> exact (eq32 _ _).mpr (by omega)), (by rw [e6545, ew6533] <;> exact (eq32 _ _).mpr (by omega))⟩⟩, _, rfl, by omega, by omega, by (try rw [e6547]); omega⟩
      · refine WQ_iconst (3) (3) dX3_faultOfNumber_70 rfl rfl (fun v6556 hv6556 => ?_)
        refine WP_goto 75 dX3_faultOfNumber_71 rfl ?_
        exact WP_iret dX3_faultOfNumber_75 rfl ⟨⟨hI6541, rfl, ⟨trivial, (by rw [e6543, ew6531] <;> exact (eq32 _ _).mpr (by omega)), (by rw [e6544, ew6532] <;> exact (eq32 _ _).mpr (by omega)), (by rw [e6545, ew6533] <;> exact (eq32 _ _).mpr (by omega))⟩⟩, _, rfl, by omega, by omega, by (try rw [e6547]); omega⟩
    · refine WQ_iconst (2) (2) dX3_faultOfNumber_27 rfl rfl (fun v6557 hv6557 => ?_)
      obtain ⟨w6558, ew6558⟩ : ∃ w : Int32, I (ad g 4) 1 = w := ⟨_, rfl⟩
      have bw6558 := BT_get hI.1 4 0 5 (0) (0) (1000) (by decide) 1 (by decide) (by decide)
      rw [ew6558] at bw6558
      exact WP_iret dX3_faultOfNumber_28 rfl ⟨⟨hI, rfl, ⟨trivial, rfl, rfl, rfl⟩⟩, _, rfl, by omega, by omega, by (try rw [ew6558]); omega⟩
set_option maxHeartbeats 4000000 in
set_option maxRecDepth 100000 in
theorem sx_part_27_4_2 {g : GG} {n : Int} {L : Int32} (hy : LyX g)  {I : pI} {J : pJ} {R : pR} (hr : RfX g R) (hI : XI g n L I) (pa : Int32) (cz : Int32) (ix : Int32) (pa_lo : 69 ≤ pa.toInt) (pa_hi : pa.toInt ≤ 69) (cz_lo : 4 ≤ cz.toInt) (cz_hi : cz.toInt ≤ 4) (ix_lo : 2 ≤ ix.toInt) (ix_hi : ix.toInt ≤ 2) : SP g mX3_faultOfNumber [.ref (ad g 3), .int pa, .int cz, .int ix, .ref (ad g 27)] I J R (fun r I' J' R' => (XI g n L I' ∧ R' = R ∧ True ∧ I' (ad g 4) 0 = I (ad g 4) 0 ∧ I' (ad g 4) 1 = I (ad g 4) 1 ∧ I' (ad g 27) 1 = I (ad g 27) 1 ∧ I' (ad g 27) 2 = I (ad g 27) 2) ∧ ∃ v : Int32, r = some (.int v) ∧ 0 ≤ v.toInt ∧ v.toInt ≤ 5 ∧ (v.toInt = 0 → (I' (ad g 4) 2).toInt ≤ 20)) := by
  refine SP_of ⟨by decide, rfl⟩ (Nat.le_of_ble_eq_true rfl) ?_
  have e6559 : I (ad g 1) 1 = L := hI.2
  have b6560 := BT_get hI.1 1 1 2 (0) (0) (900) (by decide) 1 (by decide) (by decide)
  rw [e6559] at b6560
  obtain ⟨w6561, ew6561⟩ : ∃ w : Int32, I (ad g 4) 0 = w := ⟨_, rfl⟩
  have bw6561 := BT_get hI.1 4 0 5 (0) (0) (1000) (by decide) 0 (by decide) (by decide)
  rw [ew6561] at bw6561
  obtain ⟨w6562, ew6562⟩ : ∃ w : Int32, I (ad g 4) 1 = w := ⟨_, rfl⟩
  have bw6562 := BT_get hI.1 4 0 5 (0) (0) (1000) (by decide) 1 (by decide) (by decide)
  rw [ew6562] at bw6562
  obtain ⟨w6563, ew6563⟩ : ∃ w : Int32, I (ad g 27) 1 = w := ⟨_, rfl⟩
  have bw6563 := BT_get hI.1 27 1 2 (0) (0) (4) (by decide) 1 (by decide) (by decide)
  rw [ew6563] at bw6563
  obtain ⟨w6564, ew6564⟩ : ∃ w : Int32, I (ad g 27) 2 = w := ⟨_, rfl⟩
  have bw6564 := BT_get hI.1 27 2 3 (0) (0) (3) (by decide) 2 (by decide) (by decide)
  rw [ew6564] at bw6564
  refine WP_aload_n dX3_faultOfNumber_0 rfl ?_
  refine WP_getr dX3_faultOfNumber_1 fX3_15 rfl (lyx_is hy 3 3 rfl) (rfx hr 3 2 1 (by decide)) ?_
  refine WQ_getiu dX3_faultOfNumber_4 fX3_118 rfl (lyx_is hy 1 5 rfl) (fun v6565 ev6565 => ?_)
  refine WP_istore (ls' := [(0, _), (1, _), (2, _), (3, _), (4, _), (5, _)]) dX3_faultOfNumber_7 (by decide) rfl ?_
  refine WP_iload dX3_faultOfNumber_9 rfl ?_
  refine WP_iload_n dX3_faultOfNumber_11 rfl ?_
  refine WP_callS1 dX3_faultOfNumber_12 ⟨⟨⟨by decide, by decide⟩, zX3_leastOf⟩, lX3_121, tX3_leastOf⟩ (sx_leastOf hy hr hI pa ) (Nat.le_of_ble_eq_true rfl) ?_
  intro r Ia Ja Ra hq
  obtain ⟨⟨ea, eb, ec⟩, v6566, rfl, av6566, bv6566⟩ := hq
  show WP _ _ _ _ (.int _ :: _) _ _ _ _
  rw [ea, eb, ec]
  clear ea eb ec Ia Ja Ra
  refine WQ_icmp_lt 27 dX3_faultOfNumber_15 rfl (fun c6566 => ?_) (fun c6566 => ?_)
  · refine WQ_iconst (2) (2) dX3_faultOfNumber_27 rfl rfl (fun v6568 hv6568 => ?_)
    obtain ⟨w6569, ew6569⟩ : ∃ w : Int32, I (ad g 4) 2 = w := ⟨_, rfl⟩
    have bw6569 := BT_get hI.1 4 0 5 (0) (0) (1000) (by decide) 2 (by decide) (by decide)
    rw [ew6569] at bw6569
    exact WP_iret dX3_faultOfNumber_28 rfl ⟨⟨hI, rfl, ⟨trivial, rfl, rfl, rfl, rfl⟩⟩, _, rfl, by omega, by omega, by (try rw [ew6569]); omega⟩
  · refine WP_iload dX3_faultOfNumber_18 rfl ?_
    refine WP_iload_n dX3_faultOfNumber_20 rfl ?_
    refine WP_callS1 dX3_faultOfNumber_21 ⟨⟨⟨by decide, by decide⟩, zX3_mostOf⟩, lX3_125, tX3_mostOf⟩ (sx_mostOf hy hr hI pa ) (Nat.le_of_ble_eq_true rfl) ?_
    intro r Ia Ja Ra hq
    obtain ⟨⟨ea, eb, ec⟩, v6570, rfl, av6570, bv6570, cv6570⟩ := hq
    show WP _ _ _ _ (.int _ :: _) _ _ _ _
    rw [ea, eb, ec]
    clear ea eb ec Ia Ja Ra
    refine WQ_icmp_le 29 dX3_faultOfNumber_24 rfl (fun c6570 => ?_) (fun c6570 => ?_)
    · refine WP_aload_n dX3_faultOfNumber_29 rfl ?_
      refine WP_getr dX3_faultOfNumber_30 fX3_9 rfl (lyx_is hy 3 3 rfl) (rfx hr 3 3 4 (by decide)) ?_
      refine WP_iload_n dX3_faultOfNumber_33 rfl ?_
      refine WP_iload dX3_faultOfNumber_34 rfl ?_
      refine WQ_iast dX3_faultOfNumber_36 (lyx_is hy 4 13 rfl) (lyx_n hy 4 5 rfl) (by omega) (by omega) (fun I6572 fI6572 => ?_)
      have eI6572 := fI6572
      rw [cl (x := ix) (n := 2) (by omega)] at eI6572
      clear fI6572
      have hI6572 : XI g n L I6572 := by rw [eI6572]; exact (xi_f hy hI (c := 4) (0) (0) (1000) (by decide) (Or.inl (by decide)) (by decide) (by omega) (by omega))
      have e6573 : I6572 (ad g 1) 1 = L := by rw [eI6572, pp_ne _ _ (Or.inl (lyx_ne hy (by decide) (by decide) (by decide)))]; exact e6559
      have e6574 : I6572 (ad g 4) 0 = w6561 := by rw [eI6572, pp_ne _ _ (Or.inr (by decide))]; exact ew6561
      have e6575 : I6572 (ad g 4) 1 = w6562 := by rw [eI6572, pp_ne _ _ (Or.inr (by decide))]; exact ew6562
      have e6576 : I6572 (ad g 27) 1 = w6563 := by rw [eI6572, pp_ne _ _ (Or.inl (lyx_ne hy (by decide) (by decide) (by decide)))]; exact ew6563
      have e6577 : I6572 (ad g 27) 2 = w6564 := by rw [eI6572, pp_ne _ _ (Or.inl (lyx_ne hy (by decide) (by decide) (by decide)))]; exact ew6564
      have e6578 : I6572 (ad g 1) 4 = v6565 := by rw [eI6572, pp_ne _ _ (Or.inl (lyx_ne hy (by decide) (by decide) (by decide)))]; exact ev6565
      have e6579 : I6572 (ad g 4) 2 = v6565 := by rw [eI6572, pp_self]
      clear eI6572
      refine WP_iload_n dX3_faultOfNumber_37 rfl ?_
      refine WQ_bipush (68) (68) dX3_faultOfNumber_38 rfl rfl (fun v6580 hv6580 => ?_)
      refine WQ_icmp_eq 45 dX3_faultOfNumber_40 rfl (fun c6580 => False.elim (by omega)) (fun c6580 => ?_)
      refine WQ_iconst (0) (0) dX3_faultOfNumber_43 rfl rfl (fun v6582 hv6582 => ?_)
      exact WP_iret dX3_faultOfNumber_44 rfl ⟨⟨hI6572, rfl, ⟨trivial, (by rw [e6574, ew6561] <;> exact (eq32 _ _).mpr (by omega)), (by rw [e6575, ew6562] <;> exact (eq32 _ _).mpr (by omega)), (by rw [e6576, ew6563] <;> exact (eq32 _ _).mpr (by omega)), (by rw [e6577, ew6564] <;> exact (eq32 _ _).mpr (by omega))⟩⟩, _, rfl, by omega, by omega, by (try rw [e6579]); omega⟩
    · refine WQ_iconst (2) (2) dX3_faultOfNumber_27 rfl rfl (fun v6583 hv6583 => ?_)
      obtain ⟨w6584, ew6584⟩ : ∃ w : Int32, I (ad g 4) 2 = w := ⟨_, rfl⟩
      have bw6584 := BT_get hI.1 4 0 5 (0) (0) (1000) (by decide) 2 (by decide) (by decide)
      rw [ew6584] at bw6584
      exact WP_iret dX3_faultOfNumber_28 rfl ⟨⟨hI, rfl, ⟨trivial, rfl, rfl, rfl, rfl⟩⟩, _, rfl, by omega, by omega, by (try rw [ew6584]); omega⟩
set_option maxHeartbeats 4000000 in
set_option maxRecDepth 100000 in
theorem sx_part_27_5_0 {g : GG} {n : Int} {L : Int32} (hy : LyX g)  {I : pI} {J : pJ} {R : pR} (hr : RfX g R) (hI : XI g n L I) (pa : Int32) (cz : Int32) (ix : Int32) (pa_lo : 116 ≤ pa.toInt) (pa_hi : pa.toInt ≤ 116) (cz_lo : 5 ≤ cz.toInt) (cz_hi : cz.toInt ≤ 5) (ix_lo : 0 ≤ ix.toInt) (ix_hi : ix.toInt ≤ 0) : SP g mX3_faultOfName [.ref (ad g 3), .int pa, .int cz, .int ix, .ref (ad g 27)] I J R (fun r I' J' R' => (XI g n L I' ∧ R' = R ∧ True ∧ I' (ad g 27) 1 = I (ad g 27) 1 ∧ I' (ad g 27) 2 = I (ad g 27) 2) ∧ ∃ v : Int32, r = some (.int v) ∧ 0 ≤ v.toInt ∧ v.toInt ≤ 5 ∧ (v.toInt = 0 → (I' (ad g 4) 0).toInt ≤ 2)) := by
  refine SP_of ⟨by decide, rfl⟩ (Nat.le_of_ble_eq_true rfl) ?_
  have e6585 : I (ad g 1) 1 = L := hI.2
  have b6586 := BT_get hI.1 1 1 2 (0) (0) (900) (by decide) 1 (by decide) (by decide)
  rw [e6585] at b6586
  obtain ⟨w6587, ew6587⟩ : ∃ w : Int32, I (ad g 27) 1 = w := ⟨_, rfl⟩
  have bw6587 := BT_get hI.1 27 1 2 (0) (0) (4) (by decide) 1 (by decide) (by decide)
  rw [ew6587] at bw6587
  obtain ⟨w6588, ew6588⟩ : ∃ w : Int32, I (ad g 27) 2 = w := ⟨_, rfl⟩
  have bw6588 := BT_get hI.1 27 2 3 (0) (0) (3) (by decide) 2 (by decide) (by decide)
  rw [ew6588] at bw6588
  refine WP_iload_n dX3_faultOfName_0 rfl ?_
  refine WQ_bipush (115) (115) dX3_faultOfName_1 rfl rfl (fun v6589 hv6589 => ?_)
  refine WQ_icmp_eq 12 dX3_faultOfName_3 rfl (fun c6589 => False.elim (by omega)) (fun c6589 => ?_)
  refine WP_iload_n dX3_faultOfName_6 rfl ?_
  refine WQ_bipush (110) (110) dX3_faultOfName_7 rfl rfl (fun v6591 hv6591 => ?_)
  refine WQ_icmp_ne 16 dX3_faultOfName_9 rfl (fun c6591 => ?_) (fun c6591 => False.elim (by omega))
  refine WQ_iconst (0) (0) dX3_faultOfName_16 rfl rfl (fun v6593 hv6593 => ?_)
  refine WP_istore (ls' := [(0, _), (1, _), (2, _), (3, _), (4, _), (5, _)]) dX3_faultOfName_17 (by decide) rfl ?_
  refine WP_iload dX3_faultOfName_19 rfl ?_
  refine WQ_if_eq 39 dX3_faultOfName_21 rfl (fun c6593 => ?_) (fun c6593 => False.elim (by omega))
  refine WP_aload dX3_faultOfName_39 rfl ?_
  refine WP_aload_n dX3_faultOfName_41 rfl ?_
  refine WP_getr dX3_faultOfName_42 fX3_15 rfl (lyx_is hy 3 3 rfl) (rfx hr 3 2 1 (by decide)) ?_
  refine WQ_getl dX3_faultOfName_45 fX3_80 rfl (lyx_is hy 1 5 rfl) (fun l6595 el6595 => ?_)
  refine WP_callV1 (k := 7) dX3_faultOfName_48 ⟨⟨⟨by decide, by decide⟩, zX7_thingNamed⟩, lX3_107, by decide, rfl, vX7_thingNamed.1, vX7_thingNamed.2⟩ (lyx_is hy 27 7 rfl) (sx_thingNamed_27 hy hr hI l6595 ) (Nat.le_of_ble_eq_true rfl) ?_
  intro r Ia Ja Ra hq
  obtain ⟨⟨ea, eb, ec⟩, v6596, rfl, av6596, bv6596⟩ := hq
  show WP _ _ _ _ (.int _ :: _) _ _ _ _
  rw [ea, eb, ec]
  clear ea eb ec Ia Ja Ra
  refine WP_istore (ls' := [(0, _), (1, _), (2, _), (3, _), (4, _), (5, _), (6, _)]) dX3_faultOfName_51 (by decide) rfl ?_
  refine WP_iload_n dX3_faultOfName_53 rfl ?_
  refine WQ_bipush (110) (110) dX3_faultOfName_54 rfl rfl (fun v6597 hv6597 => ?_)
  refine WQ_icmp_eq 65 dX3_faultOfName_56 rfl (fun c6597 => False.elim (by omega)) (fun c6597 => ?_)
  refine WP_iload_n dX3_faultOfName_59 rfl ?_
  refine WQ_bipush (109) (109) dX3_faultOfName_60 rfl rfl (fun v6599 hv6599 => ?_)
  refine WQ_icmp_ne 98 dX3_faultOfName_62 rfl (fun c6599 => ?_) (fun c6599 => False.elim (by omega))
  refine WP_iload dX3_faultOfName_98 rfl ?_
  refine WQ_iconst (-1) (-1) dX3_faultOfName_100 rfl rfl (fun v6601 hv6601 => ?_)
  refine WQ_icmp_ne 106 dX3_faultOfName_101 rfl (fun c6601 => ?_) (fun c6601 => ?_)
  · refine WP_aload_n dX3_faultOfName_106 rfl ?_
    refine WP_getr dX3_faultOfName_107 fX3_9 rfl (lyx_is hy 3 3 rfl) (rfx hr 3 3 4 (by decide)) ?_
    refine WP_iload_n dX3_faultOfName_110 rfl ?_
    refine WP_iload dX3_faultOfName_111 rfl ?_
    refine WQ_iast dX3_faultOfName_113 (lyx_is hy 4 13 rfl) (lyx_n hy 4 5 rfl) (by omega) (by omega) (fun I6603 fI6603 => ?_)
    have eI6603 := fI6603
    rw [cl (x := ix) (n := 0) (by omega)] at eI6603
    clear fI6603
    have hI6603 : XI g n L I6603 := by rw [eI6603]; exact (xi_f hy hI (c := 4) (0) (0) (1000) (by decide) (Or.inl (by decide)) (by decide) (by omega) (by omega))
    have e6604 : I6603 (ad g 1) 1 = L := by rw [eI6603, pp_ne _ _ (Or.inl (lyx_ne hy (by decide) (by decide) (by decide)))]; exact e6585
    have e6605 : I6603 (ad g 27) 1 = w6587 := by rw [eI6603, pp_ne _ _ (Or.inl (lyx_ne hy (by decide) (by decide) (by decide)))]; exact ew6587
    have e6606 : I6603 (ad g 27) 2 = w6588 := by rw [eI6603, pp_ne _ _ (Or.inl (lyx_ne hy (by decide) (by decide) (by decide)))]; exact ew6588
    have e6607 : I6603 (ad g 4) 0 = v6596 := by rw [eI6603, pp_self]
    clear eI6603
    refine WP_iload_n dX3_faultOfName_114 rfl ?_
    refine WQ_bipush (7) (7) dX3_faultOfName_115 rfl rfl (fun v6608 hv6608 => ?_)
    refine WQ_icmp_ne 137 dX3_faultOfName_117 rfl (fun c6608 => ?_) (fun c6608 => False.elim (by omega))
    refine WQ_iconst (0) (0) dX3_faultOfName_137 rfl rfl (fun v6610 hv6610 => ?_)
    exact WP_iret dX3_faultOfName_138 rfl ⟨⟨hI6603, rfl, ⟨trivial, (by rw [e6605, ew6587] <;> exact (eq32 _ _).mpr (by omega)), (by rw [e6606, ew6588] <;> exact (eq32 _ _).mpr (by omega))⟩⟩, _, rfl, by omega, by omega, by (try rw [e6607]); omega⟩
  · refine WQ_iconst (5) (5) dX3_faultOfName_104 rfl rfl (fun v6611 hv6611 => ?_)
    obtain ⟨w6612, ew6612⟩ : ∃ w : Int32, I (ad g 4) 0 = w := ⟨_, rfl⟩
    have bw6612 := BT_get hI.1 4 0 5 (0) (0) (1000) (by decide) 0 (by decide) (by decide)
    rw [ew6612] at bw6612
    exact WP_iret dX3_faultOfName_105 rfl ⟨⟨hI, rfl, ⟨trivial, rfl, rfl⟩⟩, _, rfl, by omega, by omega, by (try rw [ew6612]); omega⟩
set_option maxHeartbeats 4000000 in
set_option maxRecDepth 100000 in
theorem sx_part_27_5_1 {g : GG} {n : Int} {L : Int32} (hy : LyX g)  {I : pI} {J : pJ} {R : pR} (hr : RfX g R) (hI : XI g n L I) (pa : Int32) (cz : Int32) (ix : Int32) (pa_lo : 68 ≤ pa.toInt) (pa_hi : pa.toInt ≤ 68) (cz_lo : 5 ≤ cz.toInt) (cz_hi : cz.toInt ≤ 5) (ix_lo : 1 ≤ ix.toInt) (ix_hi : ix.toInt ≤ 1) (hb : (I (ad g 4) 0).toInt ≤ 3) : SP g mX3_faultOfNumber [.ref (ad g 3), .int pa, .int cz, .int ix, .ref (ad g 27)] I J R (fun r I' J' R' => (XI g n L I' ∧ R' = R ∧ True ∧ I' (ad g 4) 0 = I (ad g 4) 0 ∧ I' (ad g 27) 1 = I (ad g 27) 1 ∧ I' (ad g 27) 2 = I (ad g 27) 2) ∧ ∃ v : Int32, r = some (.int v) ∧ 0 ≤ v.toInt ∧ v.toInt ≤ 5 ∧ (v.toInt = 0 → (I' (ad g 4) 1).toInt ≤ 6)) := by
  refine SP_of ⟨by decide, rfl⟩ (Nat.le_of_ble_eq_true rfl) ?_
  have e6613 : I (ad g 1) 1 = L := hI.2
  have b6614 := BT_get hI.1 1 1 2 (0) (0) (900) (by decide) 1 (by decide) (by decide)
  rw [e6613] at b6614
  obtain ⟨w6615, ew6615⟩ : ∃ w : Int32, I (ad g 4) 0 = w := ⟨_, rfl⟩
  have bw6615 := BT_get hI.1 4 0 5 (0) (0) (1000) (by decide) 0 (by decide) (by decide)
  rw [ew6615] at bw6615
  obtain ⟨w6616, ew6616⟩ : ∃ w : Int32, I (ad g 27) 1 = w := ⟨_, rfl⟩
  have bw6616 := BT_get hI.1 27 1 2 (0) (0) (4) (by decide) 1 (by decide) (by decide)
  rw [ew6616] at bw6616
  obtain ⟨w6617, ew6617⟩ : ∃ w : Int32, I (ad g 27) 2 = w := ⟨_, rfl⟩
  have bw6617 := BT_get hI.1 27 2 3 (0) (0) (3) (by decide) 2 (by decide) (by decide)
  rw [ew6617] at bw6617
  rw [ew6615] at hb
  refine WP_aload_n dX3_faultOfNumber_0 rfl ?_
  refine WP_getr dX3_faultOfNumber_1 fX3_15 rfl (lyx_is hy 3 3 rfl) (rfx hr 3 2 1 (by decide)) ?_
  refine WQ_getiu dX3_faultOfNumber_4 fX3_118 rfl (lyx_is hy 1 5 rfl) (fun v6618 ev6618 => ?_)
  refine WP_istore (ls' := [(0, _), (1, _), (2, _), (3, _), (4, _), (5, _)]) dX3_faultOfNumber_7 (by decide) rfl ?_
  refine WP_iload dX3_faultOfNumber_9 rfl ?_
  refine WP_iload_n dX3_faultOfNumber_11 rfl ?_
  refine WP_callS1 dX3_faultOfNumber_12 ⟨⟨⟨by decide, by decide⟩, zX3_leastOf⟩, lX3_121, tX3_leastOf⟩ (sx_leastOf hy hr hI pa ) (Nat.le_of_ble_eq_true rfl) ?_
  intro r Ia Ja Ra hq
  obtain ⟨⟨ea, eb, ec⟩, v6619, rfl, av6619, bv6619⟩ := hq
  show WP _ _ _ _ (.int _ :: _) _ _ _ _
  rw [ea, eb, ec]
  clear ea eb ec Ia Ja Ra
  refine WQ_icmp_lt 27 dX3_faultOfNumber_15 rfl (fun c6619 => ?_) (fun c6619 => ?_)
  · refine WQ_iconst (2) (2) dX3_faultOfNumber_27 rfl rfl (fun v6621 hv6621 => ?_)
    obtain ⟨w6622, ew6622⟩ : ∃ w : Int32, I (ad g 4) 1 = w := ⟨_, rfl⟩
    have bw6622 := BT_get hI.1 4 0 5 (0) (0) (1000) (by decide) 1 (by decide) (by decide)
    rw [ew6622] at bw6622
    exact WP_iret dX3_faultOfNumber_28 rfl ⟨⟨hI, rfl, ⟨trivial, rfl, rfl, rfl⟩⟩, _, rfl, by omega, by omega, by (try rw [ew6622]); omega⟩
  · refine WP_iload dX3_faultOfNumber_18 rfl ?_
    refine WP_iload_n dX3_faultOfNumber_20 rfl ?_
    refine WP_callS1 dX3_faultOfNumber_21 ⟨⟨⟨by decide, by decide⟩, zX3_mostOf⟩, lX3_125, tX3_mostOf⟩ (sx_mostOf hy hr hI pa ) (Nat.le_of_ble_eq_true rfl) ?_
    intro r Ia Ja Ra hq
    obtain ⟨⟨ea, eb, ec⟩, v6623, rfl, av6623, bv6623, cv6623⟩ := hq
    show WP _ _ _ _ (.int _ :: _) _ _ _ _
    rw [ea, eb, ec]
    clear ea eb ec Ia Ja Ra
    refine WQ_icmp_le 29 dX3_faultOfNumber_24 rfl (fun c6623 => ?_) (fun c6623 => ?_)
    · refine WP_aload_n dX3_faultOfNumber_29 rfl ?_
      refine WP_getr dX3_faultOfNumber_30 fX3_9 rfl (lyx_is hy 3 3 rfl) (rfx hr 3 3 4 (by decide)) ?_
      refine WP_iload_n dX3_faultOfNumber_33 rfl ?_
      refine WP_iload dX3_faultOfNumber_34 rfl ?_
      refine WQ_iast dX3_faultOfNumber_36 (lyx_is hy 4 13 rfl) (lyx_n hy 4 5 rfl) (by omega) (by omega) (fun I6625 fI6625 => ?_)
      have eI6625 := fI6625
      rw [cl (x := ix) (n := 1) (by omega)] at eI6625
      clear fI6625
      have hI6625 : XI g n L I6625 := by rw [eI6625]; exact (xi_f hy hI (c := 4) (0) (0) (1000) (by decide) (Or.inl (by decide)) (by decide) (by omega) (by omega))
      have e6626 : I6625 (ad g 1) 1 = L := by rw [eI6625, pp_ne _ _ (Or.inl (lyx_ne hy (by decide) (by decide) (by decide)))]; exact e6613
      have e6627 : I6625 (ad g 4) 0 = w6615 := by rw [eI6625, pp_ne _ _ (Or.inr (by decide))]; exact ew6615
      have e6628 : I6625 (ad g 27) 1 = w6616 := by rw [eI6625, pp_ne _ _ (Or.inl (lyx_ne hy (by decide) (by decide) (by decide)))]; exact ew6616
      have e6629 : I6625 (ad g 27) 2 = w6617 := by rw [eI6625, pp_ne _ _ (Or.inl (lyx_ne hy (by decide) (by decide) (by decide)))]; exact ew6617
      have e6630 : I6625 (ad g 1) 4 = v6618 := by rw [eI6625, pp_ne _ _ (Or.inl (lyx_ne hy (by decide) (by decide) (by decide)))]; exact ev6618
      have e6631 : I6625 (ad g 4) 1 = v6618 := by rw [eI6625, pp_self]
      clear eI6625
      refine WP_iload_n dX3_faultOfNumber_37 rfl ?_
      refine WQ_bipush (68) (68) dX3_faultOfNumber_38 rfl rfl (fun v6632 hv6632 => ?_)
      refine WQ_icmp_eq 45 dX3_faultOfNumber_40 rfl (fun c6632 => ?_) (fun c6632 => False.elim (by omega))
      refine WP_aload dX3_faultOfNumber_45 rfl ?_
      refine WP_iload_n dX3_faultOfNumber_47 rfl ?_
      refine WP_iload_n dX3_faultOfNumber_48 rfl ?_
      refine WQ_if_ne 56 dX3_faultOfNumber_49 rfl (fun c6633 => ?_) (fun c6633 => False.elim (by omega))
      refine WP_aload_n dX3_faultOfNumber_56 rfl ?_
      refine WP_getr dX3_faultOfNumber_57 fX3_9 rfl (lyx_is hy 3 3 rfl) (rfx hr 3 3 4 (by decide)) ?_
      refine WQ_iconst (0) (0) dX3_faultOfNumber_60 rfl rfl (fun v6635 hv6635 => ?_)
      refine WQ_ialdm (z := 0) dX3_faultOfNumber_61 (lyx_is hy 4 13 rfl) (lyx_n hy 4 5 rfl) hv6635 (by decide) e6627 ?_
      refine WP_iload dX3_faultOfNumber_62 rfl ?_
      refine WP_callV3 (k := 7) dX3_faultOfNumber_64 ⟨⟨⟨by decide, by decide⟩, zX7_isTold⟩, lX3_114, by decide, rfl, vX7_isTold.1, vX7_isTold.2⟩ (lyx_is hy 27 7 rfl) (sx_isTold_27 hy hr hI6625 cz w6615 v6618 (by omega) (by omega) (by omega) (by omega) ) (Nat.le_of_ble_eq_true rfl) ?_
      intro r Ia Ja Ra hq
      obtain ⟨⟨ea, eb, ec⟩, v6637, rfl, av6637, bv6637⟩ := hq
      show WP _ _ _ _ (.int _ :: _) _ _ _ _
      rw [ea, eb, ec]
      clear ea eb ec Ia Ja Ra
      refine WQ_if_eq 74 dX3_faultOfNumber_67 rfl (fun c6637 => ?_) (fun c6637 => ?_)
      · refine WQ_iconst (0) (0) dX3_faultOfNumber_74 rfl rfl (fun v6639 hv6639 => ?_)
        exact WP_iret dX3_faultOfNumber_75 rfl ⟨⟨hI6625, rfl, ⟨trivial, (by rw [e6627, ew6615] <;> exact (eq32 _ _).mpr (by omega)), (by rw [e6628, ew6616] <;> exact (eq32 _ _).mpr (by omega)), (by rw [e6629, ew6617] <;> exact (eq32 _ _).mpr (by omega))⟩⟩, _, rfl, by omega, by omega, by (try rw [e6631]); omega⟩
      · refine WQ_iconst (3) (3) dX3_faultOfNumber_70 rfl rfl (fun v6640 hv6640 => ?_)
        refine WP_goto 75 dX3_faultOfNumber_71 rfl ?_
        exact WP_iret dX3_faultOfNumber_75 rfl ⟨⟨hI6625, rfl, ⟨trivial, (by rw [e6627, ew6615] <;> exact (eq32 _ _).mpr (by omega)), (by rw [e6628, ew6616] <;> exact (eq32 _ _).mpr (by omega)), (by rw [e6629, ew6617] <;> exact (eq32 _ _).mpr (by omega))⟩⟩, _, rfl, by omega, by omega, by (try rw [e6631]); omega⟩
    · refine WQ_iconst (2) (2) dX3_faultOfNumber_27 rfl rfl (fun v6641 hv6641 => ?_)
      obtain ⟨w6642, ew6642⟩ : ∃ w : Int32, I (ad g 4) 1 = w := ⟨_, rfl⟩
      have bw6642 := BT_get hI.1 4 0 5 (0) (0) (1000) (by decide) 1 (by decide) (by decide)
      rw [ew6642] at bw6642
      exact WP_iret dX3_faultOfNumber_28 rfl ⟨⟨hI, rfl, ⟨trivial, rfl, rfl, rfl⟩⟩, _, rfl, by omega, by omega, by (try rw [ew6642]); omega⟩
set_option maxHeartbeats 4000000 in
set_option maxRecDepth 100000 in
theorem sx_part_27_5_2 {g : GG} {n : Int} {L : Int32} (hy : LyX g)  {I : pI} {J : pJ} {R : pR} (hr : RfX g R) (hI : XI g n L I) (pa : Int32) (cz : Int32) (ix : Int32) (pa_lo : 77 ≤ pa.toInt) (pa_hi : pa.toInt ≤ 77) (cz_lo : 5 ≤ cz.toInt) (cz_hi : cz.toInt ≤ 5) (ix_lo : 2 ≤ ix.toInt) (ix_hi : ix.toInt ≤ 2) : SP g mX3_faultOfNumber [.ref (ad g 3), .int pa, .int cz, .int ix, .ref (ad g 27)] I J R (fun r I' J' R' => (XI g n L I' ∧ R' = R ∧ True ∧ I' (ad g 4) 0 = I (ad g 4) 0 ∧ I' (ad g 4) 1 = I (ad g 4) 1 ∧ I' (ad g 27) 1 = I (ad g 27) 1 ∧ I' (ad g 27) 2 = I (ad g 27) 2) ∧ ∃ v : Int32, r = some (.int v) ∧ 0 ≤ v.toInt ∧ v.toInt ≤ 5 ∧ (v.toInt = 0 → (I' (ad g 4) 2).toInt ≤ 999)) := by
  refine SP_of ⟨by decide, rfl⟩ (Nat.le_of_ble_eq_true rfl) ?_
  have e6643 : I (ad g 1) 1 = L := hI.2
  have b6644 := BT_get hI.1 1 1 2 (0) (0) (900) (by decide) 1 (by decide) (by decide)
  rw [e6643] at b6644
  obtain ⟨w6645, ew6645⟩ : ∃ w : Int32, I (ad g 4) 0 = w := ⟨_, rfl⟩
  have bw6645 := BT_get hI.1 4 0 5 (0) (0) (1000) (by decide) 0 (by decide) (by decide)
  rw [ew6645] at bw6645
  obtain ⟨w6646, ew6646⟩ : ∃ w : Int32, I (ad g 4) 1 = w := ⟨_, rfl⟩
  have bw6646 := BT_get hI.1 4 0 5 (0) (0) (1000) (by decide) 1 (by decide) (by decide)
  rw [ew6646] at bw6646
  obtain ⟨w6647, ew6647⟩ : ∃ w : Int32, I (ad g 27) 1 = w := ⟨_, rfl⟩
  have bw6647 := BT_get hI.1 27 1 2 (0) (0) (4) (by decide) 1 (by decide) (by decide)
  rw [ew6647] at bw6647
  obtain ⟨w6648, ew6648⟩ : ∃ w : Int32, I (ad g 27) 2 = w := ⟨_, rfl⟩
  have bw6648 := BT_get hI.1 27 2 3 (0) (0) (3) (by decide) 2 (by decide) (by decide)
  rw [ew6648] at bw6648
  refine WP_aload_n dX3_faultOfNumber_0 rfl ?_
  refine WP_getr dX3_faultOfNumber_1 fX3_15 rfl (lyx_is hy 3 3 rfl) (rfx hr 3 2 1 (by decide)) ?_
  refine WQ_getiu dX3_faultOfNumber_4 fX3_118 rfl (lyx_is hy 1 5 rfl) (fun v6649 ev6649 => ?_)
  refine WP_istore (ls' := [(0, _), (1, _), (2, _), (3, _), (4, _), (5, _)]) dX3_faultOfNumber_7 (by decide) rfl ?_
  refine WP_iload dX3_faultOfNumber_9 rfl ?_
  refine WP_iload_n dX3_faultOfNumber_11 rfl ?_
  refine WP_callS1 dX3_faultOfNumber_12 ⟨⟨⟨by decide, by decide⟩, zX3_leastOf⟩, lX3_121, tX3_leastOf⟩ (sx_leastOf hy hr hI pa ) (Nat.le_of_ble_eq_true rfl) ?_
  intro r Ia Ja Ra hq
  obtain ⟨⟨ea, eb, ec⟩, v6650, rfl, av6650, bv6650⟩ := hq
  show WP _ _ _ _ (.int _ :: _) _ _ _ _
  rw [ea, eb, ec]
  clear ea eb ec Ia Ja Ra
  refine WQ_icmp_lt 27 dX3_faultOfNumber_15 rfl (fun c6650 => ?_) (fun c6650 => ?_)
  · refine WQ_iconst (2) (2) dX3_faultOfNumber_27 rfl rfl (fun v6652 hv6652 => ?_)
    obtain ⟨w6653, ew6653⟩ : ∃ w : Int32, I (ad g 4) 2 = w := ⟨_, rfl⟩
    have bw6653 := BT_get hI.1 4 0 5 (0) (0) (1000) (by decide) 2 (by decide) (by decide)
    rw [ew6653] at bw6653
    exact WP_iret dX3_faultOfNumber_28 rfl ⟨⟨hI, rfl, ⟨trivial, rfl, rfl, rfl, rfl⟩⟩, _, rfl, by omega, by omega, by (try rw [ew6653]); omega⟩
  · refine WP_iload dX3_faultOfNumber_18 rfl ?_
    refine WP_iload_n dX3_faultOfNumber_20 rfl ?_
    refine WP_callS1 dX3_faultOfNumber_21 ⟨⟨⟨by decide, by decide⟩, zX3_mostOf⟩, lX3_125, tX3_mostOf⟩ (sx_mostOf hy hr hI pa ) (Nat.le_of_ble_eq_true rfl) ?_
    intro r Ia Ja Ra hq
    obtain ⟨⟨ea, eb, ec⟩, v6654, rfl, av6654, bv6654, cv6654⟩ := hq
    show WP _ _ _ _ (.int _ :: _) _ _ _ _
    rw [ea, eb, ec]
    clear ea eb ec Ia Ja Ra
    refine WQ_icmp_le 29 dX3_faultOfNumber_24 rfl (fun c6654 => ?_) (fun c6654 => ?_)
    · refine WP_aload_n dX3_faultOfNumber_29 rfl ?_
      refine WP_getr dX3_faultOfNumber_30 fX3_9 rfl (lyx_is hy 3 3 rfl) (rfx hr 3 3 4 (by decide)) ?_
      refine WP_iload_n dX3_faultOfNumber_33 rfl ?_
      refine WP_iload dX3_faultOfNumber_34 rfl ?_
      refine WQ_iast dX3_faultOfNumber_36 (lyx_is hy 4 13 rfl) (lyx_n hy 4 5 rfl) (by omega) (by omega) (fun I6656 fI6656 => ?_)
      have eI6656 := fI6656
      rw [cl (x := ix) (n := 2) (by omega)] at eI6656
      clear fI6656
      have hI6656 : XI g n L I6656 := by rw [eI6656]; exact (xi_f hy hI (c := 4) (0) (0) (1000) (by decide) (Or.inl (by decide)) (by decide) (by omega) (by omega))
      have e6657 : I6656 (ad g 1) 1 = L := by rw [eI6656, pp_ne _ _ (Or.inl (lyx_ne hy (by decide) (by decide) (by decide)))]; exact e6643
      have e6658 : I6656 (ad g 4) 0 = w6645 := by rw [eI6656, pp_ne _ _ (Or.inr (by decide))]; exact ew6645
      have e6659 : I6656 (ad g 4) 1 = w6646 := by rw [eI6656, pp_ne _ _ (Or.inr (by decide))]; exact ew6646
      have e6660 : I6656 (ad g 27) 1 = w6647 := by rw [eI6656, pp_ne _ _ (Or.inl (lyx_ne hy (by decide) (by decide) (by decide)))]; exact ew6647
      have e6661 : I6656 (ad g 27) 2 = w6648 := by rw [eI6656, pp_ne _ _ (Or.inl (lyx_ne hy (by decide) (by decide) (by decide)))]; exact ew6648
      have e6662 : I6656 (ad g 1) 4 = v6649 := by rw [eI6656, pp_ne _ _ (Or.inl (lyx_ne hy (by decide) (by decide) (by decide)))]; exact ev6649
      have e6663 : I6656 (ad g 4) 2 = v6649 := by rw [eI6656, pp_self]
      clear eI6656
      refine WP_iload_n dX3_faultOfNumber_37 rfl ?_
      refine WQ_bipush (68) (68) dX3_faultOfNumber_38 rfl rfl (fun v6664 hv6664 => ?_)
      refine WQ_icmp_eq 45 dX3_faultOfNumber_40 rfl (fun c6664 => False.elim (by omega)) (fun c6664 => ?_)
      refine WQ_iconst (0) (0) dX3_faultOfNumber_43 rfl rfl (fun v6666 hv6666 => ?_)
      exact WP_iret dX3_faultOfNumber_44 rfl ⟨⟨hI6656, rfl, ⟨trivial, (by rw [e6658, ew6645] <;> exact (eq32 _ _).mpr (by omega)), (by rw [e6659, ew6646] <;> exact (eq32 _ _).mpr (by omega)), (by rw [e6660, ew6647] <;> exact (eq32 _ _).mpr (by omega)), (by rw [e6661, ew6648] <;> exact (eq32 _ _).mpr (by omega))⟩⟩, _, rfl, by omega, by omega, by (try rw [e6663]); omega⟩
    · refine WQ_iconst (2) (2) dX3_faultOfNumber_27 rfl rfl (fun v6667 hv6667 => ?_)
      obtain ⟨w6668, ew6668⟩ : ∃ w : Int32, I (ad g 4) 2 = w := ⟨_, rfl⟩
      have bw6668 := BT_get hI.1 4 0 5 (0) (0) (1000) (by decide) 2 (by decide) (by decide)
      rw [ew6668] at bw6668
      exact WP_iret dX3_faultOfNumber_28 rfl ⟨⟨hI, rfl, ⟨trivial, rfl, rfl, rfl, rfl⟩⟩, _, rfl, by omega, by omega, by (try rw [ew6668]); omega⟩
set_option maxHeartbeats 4000000 in
set_option maxRecDepth 100000 in
theorem sx_part_27_6_0 {g : GG} {n : Int} {L : Int32} (hy : LyX g)  {I : pI} {J : pJ} {R : pR} (hr : RfX g R) (hI : XI g n L I) (pa : Int32) (cz : Int32) (ix : Int32) (pa_lo : 115 ≤ pa.toInt) (pa_hi : pa.toInt ≤ 115) (cz_lo : 6 ≤ cz.toInt) (cz_hi : cz.toInt ≤ 6) (ix_lo : 0 ≤ ix.toInt) (ix_hi : ix.toInt ≤ 0) : SP g mX3_faultOfName [.ref (ad g 3), .int pa, .int cz, .int ix, .ref (ad g 27)] I J R (fun r I' J' R' => (XI g n L I' ∧ R' = R ∧ True ∧ I' (ad g 27) 1 = I (ad g 27) 1 ∧ I' (ad g 27) 2 = I (ad g 27) 2) ∧ ∃ v : Int32, r = some (.int v) ∧ 0 ≤ v.toInt ∧ v.toInt ≤ 5 ∧ (v.toInt = 0 → (I' (ad g 4) 0).toInt ≤ 3)) := by
  refine SP_of ⟨by decide, rfl⟩ (Nat.le_of_ble_eq_true rfl) ?_
  have e6669 : I (ad g 1) 1 = L := hI.2
  have b6670 := BT_get hI.1 1 1 2 (0) (0) (900) (by decide) 1 (by decide) (by decide)
  rw [e6669] at b6670
  obtain ⟨w6671, ew6671⟩ : ∃ w : Int32, I (ad g 27) 1 = w := ⟨_, rfl⟩
  have bw6671 := BT_get hI.1 27 1 2 (0) (0) (4) (by decide) 1 (by decide) (by decide)
  rw [ew6671] at bw6671
  obtain ⟨w6672, ew6672⟩ : ∃ w : Int32, I (ad g 27) 2 = w := ⟨_, rfl⟩
  have bw6672 := BT_get hI.1 27 2 3 (0) (0) (3) (by decide) 2 (by decide) (by decide)
  rw [ew6672] at bw6672
  refine WP_iload_n dX3_faultOfName_0 rfl ?_
  refine WQ_bipush (115) (115) dX3_faultOfName_1 rfl rfl (fun v6673 hv6673 => ?_)
  refine WQ_icmp_eq 12 dX3_faultOfName_3 rfl (fun c6673 => ?_) (fun c6673 => False.elim (by omega))
  refine WQ_iconst (1) (1) dX3_faultOfName_12 rfl rfl (fun v6675 hv6675 => ?_)
  refine WP_goto 17 dX3_faultOfName_13 rfl ?_
  refine WP_istore (ls' := [(0, _), (1, _), (2, _), (3, _), (4, _), (5, _)]) dX3_faultOfName_17 (by decide) rfl ?_
  refine WP_iload dX3_faultOfName_19 rfl ?_
  refine WQ_if_eq 39 dX3_faultOfName_21 rfl (fun c6675 => False.elim (by omega)) (fun c6675 => ?_)
  refine WP_aload dX3_faultOfName_24 rfl ?_
  refine WP_aload_n dX3_faultOfName_26 rfl ?_
  refine WP_getr dX3_faultOfName_27 fX3_15 rfl (lyx_is hy 3 3 rfl) (rfx hr 3 2 1 (by decide)) ?_
  refine WQ_getl dX3_faultOfName_30 fX3_80 rfl (lyx_is hy 1 5 rfl) (fun l6677 el6677 => ?_)
  refine WP_callV1 (k := 7) dX3_faultOfName_33 ⟨⟨⟨by decide, by decide⟩, zX7_sortNamed⟩, lX3_103, by decide, rfl, vX7_sortNamed.1, vX7_sortNamed.2⟩ (lyx_is hy 27 7 rfl) (sx_sortNamed_27 hy hr hI l6677 ) (Nat.le_of_ble_eq_true rfl) ?_
  intro r Ia Ja Ra hq
  obtain ⟨⟨ea, eb, ec⟩, v6678, rfl, av6678, bv6678⟩ := hq
  show WP _ _ _ _ (.int _ :: _) _ _ _ _
  rw [ea, eb, ec]
  clear ea eb ec Ia Ja Ra
  refine WP_goto 51 dX3_faultOfName_36 rfl ?_
  refine WP_istore (ls' := [(0, _), (1, _), (2, _), (3, _), (4, _), (5, _), (6, _)]) dX3_faultOfName_51 (by decide) rfl ?_
  refine WP_iload_n dX3_faultOfName_53 rfl ?_
  refine WQ_bipush (110) (110) dX3_faultOfName_54 rfl rfl (fun v6679 hv6679 => ?_)
  refine WQ_icmp_eq 65 dX3_faultOfName_56 rfl (fun c6679 => False.elim (by omega)) (fun c6679 => ?_)
  refine WP_iload_n dX3_faultOfName_59 rfl ?_
  refine WQ_bipush (109) (109) dX3_faultOfName_60 rfl rfl (fun v6681 hv6681 => ?_)
  refine WQ_icmp_ne 98 dX3_faultOfName_62 rfl (fun c6681 => ?_) (fun c6681 => False.elim (by omega))
  refine WP_iload dX3_faultOfName_98 rfl ?_
  refine WQ_iconst (-1) (-1) dX3_faultOfName_100 rfl rfl (fun v6683 hv6683 => ?_)
  refine WQ_icmp_ne 106 dX3_faultOfName_101 rfl (fun c6683 => ?_) (fun c6683 => ?_)
  · refine WP_aload_n dX3_faultOfName_106 rfl ?_
    refine WP_getr dX3_faultOfName_107 fX3_9 rfl (lyx_is hy 3 3 rfl) (rfx hr 3 3 4 (by decide)) ?_
    refine WP_iload_n dX3_faultOfName_110 rfl ?_
    refine WP_iload dX3_faultOfName_111 rfl ?_
    refine WQ_iast dX3_faultOfName_113 (lyx_is hy 4 13 rfl) (lyx_n hy 4 5 rfl) (by omega) (by omega) (fun I6685 fI6685 => ?_)
    have eI6685 := fI6685
    rw [cl (x := ix) (n := 0) (by omega)] at eI6685
    clear fI6685
    have hI6685 : XI g n L I6685 := by rw [eI6685]; exact (xi_f hy hI (c := 4) (0) (0) (1000) (by decide) (Or.inl (by decide)) (by decide) (by omega) (by omega))
    have e6686 : I6685 (ad g 1) 1 = L := by rw [eI6685, pp_ne _ _ (Or.inl (lyx_ne hy (by decide) (by decide) (by decide)))]; exact e6669
    have e6687 : I6685 (ad g 27) 1 = w6671 := by rw [eI6685, pp_ne _ _ (Or.inl (lyx_ne hy (by decide) (by decide) (by decide)))]; exact ew6671
    have e6688 : I6685 (ad g 27) 2 = w6672 := by rw [eI6685, pp_ne _ _ (Or.inl (lyx_ne hy (by decide) (by decide) (by decide)))]; exact ew6672
    have e6689 : I6685 (ad g 4) 0 = v6678 := by rw [eI6685, pp_self]
    clear eI6685
    refine WP_iload_n dX3_faultOfName_114 rfl ?_
    refine WQ_bipush (7) (7) dX3_faultOfName_115 rfl rfl (fun v6690 hv6690 => ?_)
    refine WQ_icmp_ne 137 dX3_faultOfName_117 rfl (fun c6690 => ?_) (fun c6690 => False.elim (by omega))
    refine WQ_iconst (0) (0) dX3_faultOfName_137 rfl rfl (fun v6692 hv6692 => ?_)
    exact WP_iret dX3_faultOfName_138 rfl ⟨⟨hI6685, rfl, ⟨trivial, (by rw [e6687, ew6671] <;> exact (eq32 _ _).mpr (by omega)), (by rw [e6688, ew6672] <;> exact (eq32 _ _).mpr (by omega))⟩⟩, _, rfl, by omega, by omega, by (try rw [e6689]); omega⟩
  · refine WQ_iconst (5) (5) dX3_faultOfName_104 rfl rfl (fun v6693 hv6693 => ?_)
    obtain ⟨w6694, ew6694⟩ : ∃ w : Int32, I (ad g 4) 0 = w := ⟨_, rfl⟩
    have bw6694 := BT_get hI.1 4 0 5 (0) (0) (1000) (by decide) 0 (by decide) (by decide)
    rw [ew6694] at bw6694
    exact WP_iret dX3_faultOfName_105 rfl ⟨⟨hI, rfl, ⟨trivial, rfl, rfl⟩⟩, _, rfl, by omega, by omega, by (try rw [ew6694]); omega⟩
set_option maxHeartbeats 4000000 in
set_option maxRecDepth 100000 in
theorem sx_part_27_6_1 {g : GG} {n : Int} {L : Int32} (hy : LyX g)  {I : pI} {J : pJ} {R : pR} (hr : RfX g R) (hI : XI g n L I) (pa : Int32) (cz : Int32) (ix : Int32) (pa_lo : 116 ≤ pa.toInt) (pa_hi : pa.toInt ≤ 116) (cz_lo : 6 ≤ cz.toInt) (cz_hi : cz.toInt ≤ 6) (ix_lo : 1 ≤ ix.toInt) (ix_hi : ix.toInt ≤ 1) : SP g mX3_faultOfName [.ref (ad g 3), .int pa, .int cz, .int ix, .ref (ad g 27)] I J R (fun r I' J' R' => (XI g n L I' ∧ R' = R ∧ True ∧ I' (ad g 4) 0 = I (ad g 4) 0 ∧ I' (ad g 27) 1 = I (ad g 27) 1 ∧ I' (ad g 27) 2 = I (ad g 27) 2) ∧ ∃ v : Int32, r = some (.int v) ∧ 0 ≤ v.toInt ∧ v.toInt ≤ 5 ∧ (v.toInt = 0 → (I' (ad g 4) 1).toInt ≤ 2)) := by
  refine SP_of ⟨by decide, rfl⟩ (Nat.le_of_ble_eq_true rfl) ?_
  have e6695 : I (ad g 1) 1 = L := hI.2
  have b6696 := BT_get hI.1 1 1 2 (0) (0) (900) (by decide) 1 (by decide) (by decide)
  rw [e6695] at b6696
  obtain ⟨w6697, ew6697⟩ : ∃ w : Int32, I (ad g 4) 0 = w := ⟨_, rfl⟩
  have bw6697 := BT_get hI.1 4 0 5 (0) (0) (1000) (by decide) 0 (by decide) (by decide)
  rw [ew6697] at bw6697
  obtain ⟨w6698, ew6698⟩ : ∃ w : Int32, I (ad g 27) 1 = w := ⟨_, rfl⟩
  have bw6698 := BT_get hI.1 27 1 2 (0) (0) (4) (by decide) 1 (by decide) (by decide)
  rw [ew6698] at bw6698
  obtain ⟨w6699, ew6699⟩ : ∃ w : Int32, I (ad g 27) 2 = w := ⟨_, rfl⟩
  have bw6699 := BT_get hI.1 27 2 3 (0) (0) (3) (by decide) 2 (by decide) (by decide)
  rw [ew6699] at bw6699
  refine WP_iload_n dX3_faultOfName_0 rfl ?_
  refine WQ_bipush (115) (115) dX3_faultOfName_1 rfl rfl (fun v6700 hv6700 => ?_)
  refine WQ_icmp_eq 12 dX3_faultOfName_3 rfl (fun c6700 => False.elim (by omega)) (fun c6700 => ?_)
  refine WP_iload_n dX3_faultOfName_6 rfl ?_
  refine WQ_bipush (110) (110) dX3_faultOfName_7 rfl rfl (fun v6702 hv6702 => ?_)
  refine WQ_icmp_ne 16 dX3_faultOfName_9 rfl (fun c6702 => ?_) (fun c6702 => False.elim (by omega))
  refine WQ_iconst (0) (0) dX3_faultOfName_16 rfl rfl (fun v6704 hv6704 => ?_)
  refine WP_istore (ls' := [(0, _), (1, _), (2, _), (3, _), (4, _), (5, _)]) dX3_faultOfName_17 (by decide) rfl ?_
  refine WP_iload dX3_faultOfName_19 rfl ?_
  refine WQ_if_eq 39 dX3_faultOfName_21 rfl (fun c6704 => ?_) (fun c6704 => False.elim (by omega))
  refine WP_aload dX3_faultOfName_39 rfl ?_
  refine WP_aload_n dX3_faultOfName_41 rfl ?_
  refine WP_getr dX3_faultOfName_42 fX3_15 rfl (lyx_is hy 3 3 rfl) (rfx hr 3 2 1 (by decide)) ?_
  refine WQ_getl dX3_faultOfName_45 fX3_80 rfl (lyx_is hy 1 5 rfl) (fun l6706 el6706 => ?_)
  refine WP_callV1 (k := 7) dX3_faultOfName_48 ⟨⟨⟨by decide, by decide⟩, zX7_thingNamed⟩, lX3_107, by decide, rfl, vX7_thingNamed.1, vX7_thingNamed.2⟩ (lyx_is hy 27 7 rfl) (sx_thingNamed_27 hy hr hI l6706 ) (Nat.le_of_ble_eq_true rfl) ?_
  intro r Ia Ja Ra hq
  obtain ⟨⟨ea, eb, ec⟩, v6707, rfl, av6707, bv6707⟩ := hq
  show WP _ _ _ _ (.int _ :: _) _ _ _ _
  rw [ea, eb, ec]
  clear ea eb ec Ia Ja Ra
  refine WP_istore (ls' := [(0, _), (1, _), (2, _), (3, _), (4, _), (5, _), (6, _)]) dX3_faultOfName_51 (by decide) rfl ?_
  refine WP_iload_n dX3_faultOfName_53 rfl ?_
  refine WQ_bipush (110) (110) dX3_faultOfName_54 rfl rfl (fun v6708 hv6708 => ?_)
  refine WQ_icmp_eq 65 dX3_faultOfName_56 rfl (fun c6708 => False.elim (by omega)) (fun c6708 => ?_)
  refine WP_iload_n dX3_faultOfName_59 rfl ?_
  refine WQ_bipush (109) (109) dX3_faultOfName_60 rfl rfl (fun v6710 hv6710 => ?_)
  refine WQ_icmp_ne 98 dX3_faultOfName_62 rfl (fun c6710 => ?_) (fun c6710 => False.elim (by omega))
  refine WP_iload dX3_faultOfName_98 rfl ?_
  refine WQ_iconst (-1) (-1) dX3_faultOfName_100 rfl rfl (fun v6712 hv6712 => ?_)
  refine WQ_icmp_ne 106 dX3_faultOfName_101 rfl (fun c6712 => ?_) (fun c6712 => ?_)
  · refine WP_aload_n dX3_faultOfName_106 rfl ?_
    refine WP_getr dX3_faultOfName_107 fX3_9 rfl (lyx_is hy 3 3 rfl) (rfx hr 3 3 4 (by decide)) ?_
    refine WP_iload_n dX3_faultOfName_110 rfl ?_
    refine WP_iload dX3_faultOfName_111 rfl ?_
    refine WQ_iast dX3_faultOfName_113 (lyx_is hy 4 13 rfl) (lyx_n hy 4 5 rfl) (by omega) (by omega) (fun I6714 fI6714 => ?_)
    have eI6714 := fI6714
    rw [cl (x := ix) (n := 1) (by omega)] at eI6714
    clear fI6714
    have hI6714 : XI g n L I6714 := by rw [eI6714]; exact (xi_f hy hI (c := 4) (0) (0) (1000) (by decide) (Or.inl (by decide)) (by decide) (by omega) (by omega))
    have e6715 : I6714 (ad g 1) 1 = L := by rw [eI6714, pp_ne _ _ (Or.inl (lyx_ne hy (by decide) (by decide) (by decide)))]; exact e6695
    have e6716 : I6714 (ad g 4) 0 = w6697 := by rw [eI6714, pp_ne _ _ (Or.inr (by decide))]; exact ew6697
    have e6717 : I6714 (ad g 27) 1 = w6698 := by rw [eI6714, pp_ne _ _ (Or.inl (lyx_ne hy (by decide) (by decide) (by decide)))]; exact ew6698
    have e6718 : I6714 (ad g 27) 2 = w6699 := by rw [eI6714, pp_ne _ _ (Or.inl (lyx_ne hy (by decide) (by decide) (by decide)))]; exact ew6699
    have e6719 : I6714 (ad g 4) 1 = v6707 := by rw [eI6714, pp_self]
    clear eI6714
    refine WP_iload_n dX3_faultOfName_114 rfl ?_
    refine WQ_bipush (7) (7) dX3_faultOfName_115 rfl rfl (fun v6720 hv6720 => ?_)
    refine WQ_icmp_ne 137 dX3_faultOfName_117 rfl (fun c6720 => ?_) (fun c6720 => False.elim (by omega))
    refine WQ_iconst (0) (0) dX3_faultOfName_137 rfl rfl (fun v6722 hv6722 => ?_)
    exact WP_iret dX3_faultOfName_138 rfl ⟨⟨hI6714, rfl, ⟨trivial, (by rw [e6716, ew6697] <;> exact (eq32 _ _).mpr (by omega)), (by rw [e6717, ew6698] <;> exact (eq32 _ _).mpr (by omega)), (by rw [e6718, ew6699] <;> exact (eq32 _ _).mpr (by omega))⟩⟩, _, rfl, by omega, by omega, by (try rw [e6719]); omega⟩
  · refine WQ_iconst (5) (5) dX3_faultOfName_104 rfl rfl (fun v6723 hv6723 => ?_)
    obtain ⟨w6724, ew6724⟩ : ∃ w : Int32, I (ad g 4) 1 = w := ⟨_, rfl⟩
    have bw6724 := BT_get hI.1 4 0 5 (0) (0) (1000) (by decide) 1 (by decide) (by decide)
    rw [ew6724] at bw6724
    exact WP_iret dX3_faultOfName_105 rfl ⟨⟨hI, rfl, ⟨trivial, rfl, rfl, rfl⟩⟩, _, rfl, by omega, by omega, by (try rw [ew6724]); omega⟩
set_option maxHeartbeats 4000000 in
set_option maxRecDepth 100000 in
theorem sx_part_27_6_2 {g : GG} {n : Int} {L : Int32} (hy : LyX g)  {I : pI} {J : pJ} {R : pR} (hr : RfX g R) (hI : XI g n L I) (pa : Int32) (cz : Int32) (ix : Int32) (pa_lo : 68 ≤ pa.toInt) (pa_hi : pa.toInt ≤ 68) (cz_lo : 6 ≤ cz.toInt) (cz_hi : cz.toInt ≤ 6) (ix_lo : 2 ≤ ix.toInt) (ix_hi : ix.toInt ≤ 2) (hb : (I (ad g 4) 0).toInt ≤ 3) : SP g mX3_faultOfNumber [.ref (ad g 3), .int pa, .int cz, .int ix, .ref (ad g 27)] I J R (fun r I' J' R' => (XI g n L I' ∧ R' = R ∧ True ∧ I' (ad g 4) 0 = I (ad g 4) 0 ∧ I' (ad g 4) 1 = I (ad g 4) 1 ∧ I' (ad g 27) 1 = I (ad g 27) 1 ∧ I' (ad g 27) 2 = I (ad g 27) 2) ∧ ∃ v : Int32, r = some (.int v) ∧ 0 ≤ v.toInt ∧ v.toInt ≤ 5 ∧ (v.toInt = 0 → (I' (ad g 4) 2).toInt ≤ 6)) := by
  refine SP_of ⟨by decide, rfl⟩ (Nat.le_of_ble_eq_true rfl) ?_
  have e6725 : I (ad g 1) 1 = L := hI.2
  have b6726 := BT_get hI.1 1 1 2 (0) (0) (900) (by decide) 1 (by decide) (by decide)
  rw [e6725] at b6726
  obtain ⟨w6727, ew6727⟩ : ∃ w : Int32, I (ad g 4) 0 = w := ⟨_, rfl⟩
  have bw6727 := BT_get hI.1 4 0 5 (0) (0) (1000) (by decide) 0 (by decide) (by decide)
  rw [ew6727] at bw6727
  obtain ⟨w6728, ew6728⟩ : ∃ w : Int32, I (ad g 4) 1 = w := ⟨_, rfl⟩
  have bw6728 := BT_get hI.1 4 0 5 (0) (0) (1000) (by decide) 1 (by decide) (by decide)
  rw [ew6728] at bw6728
  obtain ⟨w6729, ew6729⟩ : ∃ w : Int32, I (ad g 27) 1 = w := ⟨_, rfl⟩
  have bw6729 := BT_get hI.1 27 1 2 (0) (0) (4) (by decide) 1 (by decide) (by decide)
  rw [ew6729] at bw6729
  obtain ⟨w6730, ew6730⟩ : ∃ w : Int32, I (ad g 27) 2 = w := ⟨_, rfl⟩
  have bw6730 := BT_get hI.1 27 2 3 (0) (0) (3) (by decide) 2 (by decide) (by decide)
  rw [ew6730] at bw6730
  rw [ew6727] at hb
  refine WP_aload_n dX3_faultOfNumber_0 rfl ?_
  refine WP_getr dX3_faultOfNumber_1 fX3_15 rfl (lyx_is hy 3 3 rfl) (rfx hr 3 2 1 (by decide)) ?_
  refine WQ_getiu dX3_faultOfNumber_4 fX3_118 rfl (lyx_is hy 1 5 rfl) (fun v6731 ev6731 => ?_)
  refine WP_istore (ls' := [(0, _), (1, _), (2, _), (3, _), (4, _), (5, _)]) dX3_faultOfNumber_7 (by decide) rfl ?_
  refine WP_iload dX3_faultOfNumber_9 rfl ?_
  refine WP_iload_n dX3_faultOfNumber_11 rfl ?_
  refine WP_callS1 dX3_faultOfNumber_12 ⟨⟨⟨by decide, by decide⟩, zX3_leastOf⟩, lX3_121, tX3_leastOf⟩ (sx_leastOf hy hr hI pa ) (Nat.le_of_ble_eq_true rfl) ?_
  intro r Ia Ja Ra hq
  obtain ⟨⟨ea, eb, ec⟩, v6732, rfl, av6732, bv6732⟩ := hq
  show WP _ _ _ _ (.int _ :: _) _ _ _ _
  rw [ea, eb, ec]
  clear ea eb ec Ia Ja Ra
  refine WQ_icmp_lt 27 dX3_faultOfNumber_15 rfl (fun c6732 => ?_) (fun c6732 => ?_)
  · refine WQ_iconst (2) (2) dX3_faultOfNumber_27 rfl rfl (fun v6734 hv6734 => ?_)
    obtain ⟨w6735, ew6735⟩ : ∃ w : Int32, I (ad g 4) 2 = w := ⟨_, rfl⟩
    have bw6735 := BT_get hI.1 4 0 5 (0) (0) (1000) (by decide) 2 (by decide) (by decide)
    rw [ew6735] at bw6735
    exact WP_iret dX3_faultOfNumber_28 rfl ⟨⟨hI, rfl, ⟨trivial, rfl, rfl, rfl, rfl⟩⟩, _, rfl, by omega, by omega, by (try rw [ew6735]); omega⟩
  · refine WP_iload dX3_faultOfNumber_18 rfl ?_
    refine WP_iload_n dX3_faultOfNumber_20 rfl ?_
    refine WP_callS1 dX3_faultOfNumber_21 ⟨⟨⟨by decide, by decide⟩, zX3_mostOf⟩, lX3_125, tX3_mostOf⟩ (sx_mostOf hy hr hI pa ) (Nat.le_of_ble_eq_true rfl) ?_
    intro r Ia Ja Ra hq
    obtain ⟨⟨ea, eb, ec⟩, v6736, rfl, av6736, bv6736, cv6736⟩ := hq
    show WP _ _ _ _ (.int _ :: _) _ _ _ _
    rw [ea, eb, ec]
    clear ea eb ec Ia Ja Ra
    refine WQ_icmp_le 29 dX3_faultOfNumber_24 rfl (fun c6736 => ?_) (fun c6736 => ?_)
    · refine WP_aload_n dX3_faultOfNumber_29 rfl ?_
      refine WP_getr dX3_faultOfNumber_30 fX3_9 rfl (lyx_is hy 3 3 rfl) (rfx hr 3 3 4 (by decide)) ?_
      refine WP_iload_n dX3_faultOfNumber_33 rfl ?_
      refine WP_iload dX3_faultOfNumber_34 rfl ?_
      refine WQ_iast dX3_faultOfNumber_36 (lyx_is hy 4 13 rfl) (lyx_n hy 4 5 rfl) (by omega) (by omega) (fun I6738 fI6738 => ?_)
      have eI6738 := fI6738
      rw [cl (x := ix) (n := 2) (by omega)] at eI6738
      clear fI6738
      have hI6738 : XI g n L I6738 := by rw [eI6738]; exact (xi_f hy hI (c := 4) (0) (0) (1000) (by decide) (Or.inl (by decide)) (by decide) (by omega) (by omega))
      have e6739 : I6738 (ad g 1) 1 = L := by rw [eI6738, pp_ne _ _ (Or.inl (lyx_ne hy (by decide) (by decide) (by decide)))]; exact e6725
      have e6740 : I6738 (ad g 4) 0 = w6727 := by rw [eI6738, pp_ne _ _ (Or.inr (by decide))]; exact ew6727
      have e6741 : I6738 (ad g 4) 1 = w6728 := by rw [eI6738, pp_ne _ _ (Or.inr (by decide))]; exact ew6728
      have e6742 : I6738 (ad g 27) 1 = w6729 := by rw [eI6738, pp_ne _ _ (Or.inl (lyx_ne hy (by decide) (by decide) (by decide)))]; exact ew6729
      have e6743 : I6738 (ad g 27) 2 = w6730 := by rw [eI6738, pp_ne _ _ (Or.inl (lyx_ne hy (by decide) (by decide) (by decide)))]; exact ew6730
      have e6744 : I6738 (ad g 1) 4 = v6731 := by rw [eI6738, pp_ne _ _ (Or.inl (lyx_ne hy (by decide) (by decide) (by decide)))]; exact ev6731
      have e6745 : I6738 (ad g 4) 2 = v6731 := by rw [eI6738, pp_self]
      clear eI6738
      refine WP_iload_n dX3_faultOfNumber_37 rfl ?_
      refine WQ_bipush (68) (68) dX3_faultOfNumber_38 rfl rfl (fun v6746 hv6746 => ?_)
      refine WQ_icmp_eq 45 dX3_faultOfNumber_40 rfl (fun c6746 => ?_) (fun c6746 => False.elim (by omega))
      refine WP_aload dX3_faultOfNumber_45 rfl ?_
      refine WP_iload_n dX3_faultOfNumber_47 rfl ?_
      refine WP_iload_n dX3_faultOfNumber_48 rfl ?_
      refine WQ_if_ne 56 dX3_faultOfNumber_49 rfl (fun c6747 => ?_) (fun c6747 => False.elim (by omega))
      refine WP_aload_n dX3_faultOfNumber_56 rfl ?_
      refine WP_getr dX3_faultOfNumber_57 fX3_9 rfl (lyx_is hy 3 3 rfl) (rfx hr 3 3 4 (by decide)) ?_
      refine WQ_iconst (0) (0) dX3_faultOfNumber_60 rfl rfl (fun v6749 hv6749 => ?_)
      refine WQ_ialdm (z := 0) dX3_faultOfNumber_61 (lyx_is hy 4 13 rfl) (lyx_n hy 4 5 rfl) hv6749 (by decide) e6740 ?_
      refine WP_iload dX3_faultOfNumber_62 rfl ?_
      refine WP_callV3 (k := 7) dX3_faultOfNumber_64 ⟨⟨⟨by decide, by decide⟩, zX7_isTold⟩, lX3_114, by decide, rfl, vX7_isTold.1, vX7_isTold.2⟩ (lyx_is hy 27 7 rfl) (sx_isTold_27 hy hr hI6738 cz w6727 v6731 (by omega) (by omega) (by omega) (by omega) ) (Nat.le_of_ble_eq_true rfl) ?_
      intro r Ia Ja Ra hq
      obtain ⟨⟨ea, eb, ec⟩, v6751, rfl, av6751, bv6751⟩ := hq
      show WP _ _ _ _ (.int _ :: _) _ _ _ _
      rw [ea, eb, ec]
      clear ea eb ec Ia Ja Ra
      refine WQ_if_eq 74 dX3_faultOfNumber_67 rfl (fun c6751 => ?_) (fun c6751 => ?_)
      · refine WQ_iconst (0) (0) dX3_faultOfNumber_74 rfl rfl (fun v6753 hv6753 => ?_)
        exact WP_iret dX3_faultOfNumber_75 rfl ⟨⟨hI6738, rfl, ⟨trivial, (by rw [e6740, ew6727] <;> exact (eq32 _ _).mpr (by omega)), (by rw [e6741, ew6728] <;> exact (eq32 _ _).mpr (by omega)), (by rw [e6742, ew6729] <;> exact (eq32 _ _).mpr (by omega)), (by rw [e6743, ew6730] <;> exact (eq32 _ _).mpr (by omega))⟩⟩, _, rfl, by omega, by omega, by (try rw [e6745]); omega⟩
      · refine WQ_iconst (3) (3) dX3_faultOfNumber_70 rfl rfl (fun v6754 hv6754 => ?_)
        refine WP_goto 75 dX3_faultOfNumber_71 rfl ?_
        exact WP_iret dX3_faultOfNumber_75 rfl ⟨⟨hI6738, rfl, ⟨trivial, (by rw [e6740, ew6727] <;> exact (eq32 _ _).mpr (by omega)), (by rw [e6741, ew6728] <;> exact (eq32 _ _).mpr (by omega)), (by rw [e6742, ew6729] <;> exact (eq32 _ _).mpr (by omega)), (by rw [e6743, ew6730] <;> exact (eq32 _ _).mpr (by omega))⟩⟩, _, rfl, by omega, by omega, by (try rw [e6745]); omega⟩
    · refine WQ_iconst (2) (2) dX3_faultOfNumber_27 rfl rfl (fun v6755 hv6755 => ?_)
      obtain ⟨w6756, ew6756⟩ : ∃ w : Int32, I (ad g 4) 2 = w := ⟨_, rfl⟩
      have bw6756 := BT_get hI.1 4 0 5 (0) (0) (1000) (by decide) 2 (by decide) (by decide)
      rw [ew6756] at bw6756
      exact WP_iret dX3_faultOfNumber_28 rfl ⟨⟨hI, rfl, ⟨trivial, rfl, rfl, rfl, rfl⟩⟩, _, rfl, by omega, by omega, by (try rw [ew6756]); omega⟩
set_option maxHeartbeats 4000000 in
set_option maxRecDepth 100000 in
theorem sx_part_27_6_3 {g : GG} {n : Int} {L : Int32} (hy : LyX g)  {I : pI} {J : pJ} {R : pR} (hr : RfX g R) (hI : XI g n L I) (pa : Int32) (cz : Int32) (ix : Int32) (pa_lo : 85 ≤ pa.toInt) (pa_hi : pa.toInt ≤ 85) (cz_lo : 6 ≤ cz.toInt) (cz_hi : cz.toInt ≤ 6) (ix_lo : 3 ≤ ix.toInt) (ix_hi : ix.toInt ≤ 3) : SP g mX3_faultOfNumber [.ref (ad g 3), .int pa, .int cz, .int ix, .ref (ad g 27)] I J R (fun r I' J' R' => (XI g n L I' ∧ R' = R ∧ True ∧ I' (ad g 4) 0 = I (ad g 4) 0 ∧ I' (ad g 4) 1 = I (ad g 4) 1 ∧ I' (ad g 4) 2 = I (ad g 4) 2 ∧ I' (ad g 27) 1 = I (ad g 27) 1 ∧ I' (ad g 27) 2 = I (ad g 27) 2) ∧ ∃ v : Int32, r = some (.int v) ∧ 0 ≤ v.toInt ∧ v.toInt ≤ 5 ∧ (v.toInt = 0 → (I' (ad g 4) 3).toInt ≤ 3)) := by
  refine SP_of ⟨by decide, rfl⟩ (Nat.le_of_ble_eq_true rfl) ?_
  have e6757 : I (ad g 1) 1 = L := hI.2
  have b6758 := BT_get hI.1 1 1 2 (0) (0) (900) (by decide) 1 (by decide) (by decide)
  rw [e6757] at b6758
  obtain ⟨w6759, ew6759⟩ : ∃ w : Int32, I (ad g 4) 0 = w := ⟨_, rfl⟩
  have bw6759 := BT_get hI.1 4 0 5 (0) (0) (1000) (by decide) 0 (by decide) (by decide)
  rw [ew6759] at bw6759
  obtain ⟨w6760, ew6760⟩ : ∃ w : Int32, I (ad g 4) 1 = w := ⟨_, rfl⟩
  have bw6760 := BT_get hI.1 4 0 5 (0) (0) (1000) (by decide) 1 (by decide) (by decide)
  rw [ew6760] at bw6760
  obtain ⟨w6761, ew6761⟩ : ∃ w : Int32, I (ad g 4) 2 = w := ⟨_, rfl⟩
  have bw6761 := BT_get hI.1 4 0 5 (0) (0) (1000) (by decide) 2 (by decide) (by decide)
  rw [ew6761] at bw6761
  obtain ⟨w6762, ew6762⟩ : ∃ w : Int32, I (ad g 27) 1 = w := ⟨_, rfl⟩
  have bw6762 := BT_get hI.1 27 1 2 (0) (0) (4) (by decide) 1 (by decide) (by decide)
  rw [ew6762] at bw6762
  obtain ⟨w6763, ew6763⟩ : ∃ w : Int32, I (ad g 27) 2 = w := ⟨_, rfl⟩
  have bw6763 := BT_get hI.1 27 2 3 (0) (0) (3) (by decide) 2 (by decide) (by decide)
  rw [ew6763] at bw6763
  refine WP_aload_n dX3_faultOfNumber_0 rfl ?_
  refine WP_getr dX3_faultOfNumber_1 fX3_15 rfl (lyx_is hy 3 3 rfl) (rfx hr 3 2 1 (by decide)) ?_
  refine WQ_getiu dX3_faultOfNumber_4 fX3_118 rfl (lyx_is hy 1 5 rfl) (fun v6764 ev6764 => ?_)
  refine WP_istore (ls' := [(0, _), (1, _), (2, _), (3, _), (4, _), (5, _)]) dX3_faultOfNumber_7 (by decide) rfl ?_
  refine WP_iload dX3_faultOfNumber_9 rfl ?_
  refine WP_iload_n dX3_faultOfNumber_11 rfl ?_
  refine WP_callS1 dX3_faultOfNumber_12 ⟨⟨⟨by decide, by decide⟩, zX3_leastOf⟩, lX3_121, tX3_leastOf⟩ (sx_leastOf hy hr hI pa ) (Nat.le_of_ble_eq_true rfl) ?_
  intro r Ia Ja Ra hq
  obtain ⟨⟨ea, eb, ec⟩, v6765, rfl, av6765, bv6765⟩ := hq
  show WP _ _ _ _ (.int _ :: _) _ _ _ _
  rw [ea, eb, ec]
  clear ea eb ec Ia Ja Ra
  refine WQ_icmp_lt 27 dX3_faultOfNumber_15 rfl (fun c6765 => ?_) (fun c6765 => ?_)
  · refine WQ_iconst (2) (2) dX3_faultOfNumber_27 rfl rfl (fun v6767 hv6767 => ?_)
    obtain ⟨w6768, ew6768⟩ : ∃ w : Int32, I (ad g 4) 3 = w := ⟨_, rfl⟩
    have bw6768 := BT_get hI.1 4 0 5 (0) (0) (1000) (by decide) 3 (by decide) (by decide)
    rw [ew6768] at bw6768
    exact WP_iret dX3_faultOfNumber_28 rfl ⟨⟨hI, rfl, ⟨trivial, rfl, rfl, rfl, rfl, rfl⟩⟩, _, rfl, by omega, by omega, by (try rw [ew6768]); omega⟩
  · refine WP_iload dX3_faultOfNumber_18 rfl ?_
    refine WP_iload_n dX3_faultOfNumber_20 rfl ?_
    refine WP_callS1 dX3_faultOfNumber_21 ⟨⟨⟨by decide, by decide⟩, zX3_mostOf⟩, lX3_125, tX3_mostOf⟩ (sx_mostOf hy hr hI pa ) (Nat.le_of_ble_eq_true rfl) ?_
    intro r Ia Ja Ra hq
    obtain ⟨⟨ea, eb, ec⟩, v6769, rfl, av6769, bv6769, cv6769⟩ := hq
    show WP _ _ _ _ (.int _ :: _) _ _ _ _
    rw [ea, eb, ec]
    clear ea eb ec Ia Ja Ra
    refine WQ_icmp_le 29 dX3_faultOfNumber_24 rfl (fun c6769 => ?_) (fun c6769 => ?_)
    · refine WP_aload_n dX3_faultOfNumber_29 rfl ?_
      refine WP_getr dX3_faultOfNumber_30 fX3_9 rfl (lyx_is hy 3 3 rfl) (rfx hr 3 3 4 (by decide)) ?_
      refine WP_iload_n dX3_faultOfNumber_33 rfl ?_
      refine WP_iload dX3_faultOfNumber_34 rfl ?_
      refine WQ_iast dX3_faultOfNumber_36 (lyx_is hy 4 13 rfl) (lyx_n hy 4 5 rfl) (by omega) (by omega) (fun I6771 fI6771 => ?_)
      have eI6771 := fI6771
      rw [cl (x := ix) (n := 3) (by omega)] at eI6771
      clear fI6771
      have hI6771 : XI g n L I6771 := by rw [eI6771]; exact (xi_f hy hI (c := 4) (0) (0) (1000) (by decide) (Or.inl (by decide)) (by decide) (by omega) (by omega))
      have e6772 : I6771 (ad g 1) 1 = L := by rw [eI6771, pp_ne _ _ (Or.inl (lyx_ne hy (by decide) (by decide) (by decide)))]; exact e6757
      have e6773 : I6771 (ad g 4) 0 = w6759 := by rw [eI6771, pp_ne _ _ (Or.inr (by decide))]; exact ew6759
      have e6774 : I6771 (ad g 4) 1 = w6760 := by rw [eI6771, pp_ne _ _ (Or.inr (by decide))]; exact ew6760
      have e6775 : I6771 (ad g 4) 2 = w6761 := by rw [eI6771, pp_ne _ _ (Or.inr (by decide))]; exact ew6761
      have e6776 : I6771 (ad g 27) 1 = w6762 := by rw [eI6771, pp_ne _ _ (Or.inl (lyx_ne hy (by decide) (by decide) (by decide)))]; exact ew6762
      have e6777 : I6771 (ad g 27) 2 = w6763 := by rw [eI6771, pp_ne _ _ (Or.inl (lyx_ne hy (by decide) (by decide) (by decide)))]; exact ew6763
      have e6778 : I6771 (ad g 1) 4 = v6764 := by rw [eI6771, pp_ne _ _ (Or.inl (lyx_ne hy (by decide) (by decide) (by decide)))]; exact ev6764
      have e6779 : I6771 (ad g 4) 3 = v6764 := by rw [eI6771, pp_self]
      clear eI6771
      refine WP_iload_n dX3_faultOfNumber_37 rfl ?_
      refine WQ_bipush (68) (68) dX3_faultOfNumber_38 rfl rfl (fun v6780 hv6780 => ?_)
      refine WQ_icmp_eq 45 dX3_faultOfNumber_40 rfl (fun c6780 => False.elim (by omega)) (fun c6780 => ?_)
      refine WQ_iconst (0) (0) dX3_faultOfNumber_43 rfl rfl (fun v6782 hv6782 => ?_)
      exact WP_iret dX3_faultOfNumber_44 rfl ⟨⟨hI6771, rfl, ⟨trivial, (by rw [e6773, ew6759] <;> exact (eq32 _ _).mpr (by omega)), (by rw [e6774, ew6760] <;> exact (eq32 _ _).mpr (by omega)), (by rw [e6775, ew6761] <;> exact (eq32 _ _).mpr (by omega)), (by rw [e6776, ew6762] <;> exact (eq32 _ _).mpr (by omega)), (by rw [e6777, ew6763] <;> exact (eq32 _ _).mpr (by omega))⟩⟩, _, rfl, by omega, by omega, by (try rw [e6779]); omega⟩
    · refine WQ_iconst (2) (2) dX3_faultOfNumber_27 rfl rfl (fun v6783 hv6783 => ?_)
      obtain ⟨w6784, ew6784⟩ : ∃ w : Int32, I (ad g 4) 3 = w := ⟨_, rfl⟩
      have bw6784 := BT_get hI.1 4 0 5 (0) (0) (1000) (by decide) 3 (by decide) (by decide)
      rw [ew6784] at bw6784
      exact WP_iret dX3_faultOfNumber_28 rfl ⟨⟨hI, rfl, ⟨trivial, rfl, rfl, rfl, rfl, rfl⟩⟩, _, rfl, by omega, by omega, by (try rw [ew6784]); omega⟩
set_option maxHeartbeats 4000000 in
set_option maxRecDepth 100000 in
theorem sx_part_27_6_4 {g : GG} {n : Int} {L : Int32} (hy : LyX g)  {I : pI} {J : pJ} {R : pR} (hr : RfX g R) (hI : XI g n L I) (pa : Int32) (cz : Int32) (ix : Int32) (pa_lo : 86 ≤ pa.toInt) (pa_hi : pa.toInt ≤ 86) (cz_lo : 6 ≤ cz.toInt) (cz_hi : cz.toInt ≤ 6) (ix_lo : 4 ≤ ix.toInt) (ix_hi : ix.toInt ≤ 4) : SP g mX3_faultOfNumber [.ref (ad g 3), .int pa, .int cz, .int ix, .ref (ad g 27)] I J R (fun r I' J' R' => (XI g n L I' ∧ R' = R ∧ True ∧ I' (ad g 4) 0 = I (ad g 4) 0 ∧ I' (ad g 4) 1 = I (ad g 4) 1 ∧ I' (ad g 4) 2 = I (ad g 4) 2 ∧ I' (ad g 4) 3 = I (ad g 4) 3 ∧ I' (ad g 27) 1 = I (ad g 27) 1 ∧ I' (ad g 27) 2 = I (ad g 27) 2) ∧ ∃ v : Int32, r = some (.int v) ∧ 0 ≤ v.toInt ∧ v.toInt ≤ 5 ∧ (v.toInt = 0 → (I' (ad g 4) 4).toInt ≤ 99)) := by
  refine SP_of ⟨by decide, rfl⟩ (Nat.le_of_ble_eq_true rfl) ?_
  have e6785 : I (ad g 1) 1 = L := hI.2
  have b6786 := BT_get hI.1 1 1 2 (0) (0) (900) (by decide) 1 (by decide) (by decide)
  rw [e6785] at b6786
  obtain ⟨w6787, ew6787⟩ : ∃ w : Int32, I (ad g 4) 0 = w := ⟨_, rfl⟩
  have bw6787 := BT_get hI.1 4 0 5 (0) (0) (1000) (by decide) 0 (by decide) (by decide)
  rw [ew6787] at bw6787
  obtain ⟨w6788, ew6788⟩ : ∃ w : Int32, I (ad g 4) 1 = w := ⟨_, rfl⟩
  have bw6788 := BT_get hI.1 4 0 5 (0) (0) (1000) (by decide) 1 (by decide) (by decide)
  rw [ew6788] at bw6788
  obtain ⟨w6789, ew6789⟩ : ∃ w : Int32, I (ad g 4) 2 = w := ⟨_, rfl⟩
  have bw6789 := BT_get hI.1 4 0 5 (0) (0) (1000) (by decide) 2 (by decide) (by decide)
  rw [ew6789] at bw6789
  obtain ⟨w6790, ew6790⟩ : ∃ w : Int32, I (ad g 4) 3 = w := ⟨_, rfl⟩
  have bw6790 := BT_get hI.1 4 0 5 (0) (0) (1000) (by decide) 3 (by decide) (by decide)
  rw [ew6790] at bw6790
  obtain ⟨w6791, ew6791⟩ : ∃ w : Int32, I (ad g 27) 1 = w := ⟨_, rfl⟩
  have bw6791 := BT_get hI.1 27 1 2 (0) (0) (4) (by decide) 1 (by decide) (by decide)
  rw [ew6791] at bw6791
  obtain ⟨w6792, ew6792⟩ : ∃ w : Int32, I (ad g 27) 2 = w := ⟨_, rfl⟩
  have bw6792 := BT_get hI.1 27 2 3 (0) (0) (3) (by decide) 2 (by decide) (by decide)
  rw [ew6792] at bw6792
  refine WP_aload_n dX3_faultOfNumber_0 rfl ?_
  refine WP_getr dX3_faultOfNumber_1 fX3_15 rfl (lyx_is hy 3 3 rfl) (rfx hr 3 2 1 (by decide)) ?_
  refine WQ_getiu dX3_faultOfNumber_4 fX3_118 rfl (lyx_is hy 1 5 rfl) (fun v6793 ev6793 => ?_)
  refine WP_istore (ls' := [(0, _), (1, _), (2, _), (3, _), (4, _), (5, _)]) dX3_faultOfNumber_7 (by decide) rfl ?_
  refine WP_iload dX3_faultOfNumber_9 rfl ?_
  refine WP_iload_n dX3_faultOfNumber_11 rfl ?_
  refine WP_callS1 dX3_faultOfNumber_12 ⟨⟨⟨by decide, by decide⟩, zX3_leastOf⟩, lX3_121, tX3_leastOf⟩ (sx_leastOf hy hr hI pa ) (Nat.le_of_ble_eq_true rfl) ?_
  intro r Ia Ja Ra hq
  obtain ⟨⟨ea, eb, ec⟩, v6794, rfl, av6794, bv6794⟩ := hq
  show WP _ _ _ _ (.int _ :: _) _ _ _ _
  rw [ea, eb, ec]
  clear ea eb ec Ia Ja Ra
  refine WQ_icmp_lt 27 dX3_faultOfNumber_15 rfl (fun c6794 => ?_) (fun c6794 => ?_)
  · refine WQ_iconst (2) (2) dX3_faultOfNumber_27 rfl rfl (fun v6796 hv6796 => ?_)
    obtain ⟨w6797, ew6797⟩ : ∃ w : Int32, I (ad g 4) 4 = w := ⟨_, rfl⟩
    have bw6797 := BT_get hI.1 4 0 5 (0) (0) (1000) (by decide) 4 (by decide) (by decide)
    rw [ew6797] at bw6797
    exact WP_iret dX3_faultOfNumber_28 rfl ⟨⟨hI, rfl, ⟨trivial, rfl, rfl, rfl, rfl, rfl, rfl⟩⟩, _, rfl, by omega, by omega, by (try rw [ew6797]); omega⟩
  · refine WP_iload dX3_faultOfNumber_18 rfl ?_
    refine WP_iload_n dX3_faultOfNumber_20 rfl ?_
    refine WP_callS1 dX3_faultOfNumber_21 ⟨⟨⟨by decide, by decide⟩, zX3_mostOf⟩, lX3_125, tX3_mostOf⟩ (sx_mostOf hy hr hI pa ) (Nat.le_of_ble_eq_true rfl) ?_
    intro r Ia Ja Ra hq
    obtain ⟨⟨ea, eb, ec⟩, v6798, rfl, av6798, bv6798, cv6798⟩ := hq
    show WP _ _ _ _ (.int _ :: _) _ _ _ _
    rw [ea, eb, ec]
    clear ea eb ec Ia Ja Ra
    refine WQ_icmp_le 29 dX3_faultOfNumber_24 rfl (fun c6798 => ?_) (fun c6798 => ?_)
    · refine WP_aload_n dX3_faultOfNumber_29 rfl ?_
      refine WP_getr dX3_faultOfNumber_30 fX3_9 rfl (lyx_is hy 3 3 rfl) (rfx hr 3 3 4 (by decide)) ?_
      refine WP_iload_n dX3_faultOfNumber_33 rfl ?_
      refine WP_iload dX3_faultOfNumber_34 rfl ?_
      refine WQ_iast dX3_faultOfNumber_36 (lyx_is hy 4 13 rfl) (lyx_n hy 4 5 rfl) (by omega) (by omega) (fun I6800 fI6800 => ?_)
      have eI6800 := fI6800
      rw [cl (x := ix) (n := 4) (by omega)] at eI6800
      clear fI6800
      have hI6800 : XI g n L I6800 := by rw [eI6800]; exact (xi_f hy hI (c := 4) (0) (0) (1000) (by decide) (Or.inl (by decide)) (by decide) (by omega) (by omega))
      have e6801 : I6800 (ad g 1) 1 = L := by rw [eI6800, pp_ne _ _ (Or.inl (lyx_ne hy (by decide) (by decide) (by decide)))]; exact e6785
      have e6802 : I6800 (ad g 4) 0 = w6787 := by rw [eI6800, pp_ne _ _ (Or.inr (by decide))]; exact ew6787
      have e6803 : I6800 (ad g 4) 1 = w6788 := by rw [eI6800, pp_ne _ _ (Or.inr (by decide))]; exact ew6788
      have e6804 : I6800 (ad g 4) 2 = w6789 := by rw [eI6800, pp_ne _ _ (Or.inr (by decide))]; exact ew6789
      have e6805 : I6800 (ad g 4) 3 = w6790 := by rw [eI6800, pp_ne _ _ (Or.inr (by decide))]; exact ew6790
      have e6806 : I6800 (ad g 27) 1 = w6791 := by rw [eI6800, pp_ne _ _ (Or.inl (lyx_ne hy (by decide) (by decide) (by decide)))]; exact ew6791
      have e6807 : I6800 (ad g 27) 2 = w6792 := by rw [eI6800, pp_ne _ _ (Or.inl (lyx_ne hy (by decide) (by decide) (by decide)))]; exact ew6792
      have e6808 : I6800 (ad g 1) 4 = v6793 := by rw [eI6800, pp_ne _ _ (Or.inl (lyx_ne hy (by decide) (by decide) (by decide)))]; exact ev6793
      have e6809 : I6800 (ad g 4) 4 = v6793 := by rw [eI6800, pp_self]
      clear eI6800
      refine WP_iload_n dX3_faultOfNumber_37 rfl ?_
      refine WQ_bipush (68) (68) dX3_faultOfNumber_38 rfl rfl (fun v6810 hv6810 => ?_)
      refine WQ_icmp_eq 45 dX3_faultOfNumber_40 rfl (fun c6810 => False.elim (by omega)) (fun c6810 => ?_)
      refine WQ_iconst (0) (0) dX3_faultOfNumber_43 rfl rfl (fun v6812 hv6812 => ?_)
      exact WP_iret dX3_faultOfNumber_44 rfl ⟨⟨hI6800, rfl, ⟨trivial, (by rw [e6802, ew6787] <;> exact (eq32 _ _).mpr (by omega)), (by rw [e6803, ew6788] <;> exact (eq32 _ _).mpr (by omega)), (by rw [e6804, ew6789] <;> exact (eq32 _ _).mpr (by omega)), (by rw [e6805, ew6790] <;> exact (eq32 _ _).mpr (by omega)), (by rw [e6806, ew6791] <;> exact (eq32 _ _).mpr (by omega)), (by rw [e6807, ew6792] <;> exact (eq32 _ _).mpr (by omega))⟩⟩, _, rfl, by omega, by omega, by (try rw [e6809]); omega⟩
    · refine WQ_iconst (2) (2) dX3_faultOfNumber_27 rfl rfl (fun v6813 hv6813 => ?_)
      obtain ⟨w6814, ew6814⟩ : ∃ w : Int32, I (ad g 4) 4 = w := ⟨_, rfl⟩
      have bw6814 := BT_get hI.1 4 0 5 (0) (0) (1000) (by decide) 4 (by decide) (by decide)
      rw [ew6814] at bw6814
      exact WP_iret dX3_faultOfNumber_28 rfl ⟨⟨hI, rfl, ⟨trivial, rfl, rfl, rfl, rfl, rfl, rfl⟩⟩, _, rfl, by omega, by omega, by (try rw [ew6814]); omega⟩
set_option maxHeartbeats 4000000 in
set_option maxRecDepth 100000 in
theorem sx_part_27_7_0 {g : GG} {n : Int} {L : Int32} (hy : LyX g)  {I : pI} {J : pJ} {R : pR} (hr : RfX g R) (hI : XI g n L I) (pa : Int32) (cz : Int32) (ix : Int32) (pa_lo : 115 ≤ pa.toInt) (pa_hi : pa.toInt ≤ 115) (cz_lo : 7 ≤ cz.toInt) (cz_hi : cz.toInt ≤ 7) (ix_lo : 0 ≤ ix.toInt) (ix_hi : ix.toInt ≤ 0) : SP g mX3_faultOfName [.ref (ad g 3), .int pa, .int cz, .int ix, .ref (ad g 27)] I J R (fun r I' J' R' => (XI g n L I' ∧ R' = R ∧ True ∧ I' (ad g 27) 1 = I (ad g 27) 1 ∧ I' (ad g 27) 2 = I (ad g 27) 2) ∧ ∃ v : Int32, r = some (.int v) ∧ 0 ≤ v.toInt ∧ v.toInt ≤ 5 ∧ (v.toInt = 0 → (I' (ad g 4) 0).toInt ≤ 3)) := by
  refine SP_of ⟨by decide, rfl⟩ (Nat.le_of_ble_eq_true rfl) ?_
  have e6815 : I (ad g 1) 1 = L := hI.2
  have b6816 := BT_get hI.1 1 1 2 (0) (0) (900) (by decide) 1 (by decide) (by decide)
  rw [e6815] at b6816
  obtain ⟨w6817, ew6817⟩ : ∃ w : Int32, I (ad g 27) 1 = w := ⟨_, rfl⟩
  have bw6817 := BT_get hI.1 27 1 2 (0) (0) (4) (by decide) 1 (by decide) (by decide)
  rw [ew6817] at bw6817
  obtain ⟨w6818, ew6818⟩ : ∃ w : Int32, I (ad g 27) 2 = w := ⟨_, rfl⟩
  have bw6818 := BT_get hI.1 27 2 3 (0) (0) (3) (by decide) 2 (by decide) (by decide)
  rw [ew6818] at bw6818
  refine WP_iload_n dX3_faultOfName_0 rfl ?_
  refine WQ_bipush (115) (115) dX3_faultOfName_1 rfl rfl (fun v6819 hv6819 => ?_)
  refine WQ_icmp_eq 12 dX3_faultOfName_3 rfl (fun c6819 => ?_) (fun c6819 => False.elim (by omega))
  refine WQ_iconst (1) (1) dX3_faultOfName_12 rfl rfl (fun v6821 hv6821 => ?_)
  refine WP_goto 17 dX3_faultOfName_13 rfl ?_
  refine WP_istore (ls' := [(0, _), (1, _), (2, _), (3, _), (4, _), (5, _)]) dX3_faultOfName_17 (by decide) rfl ?_
  refine WP_iload dX3_faultOfName_19 rfl ?_
  refine WQ_if_eq 39 dX3_faultOfName_21 rfl (fun c6821 => False.elim (by omega)) (fun c6821 => ?_)
  refine WP_aload dX3_faultOfName_24 rfl ?_
  refine WP_aload_n dX3_faultOfName_26 rfl ?_
  refine WP_getr dX3_faultOfName_27 fX3_15 rfl (lyx_is hy 3 3 rfl) (rfx hr 3 2 1 (by decide)) ?_
  refine WQ_getl dX3_faultOfName_30 fX3_80 rfl (lyx_is hy 1 5 rfl) (fun l6823 el6823 => ?_)
  refine WP_callV1 (k := 7) dX3_faultOfName_33 ⟨⟨⟨by decide, by decide⟩, zX7_sortNamed⟩, lX3_103, by decide, rfl, vX7_sortNamed.1, vX7_sortNamed.2⟩ (lyx_is hy 27 7 rfl) (sx_sortNamed_27 hy hr hI l6823 ) (Nat.le_of_ble_eq_true rfl) ?_
  intro r Ia Ja Ra hq
  obtain ⟨⟨ea, eb, ec⟩, v6824, rfl, av6824, bv6824⟩ := hq
  show WP _ _ _ _ (.int _ :: _) _ _ _ _
  rw [ea, eb, ec]
  clear ea eb ec Ia Ja Ra
  refine WP_goto 51 dX3_faultOfName_36 rfl ?_
  refine WP_istore (ls' := [(0, _), (1, _), (2, _), (3, _), (4, _), (5, _), (6, _)]) dX3_faultOfName_51 (by decide) rfl ?_
  refine WP_iload_n dX3_faultOfName_53 rfl ?_
  refine WQ_bipush (110) (110) dX3_faultOfName_54 rfl rfl (fun v6825 hv6825 => ?_)
  refine WQ_icmp_eq 65 dX3_faultOfName_56 rfl (fun c6825 => False.elim (by omega)) (fun c6825 => ?_)
  refine WP_iload_n dX3_faultOfName_59 rfl ?_
  refine WQ_bipush (109) (109) dX3_faultOfName_60 rfl rfl (fun v6827 hv6827 => ?_)
  refine WQ_icmp_ne 98 dX3_faultOfName_62 rfl (fun c6827 => ?_) (fun c6827 => False.elim (by omega))
  refine WP_iload dX3_faultOfName_98 rfl ?_
  refine WQ_iconst (-1) (-1) dX3_faultOfName_100 rfl rfl (fun v6829 hv6829 => ?_)
  refine WQ_icmp_ne 106 dX3_faultOfName_101 rfl (fun c6829 => ?_) (fun c6829 => ?_)
  · refine WP_aload_n dX3_faultOfName_106 rfl ?_
    refine WP_getr dX3_faultOfName_107 fX3_9 rfl (lyx_is hy 3 3 rfl) (rfx hr 3 3 4 (by decide)) ?_
    refine WP_iload_n dX3_faultOfName_110 rfl ?_
    refine WP_iload dX3_faultOfName_111 rfl ?_
    refine WQ_iast dX3_faultOfName_113 (lyx_is hy 4 13 rfl) (lyx_n hy 4 5 rfl) (by omega) (by omega) (fun I6831 fI6831 => ?_)
    have eI6831 := fI6831
    rw [cl (x := ix) (n := 0) (by omega)] at eI6831
    clear fI6831
    have hI6831 : XI g n L I6831 := by rw [eI6831]; exact (xi_f hy hI (c := 4) (0) (0) (1000) (by decide) (Or.inl (by decide)) (by decide) (by omega) (by omega))
    have e6832 : I6831 (ad g 1) 1 = L := by rw [eI6831, pp_ne _ _ (Or.inl (lyx_ne hy (by decide) (by decide) (by decide)))]; exact e6815
    have e6833 : I6831 (ad g 27) 1 = w6817 := by rw [eI6831, pp_ne _ _ (Or.inl (lyx_ne hy (by decide) (by decide) (by decide)))]; exact ew6817
    have e6834 : I6831 (ad g 27) 2 = w6818 := by rw [eI6831, pp_ne _ _ (Or.inl (lyx_ne hy (by decide) (by decide) (by decide)))]; exact ew6818
    have e6835 : I6831 (ad g 4) 0 = v6824 := by rw [eI6831, pp_self]
    clear eI6831
    refine WP_iload_n dX3_faultOfName_114 rfl ?_
    refine WQ_bipush (7) (7) dX3_faultOfName_115 rfl rfl (fun v6836 hv6836 => ?_)
    refine WQ_icmp_ne 137 dX3_faultOfName_117 rfl (fun c6836 => False.elim (by omega)) (fun c6836 => ?_)
    refine WP_aload dX3_faultOfName_120 rfl ?_
    refine WQ_bipush (7) (7) dX3_faultOfName_122 rfl rfl (fun v6838 hv6838 => ?_)
    refine WP_iload dX3_faultOfName_124 rfl ?_
    refine WQ_iconst (0) (0) dX3_faultOfName_126 rfl rfl (fun v6839 hv6839 => ?_)
    refine WP_callV3 (k := 7) dX3_faultOfName_127 ⟨⟨⟨by decide, by decide⟩, zX7_isTold⟩, lX3_114, by decide, rfl, vX7_isTold.1, vX7_isTold.2⟩ (lyx_is hy 27 7 rfl) (sx_isTold_27 hy hr hI6831 v6838 v6824 v6839 (by omega) (by omega) (by omega) (by omega) ) (Nat.le_of_ble_eq_true rfl) ?_
    intro r Ia Ja Ra hq
    obtain ⟨⟨ea, eb, ec⟩, v6840, rfl, av6840, bv6840⟩ := hq
    show WP _ _ _ _ (.int _ :: _) _ _ _ _
    rw [ea, eb, ec]
    clear ea eb ec Ia Ja Ra
    refine WQ_if_eq 137 dX3_faultOfName_130 rfl (fun c6840 => ?_) (fun c6840 => ?_)
    · refine WQ_iconst (0) (0) dX3_faultOfName_137 rfl rfl (fun v6842 hv6842 => ?_)
      exact WP_iret dX3_faultOfName_138 rfl ⟨⟨hI6831, rfl, ⟨trivial, (by rw [e6833, ew6817] <;> exact (eq32 _ _).mpr (by omega)), (by rw [e6834, ew6818] <;> exact (eq32 _ _).mpr (by omega))⟩⟩, _, rfl, by omega, by omega, by (try rw [e6835]); omega⟩
    · refine WQ_iconst (3) (3) dX3_faultOfName_133 rfl rfl (fun v6843 hv6843 => ?_)
      refine WP_goto 138 dX3_faultOfName_134 rfl ?_
      exact WP_iret dX3_faultOfName_138 rfl ⟨⟨hI6831, rfl, ⟨trivial, (by rw [e6833, ew6817] <;> exact (eq32 _ _).mpr (by omega)), (by rw [e6834, ew6818] <;> exact (eq32 _ _).mpr (by omega))⟩⟩, _, rfl, by omega, by omega, by (try rw [e6835]); omega⟩
  · refine WQ_iconst (5) (5) dX3_faultOfName_104 rfl rfl (fun v6844 hv6844 => ?_)
    obtain ⟨w6845, ew6845⟩ : ∃ w : Int32, I (ad g 4) 0 = w := ⟨_, rfl⟩
    have bw6845 := BT_get hI.1 4 0 5 (0) (0) (1000) (by decide) 0 (by decide) (by decide)
    rw [ew6845] at bw6845
    exact WP_iret dX3_faultOfName_105 rfl ⟨⟨hI, rfl, ⟨trivial, rfl, rfl⟩⟩, _, rfl, by omega, by omega, by (try rw [ew6845]); omega⟩
set_option maxHeartbeats 4000000 in
set_option maxRecDepth 100000 in
theorem sx_part_27_7_1 {g : GG} {n : Int} {L : Int32} (hy : LyX g)  {I : pI} {J : pJ} {R : pR} (hr : RfX g R) (hI : XI g n L I) (pa : Int32) (cz : Int32) (ix : Int32) (pa_lo : 73 ≤ pa.toInt) (pa_hi : pa.toInt ≤ 73) (cz_lo : 7 ≤ cz.toInt) (cz_hi : cz.toInt ≤ 7) (ix_lo : 1 ≤ ix.toInt) (ix_hi : ix.toInt ≤ 1) : SP g mX3_faultOfNumber [.ref (ad g 3), .int pa, .int cz, .int ix, .ref (ad g 27)] I J R (fun r I' J' R' => (XI g n L I' ∧ R' = R ∧ True ∧ I' (ad g 4) 0 = I (ad g 4) 0 ∧ I' (ad g 27) 1 = I (ad g 27) 1 ∧ I' (ad g 27) 2 = I (ad g 27) 2) ∧ ∃ v : Int32, r = some (.int v) ∧ 0 ≤ v.toInt ∧ v.toInt ≤ 5 ∧ (v.toInt = 0 → (I' (ad g 4) 1).toInt ≤ 127)) := by
  refine SP_of ⟨by decide, rfl⟩ (Nat.le_of_ble_eq_true rfl) ?_
  have e6846 : I (ad g 1) 1 = L := hI.2
  have b6847 := BT_get hI.1 1 1 2 (0) (0) (900) (by decide) 1 (by decide) (by decide)
  rw [e6846] at b6847
  obtain ⟨w6848, ew6848⟩ : ∃ w : Int32, I (ad g 4) 0 = w := ⟨_, rfl⟩
  have bw6848 := BT_get hI.1 4 0 5 (0) (0) (1000) (by decide) 0 (by decide) (by decide)
  rw [ew6848] at bw6848
  obtain ⟨w6849, ew6849⟩ : ∃ w : Int32, I (ad g 27) 1 = w := ⟨_, rfl⟩
  have bw6849 := BT_get hI.1 27 1 2 (0) (0) (4) (by decide) 1 (by decide) (by decide)
  rw [ew6849] at bw6849
  obtain ⟨w6850, ew6850⟩ : ∃ w : Int32, I (ad g 27) 2 = w := ⟨_, rfl⟩
  have bw6850 := BT_get hI.1 27 2 3 (0) (0) (3) (by decide) 2 (by decide) (by decide)
  rw [ew6850] at bw6850
  refine WP_aload_n dX3_faultOfNumber_0 rfl ?_
  refine WP_getr dX3_faultOfNumber_1 fX3_15 rfl (lyx_is hy 3 3 rfl) (rfx hr 3 2 1 (by decide)) ?_
  refine WQ_getiu dX3_faultOfNumber_4 fX3_118 rfl (lyx_is hy 1 5 rfl) (fun v6851 ev6851 => ?_)
  refine WP_istore (ls' := [(0, _), (1, _), (2, _), (3, _), (4, _), (5, _)]) dX3_faultOfNumber_7 (by decide) rfl ?_
  refine WP_iload dX3_faultOfNumber_9 rfl ?_
  refine WP_iload_n dX3_faultOfNumber_11 rfl ?_
  refine WP_callS1 dX3_faultOfNumber_12 ⟨⟨⟨by decide, by decide⟩, zX3_leastOf⟩, lX3_121, tX3_leastOf⟩ (sx_leastOf hy hr hI pa ) (Nat.le_of_ble_eq_true rfl) ?_
  intro r Ia Ja Ra hq
  obtain ⟨⟨ea, eb, ec⟩, v6852, rfl, av6852, bv6852⟩ := hq
  show WP _ _ _ _ (.int _ :: _) _ _ _ _
  rw [ea, eb, ec]
  clear ea eb ec Ia Ja Ra
  refine WQ_icmp_lt 27 dX3_faultOfNumber_15 rfl (fun c6852 => ?_) (fun c6852 => ?_)
  · refine WQ_iconst (2) (2) dX3_faultOfNumber_27 rfl rfl (fun v6854 hv6854 => ?_)
    obtain ⟨w6855, ew6855⟩ : ∃ w : Int32, I (ad g 4) 1 = w := ⟨_, rfl⟩
    have bw6855 := BT_get hI.1 4 0 5 (0) (0) (1000) (by decide) 1 (by decide) (by decide)
    rw [ew6855] at bw6855
    exact WP_iret dX3_faultOfNumber_28 rfl ⟨⟨hI, rfl, ⟨trivial, rfl, rfl, rfl⟩⟩, _, rfl, by omega, by omega, by (try rw [ew6855]); omega⟩
  · refine WP_iload dX3_faultOfNumber_18 rfl ?_
    refine WP_iload_n dX3_faultOfNumber_20 rfl ?_
    refine WP_callS1 dX3_faultOfNumber_21 ⟨⟨⟨by decide, by decide⟩, zX3_mostOf⟩, lX3_125, tX3_mostOf⟩ (sx_mostOf hy hr hI pa ) (Nat.le_of_ble_eq_true rfl) ?_
    intro r Ia Ja Ra hq
    obtain ⟨⟨ea, eb, ec⟩, v6856, rfl, av6856, bv6856, cv6856⟩ := hq
    show WP _ _ _ _ (.int _ :: _) _ _ _ _
    rw [ea, eb, ec]
    clear ea eb ec Ia Ja Ra
    refine WQ_icmp_le 29 dX3_faultOfNumber_24 rfl (fun c6856 => ?_) (fun c6856 => ?_)
    · refine WP_aload_n dX3_faultOfNumber_29 rfl ?_
      refine WP_getr dX3_faultOfNumber_30 fX3_9 rfl (lyx_is hy 3 3 rfl) (rfx hr 3 3 4 (by decide)) ?_
      refine WP_iload_n dX3_faultOfNumber_33 rfl ?_
      refine WP_iload dX3_faultOfNumber_34 rfl ?_
      refine WQ_iast dX3_faultOfNumber_36 (lyx_is hy 4 13 rfl) (lyx_n hy 4 5 rfl) (by omega) (by omega) (fun I6858 fI6858 => ?_)
      have eI6858 := fI6858
      rw [cl (x := ix) (n := 1) (by omega)] at eI6858
      clear fI6858
      have hI6858 : XI g n L I6858 := by rw [eI6858]; exact (xi_f hy hI (c := 4) (0) (0) (1000) (by decide) (Or.inl (by decide)) (by decide) (by omega) (by omega))
      have e6859 : I6858 (ad g 1) 1 = L := by rw [eI6858, pp_ne _ _ (Or.inl (lyx_ne hy (by decide) (by decide) (by decide)))]; exact e6846
      have e6860 : I6858 (ad g 4) 0 = w6848 := by rw [eI6858, pp_ne _ _ (Or.inr (by decide))]; exact ew6848
      have e6861 : I6858 (ad g 27) 1 = w6849 := by rw [eI6858, pp_ne _ _ (Or.inl (lyx_ne hy (by decide) (by decide) (by decide)))]; exact ew6849
      have e6862 : I6858 (ad g 27) 2 = w6850 := by rw [eI6858, pp_ne _ _ (Or.inl (lyx_ne hy (by decide) (by decide) (by decide)))]; exact ew6850
      have e6863 : I6858 (ad g 1) 4 = v6851 := by rw [eI6858, pp_ne _ _ (Or.inl (lyx_ne hy (by decide) (by decide) (by decide)))]; exact ev6851
      have e6864 : I6858 (ad g 4) 1 = v6851 := by rw [eI6858, pp_self]
      clear eI6858
      refine WP_iload_n dX3_faultOfNumber_37 rfl ?_
      refine WQ_bipush (68) (68) dX3_faultOfNumber_38 rfl rfl (fun v6865 hv6865 => ?_)
      refine WQ_icmp_eq 45 dX3_faultOfNumber_40 rfl (fun c6865 => False.elim (by omega)) (fun c6865 => ?_)
      refine WQ_iconst (0) (0) dX3_faultOfNumber_43 rfl rfl (fun v6867 hv6867 => ?_)
      exact WP_iret dX3_faultOfNumber_44 rfl ⟨⟨hI6858, rfl, ⟨trivial, (by rw [e6860, ew6848] <;> exact (eq32 _ _).mpr (by omega)), (by rw [e6861, ew6849] <;> exact (eq32 _ _).mpr (by omega)), (by rw [e6862, ew6850] <;> exact (eq32 _ _).mpr (by omega))⟩⟩, _, rfl, by omega, by omega, by (try rw [e6864]); omega⟩
    · refine WQ_iconst (2) (2) dX3_faultOfNumber_27 rfl rfl (fun v6868 hv6868 => ?_)
      obtain ⟨w6869, ew6869⟩ : ∃ w : Int32, I (ad g 4) 1 = w := ⟨_, rfl⟩
      have bw6869 := BT_get hI.1 4 0 5 (0) (0) (1000) (by decide) 1 (by decide) (by decide)
      rw [ew6869] at bw6869
      exact WP_iret dX3_faultOfNumber_28 rfl ⟨⟨hI, rfl, ⟨trivial, rfl, rfl, rfl⟩⟩, _, rfl, by omega, by omega, by (try rw [ew6869]); omega⟩
set_option maxHeartbeats 4000000 in
set_option maxRecDepth 100000 in
theorem sx_part_27_8_0 {g : GG} {n : Int} {L : Int32} (hy : LyX g)  {I : pI} {J : pJ} {R : pR} (hr : RfX g R) (hI : XI g n L I) (pa : Int32) (cz : Int32) (ix : Int32) (pa_lo : 115 ≤ pa.toInt) (pa_hi : pa.toInt ≤ 115) (cz_lo : 8 ≤ cz.toInt) (cz_hi : cz.toInt ≤ 8) (ix_lo : 0 ≤ ix.toInt) (ix_hi : ix.toInt ≤ 0) : SP g mX3_faultOfName [.ref (ad g 3), .int pa, .int cz, .int ix, .ref (ad g 27)] I J R (fun r I' J' R' => (XI g n L I' ∧ R' = R ∧ True ∧ I' (ad g 27) 1 = I (ad g 27) 1 ∧ I' (ad g 27) 2 = I (ad g 27) 2) ∧ ∃ v : Int32, r = some (.int v) ∧ 0 ≤ v.toInt ∧ v.toInt ≤ 5 ∧ (v.toInt = 0 → (I' (ad g 4) 0).toInt ≤ 3)) := by
  refine SP_of ⟨by decide, rfl⟩ (Nat.le_of_ble_eq_true rfl) ?_
  have e6870 : I (ad g 1) 1 = L := hI.2
  have b6871 := BT_get hI.1 1 1 2 (0) (0) (900) (by decide) 1 (by decide) (by decide)
  rw [e6870] at b6871
  obtain ⟨w6872, ew6872⟩ : ∃ w : Int32, I (ad g 27) 1 = w := ⟨_, rfl⟩
  have bw6872 := BT_get hI.1 27 1 2 (0) (0) (4) (by decide) 1 (by decide) (by decide)
  rw [ew6872] at bw6872
  obtain ⟨w6873, ew6873⟩ : ∃ w : Int32, I (ad g 27) 2 = w := ⟨_, rfl⟩
  have bw6873 := BT_get hI.1 27 2 3 (0) (0) (3) (by decide) 2 (by decide) (by decide)
  rw [ew6873] at bw6873
  refine WP_iload_n dX3_faultOfName_0 rfl ?_
  refine WQ_bipush (115) (115) dX3_faultOfName_1 rfl rfl (fun v6874 hv6874 => ?_)
  refine WQ_icmp_eq 12 dX3_faultOfName_3 rfl (fun c6874 => ?_) (fun c6874 => False.elim (by omega))
  refine WQ_iconst (1) (1) dX3_faultOfName_12 rfl rfl (fun v6876 hv6876 => ?_)
  refine WP_goto 17 dX3_faultOfName_13 rfl ?_
  refine WP_istore (ls' := [(0, _), (1, _), (2, _), (3, _), (4, _), (5, _)]) dX3_faultOfName_17 (by decide) rfl ?_
  refine WP_iload dX3_faultOfName_19 rfl ?_
  refine WQ_if_eq 39 dX3_faultOfName_21 rfl (fun c6876 => False.elim (by omega)) (fun c6876 => ?_)
  refine WP_aload dX3_faultOfName_24 rfl ?_
  refine WP_aload_n dX3_faultOfName_26 rfl ?_
  refine WP_getr dX3_faultOfName_27 fX3_15 rfl (lyx_is hy 3 3 rfl) (rfx hr 3 2 1 (by decide)) ?_
  refine WQ_getl dX3_faultOfName_30 fX3_80 rfl (lyx_is hy 1 5 rfl) (fun l6878 el6878 => ?_)
  refine WP_callV1 (k := 7) dX3_faultOfName_33 ⟨⟨⟨by decide, by decide⟩, zX7_sortNamed⟩, lX3_103, by decide, rfl, vX7_sortNamed.1, vX7_sortNamed.2⟩ (lyx_is hy 27 7 rfl) (sx_sortNamed_27 hy hr hI l6878 ) (Nat.le_of_ble_eq_true rfl) ?_
  intro r Ia Ja Ra hq
  obtain ⟨⟨ea, eb, ec⟩, v6879, rfl, av6879, bv6879⟩ := hq
  show WP _ _ _ _ (.int _ :: _) _ _ _ _
  rw [ea, eb, ec]
  clear ea eb ec Ia Ja Ra
  refine WP_goto 51 dX3_faultOfName_36 rfl ?_
  refine WP_istore (ls' := [(0, _), (1, _), (2, _), (3, _), (4, _), (5, _), (6, _)]) dX3_faultOfName_51 (by decide) rfl ?_
  refine WP_iload_n dX3_faultOfName_53 rfl ?_
  refine WQ_bipush (110) (110) dX3_faultOfName_54 rfl rfl (fun v6880 hv6880 => ?_)
  refine WQ_icmp_eq 65 dX3_faultOfName_56 rfl (fun c6880 => False.elim (by omega)) (fun c6880 => ?_)
  refine WP_iload_n dX3_faultOfName_59 rfl ?_
  refine WQ_bipush (109) (109) dX3_faultOfName_60 rfl rfl (fun v6882 hv6882 => ?_)
  refine WQ_icmp_ne 98 dX3_faultOfName_62 rfl (fun c6882 => ?_) (fun c6882 => False.elim (by omega))
  refine WP_iload dX3_faultOfName_98 rfl ?_
  refine WQ_iconst (-1) (-1) dX3_faultOfName_100 rfl rfl (fun v6884 hv6884 => ?_)
  refine WQ_icmp_ne 106 dX3_faultOfName_101 rfl (fun c6884 => ?_) (fun c6884 => ?_)
  · refine WP_aload_n dX3_faultOfName_106 rfl ?_
    refine WP_getr dX3_faultOfName_107 fX3_9 rfl (lyx_is hy 3 3 rfl) (rfx hr 3 3 4 (by decide)) ?_
    refine WP_iload_n dX3_faultOfName_110 rfl ?_
    refine WP_iload dX3_faultOfName_111 rfl ?_
    refine WQ_iast dX3_faultOfName_113 (lyx_is hy 4 13 rfl) (lyx_n hy 4 5 rfl) (by omega) (by omega) (fun I6886 fI6886 => ?_)
    have eI6886 := fI6886
    rw [cl (x := ix) (n := 0) (by omega)] at eI6886
    clear fI6886
    have hI6886 : XI g n L I6886 := by rw [eI6886]; exact (xi_f hy hI (c := 4) (0) (0) (1000) (by decide) (Or.inl (by decide)) (by decide) (by omega) (by omega))
    have e6887 : I6886 (ad g 1) 1 = L := by rw [eI6886, pp_ne _ _ (Or.inl (lyx_ne hy (by decide) (by decide) (by decide)))]; exact e6870
    have e6888 : I6886 (ad g 27) 1 = w6872 := by rw [eI6886, pp_ne _ _ (Or.inl (lyx_ne hy (by decide) (by decide) (by decide)))]; exact ew6872
    have e6889 : I6886 (ad g 27) 2 = w6873 := by rw [eI6886, pp_ne _ _ (Or.inl (lyx_ne hy (by decide) (by decide) (by decide)))]; exact ew6873
    have e6890 : I6886 (ad g 4) 0 = v6879 := by rw [eI6886, pp_self]
    clear eI6886
    refine WP_iload_n dX3_faultOfName_114 rfl ?_
    refine WQ_bipush (7) (7) dX3_faultOfName_115 rfl rfl (fun v6891 hv6891 => ?_)
    refine WQ_icmp_ne 137 dX3_faultOfName_117 rfl (fun c6891 => ?_) (fun c6891 => False.elim (by omega))
    refine WQ_iconst (0) (0) dX3_faultOfName_137 rfl rfl (fun v6893 hv6893 => ?_)
    exact WP_iret dX3_faultOfName_138 rfl ⟨⟨hI6886, rfl, ⟨trivial, (by rw [e6888, ew6872] <;> exact (eq32 _ _).mpr (by omega)), (by rw [e6889, ew6873] <;> exact (eq32 _ _).mpr (by omega))⟩⟩, _, rfl, by omega, by omega, by (try rw [e6890]); omega⟩
  · refine WQ_iconst (5) (5) dX3_faultOfName_104 rfl rfl (fun v6894 hv6894 => ?_)
    obtain ⟨w6895, ew6895⟩ : ∃ w : Int32, I (ad g 4) 0 = w := ⟨_, rfl⟩
    have bw6895 := BT_get hI.1 4 0 5 (0) (0) (1000) (by decide) 0 (by decide) (by decide)
    rw [ew6895] at bw6895
    exact WP_iret dX3_faultOfName_105 rfl ⟨⟨hI, rfl, ⟨trivial, rfl, rfl⟩⟩, _, rfl, by omega, by omega, by (try rw [ew6895]); omega⟩
set_option maxHeartbeats 4000000 in
set_option maxRecDepth 100000 in
theorem sx_part_27_9_0 {g : GG} {n : Int} {L : Int32} (hy : LyX g)  {I : pI} {J : pJ} {R : pR} (hr : RfX g R) (hI : XI g n L I) (pa : Int32) (cz : Int32) (ix : Int32) (pa_lo : 116 ≤ pa.toInt) (pa_hi : pa.toInt ≤ 116) (cz_lo : 9 ≤ cz.toInt) (cz_hi : cz.toInt ≤ 9) (ix_lo : 0 ≤ ix.toInt) (ix_hi : ix.toInt ≤ 0) : SP g mX3_faultOfName [.ref (ad g 3), .int pa, .int cz, .int ix, .ref (ad g 27)] I J R (fun r I' J' R' => (XI g n L I' ∧ R' = R ∧ True ∧ I' (ad g 27) 1 = I (ad g 27) 1 ∧ I' (ad g 27) 2 = I (ad g 27) 2) ∧ ∃ v : Int32, r = some (.int v) ∧ 0 ≤ v.toInt ∧ v.toInt ≤ 5 ∧ (v.toInt = 0 → (I' (ad g 4) 0).toInt ≤ 2)) := by
  refine SP_of ⟨by decide, rfl⟩ (Nat.le_of_ble_eq_true rfl) ?_
  have e6896 : I (ad g 1) 1 = L := hI.2
  have b6897 := BT_get hI.1 1 1 2 (0) (0) (900) (by decide) 1 (by decide) (by decide)
  rw [e6896] at b6897
  obtain ⟨w6898, ew6898⟩ : ∃ w : Int32, I (ad g 27) 1 = w := ⟨_, rfl⟩
  have bw6898 := BT_get hI.1 27 1 2 (0) (0) (4) (by decide) 1 (by decide) (by decide)
  rw [ew6898] at bw6898
  obtain ⟨w6899, ew6899⟩ : ∃ w : Int32, I (ad g 27) 2 = w := ⟨_, rfl⟩
  have bw6899 := BT_get hI.1 27 2 3 (0) (0) (3) (by decide) 2 (by decide) (by decide)
  rw [ew6899] at bw6899
  refine WP_iload_n dX3_faultOfName_0 rfl ?_
  refine WQ_bipush (115) (115) dX3_faultOfName_1 rfl rfl (fun v6900 hv6900 => ?_)
  refine WQ_icmp_eq 12 dX3_faultOfName_3 rfl (fun c6900 => False.elim (by omega)) (fun c6900 => ?_)
  refine WP_iload_n dX3_faultOfName_6 rfl ?_
  refine WQ_bipush (110) (110) dX3_faultOfName_7 rfl rfl (fun v6902 hv6902 => ?_)
  refine WQ_icmp_ne 16 dX3_faultOfName_9 rfl (fun c6902 => ?_) (fun c6902 => False.elim (by omega))
  refine WQ_iconst (0) (0) dX3_faultOfName_16 rfl rfl (fun v6904 hv6904 => ?_)
  refine WP_istore (ls' := [(0, _), (1, _), (2, _), (3, _), (4, _), (5, _)]) dX3_faultOfName_17 (by decide) rfl ?_
  refine WP_iload dX3_faultOfName_19 rfl ?_
  refine WQ_if_eq 39 dX3_faultOfName_21 rfl (fun c6904 => ?_) (fun c6904 => False.elim (by omega))
  refine WP_aload dX3_faultOfName_39 rfl ?_
  refine WP_aload_n dX3_faultOfName_41 rfl ?_
  refine WP_getr dX3_faultOfName_42 fX3_15 rfl (lyx_is hy 3 3 rfl) (rfx hr 3 2 1 (by decide)) ?_
  refine WQ_getl dX3_faultOfName_45 fX3_80 rfl (lyx_is hy 1 5 rfl) (fun l6906 el6906 => ?_)
  refine WP_callV1 (k := 7) dX3_faultOfName_48 ⟨⟨⟨by decide, by decide⟩, zX7_thingNamed⟩, lX3_107, by decide, rfl, vX7_thingNamed.1, vX7_thingNamed.2⟩ (lyx_is hy 27 7 rfl) (sx_thingNamed_27 hy hr hI l6906 ) (Nat.le_of_ble_eq_true rfl) ?_
  intro r Ia Ja Ra hq
  obtain ⟨⟨ea, eb, ec⟩, v6907, rfl, av6907, bv6907⟩ := hq
  show WP _ _ _ _ (.int _ :: _) _ _ _ _
  rw [ea, eb, ec]
  clear ea eb ec Ia Ja Ra
  refine WP_istore (ls' := [(0, _), (1, _), (2, _), (3, _), (4, _), (5, _), (6, _)]) dX3_faultOfName_51 (by decide) rfl ?_
  refine WP_iload_n dX3_faultOfName_53 rfl ?_
  refine WQ_bipush (110) (110) dX3_faultOfName_54 rfl rfl (fun v6908 hv6908 => ?_)
  refine WQ_icmp_eq 65 dX3_faultOfName_56 rfl (fun c6908 => False.elim (by omega)) (fun c6908 => ?_)
  refine WP_iload_n dX3_faultOfName_59 rfl ?_
  refine WQ_bipush (109) (109) dX3_faultOfName_60 rfl rfl (fun v6910 hv6910 => ?_)
  refine WQ_icmp_ne 98 dX3_faultOfName_62 rfl (fun c6910 => ?_) (fun c6910 => False.elim (by omega))
  refine WP_iload dX3_faultOfName_98 rfl ?_
  refine WQ_iconst (-1) (-1) dX3_faultOfName_100 rfl rfl (fun v6912 hv6912 => ?_)
  refine WQ_icmp_ne 106 dX3_faultOfName_101 rfl (fun c6912 => ?_) (fun c6912 => ?_)
  · refine WP_aload_n dX3_faultOfName_106 rfl ?_
    refine WP_getr dX3_faultOfName_107 fX3_9 rfl (lyx_is hy 3 3 rfl) (rfx hr 3 3 4 (by decide)) ?_
    refine WP_iload_n dX3_faultOfName_110 rfl ?_
    refine WP_iload dX3_faultOfName_111 rfl ?_
    refine WQ_iast dX3_faultOfName_113 (lyx_is hy 4 13 rfl) (lyx_n hy 4 5 rfl) (by omega) (by omega) (fun I6914 fI6914 => ?_)
    have eI6914 := fI6914
    rw [cl (x := ix) (n := 0) (by omega)] at eI6914
    clear fI6914
    have hI6914 : XI g n L I6914 := by rw [eI6914]; exact (xi_f hy hI (c := 4) (0) (0) (1000) (by decide) (Or.inl (by decide)) (by decide) (by omega) (by omega))
    have e6915 : I6914 (ad g 1) 1 = L := by rw [eI6914, pp_ne _ _ (Or.inl (lyx_ne hy (by decide) (by decide) (by decide)))]; exact e6896
    have e6916 : I6914 (ad g 27) 1 = w6898 := by rw [eI6914, pp_ne _ _ (Or.inl (lyx_ne hy (by decide) (by decide) (by decide)))]; exact ew6898
    have e6917 : I6914 (ad g 27) 2 = w6899 := by rw [eI6914, pp_ne _ _ (Or.inl (lyx_ne hy (by decide) (by decide) (by decide)))]; exact ew6899
    have e6918 : I6914 (ad g 4) 0 = v6907 := by rw [eI6914, pp_self]
    clear eI6914
    refine WP_iload_n dX3_faultOfName_114 rfl ?_
    refine WQ_bipush (7) (7) dX3_faultOfName_115 rfl rfl (fun v6919 hv6919 => ?_)
    refine WQ_icmp_ne 137 dX3_faultOfName_117 rfl (fun c6919 => ?_) (fun c6919 => False.elim (by omega))
    refine WQ_iconst (0) (0) dX3_faultOfName_137 rfl rfl (fun v6921 hv6921 => ?_)
    exact WP_iret dX3_faultOfName_138 rfl ⟨⟨hI6914, rfl, ⟨trivial, (by rw [e6916, ew6898] <;> exact (eq32 _ _).mpr (by omega)), (by rw [e6917, ew6899] <;> exact (eq32 _ _).mpr (by omega))⟩⟩, _, rfl, by omega, by omega, by (try rw [e6918]); omega⟩
  · refine WQ_iconst (5) (5) dX3_faultOfName_104 rfl rfl (fun v6922 hv6922 => ?_)
    obtain ⟨w6923, ew6923⟩ : ∃ w : Int32, I (ad g 4) 0 = w := ⟨_, rfl⟩
    have bw6923 := BT_get hI.1 4 0 5 (0) (0) (1000) (by decide) 0 (by decide) (by decide)
    rw [ew6923] at bw6923
    exact WP_iret dX3_faultOfName_105 rfl ⟨⟨hI, rfl, ⟨trivial, rfl, rfl⟩⟩, _, rfl, by omega, by omega, by (try rw [ew6923]); omega⟩
set_option maxHeartbeats 4000000 in
set_option maxRecDepth 100000 in
theorem sx_part_27_10_0 {g : GG} {n : Int} {L : Int32} (hy : LyX g)  {I : pI} {J : pJ} {R : pR} (hr : RfX g R) (hI : XI g n L I) (pa : Int32) (cz : Int32) (ix : Int32) (pa_lo : 115 ≤ pa.toInt) (pa_hi : pa.toInt ≤ 115) (cz_lo : 10 ≤ cz.toInt) (cz_hi : cz.toInt ≤ 10) (ix_lo : 0 ≤ ix.toInt) (ix_hi : ix.toInt ≤ 0) : SP g mX3_faultOfName [.ref (ad g 3), .int pa, .int cz, .int ix, .ref (ad g 27)] I J R (fun r I' J' R' => (XI g n L I' ∧ R' = R ∧ True ∧ I' (ad g 27) 1 = I (ad g 27) 1 ∧ I' (ad g 27) 2 = I (ad g 27) 2) ∧ ∃ v : Int32, r = some (.int v) ∧ 0 ≤ v.toInt ∧ v.toInt ≤ 5 ∧ (v.toInt = 0 → (I' (ad g 4) 0).toInt ≤ 3)) := by
  refine SP_of ⟨by decide, rfl⟩ (Nat.le_of_ble_eq_true rfl) ?_
  have e6924 : I (ad g 1) 1 = L := hI.2
  have b6925 := BT_get hI.1 1 1 2 (0) (0) (900) (by decide) 1 (by decide) (by decide)
  rw [e6924] at b6925
  obtain ⟨w6926, ew6926⟩ : ∃ w : Int32, I (ad g 27) 1 = w := ⟨_, rfl⟩
  have bw6926 := BT_get hI.1 27 1 2 (0) (0) (4) (by decide) 1 (by decide) (by decide)
  rw [ew6926] at bw6926
  obtain ⟨w6927, ew6927⟩ : ∃ w : Int32, I (ad g 27) 2 = w := ⟨_, rfl⟩
  have bw6927 := BT_get hI.1 27 2 3 (0) (0) (3) (by decide) 2 (by decide) (by decide)
  rw [ew6927] at bw6927
  refine WP_iload_n dX3_faultOfName_0 rfl ?_
  refine WQ_bipush (115) (115) dX3_faultOfName_1 rfl rfl (fun v6928 hv6928 => ?_)
  refine WQ_icmp_eq 12 dX3_faultOfName_3 rfl (fun c6928 => ?_) (fun c6928 => False.elim (by omega))
  refine WQ_iconst (1) (1) dX3_faultOfName_12 rfl rfl (fun v6930 hv6930 => ?_)
  refine WP_goto 17 dX3_faultOfName_13 rfl ?_
  refine WP_istore (ls' := [(0, _), (1, _), (2, _), (3, _), (4, _), (5, _)]) dX3_faultOfName_17 (by decide) rfl ?_
  refine WP_iload dX3_faultOfName_19 rfl ?_
  refine WQ_if_eq 39 dX3_faultOfName_21 rfl (fun c6930 => False.elim (by omega)) (fun c6930 => ?_)
  refine WP_aload dX3_faultOfName_24 rfl ?_
  refine WP_aload_n dX3_faultOfName_26 rfl ?_
  refine WP_getr dX3_faultOfName_27 fX3_15 rfl (lyx_is hy 3 3 rfl) (rfx hr 3 2 1 (by decide)) ?_
  refine WQ_getl dX3_faultOfName_30 fX3_80 rfl (lyx_is hy 1 5 rfl) (fun l6932 el6932 => ?_)
  refine WP_callV1 (k := 7) dX3_faultOfName_33 ⟨⟨⟨by decide, by decide⟩, zX7_sortNamed⟩, lX3_103, by decide, rfl, vX7_sortNamed.1, vX7_sortNamed.2⟩ (lyx_is hy 27 7 rfl) (sx_sortNamed_27 hy hr hI l6932 ) (Nat.le_of_ble_eq_true rfl) ?_
  intro r Ia Ja Ra hq
  obtain ⟨⟨ea, eb, ec⟩, v6933, rfl, av6933, bv6933⟩ := hq
  show WP _ _ _ _ (.int _ :: _) _ _ _ _
  rw [ea, eb, ec]
  clear ea eb ec Ia Ja Ra
  refine WP_goto 51 dX3_faultOfName_36 rfl ?_
  refine WP_istore (ls' := [(0, _), (1, _), (2, _), (3, _), (4, _), (5, _), (6, _)]) dX3_faultOfName_51 (by decide) rfl ?_
  refine WP_iload_n dX3_faultOfName_53 rfl ?_
  refine WQ_bipush (110) (110) dX3_faultOfName_54 rfl rfl (fun v6934 hv6934 => ?_)
  refine WQ_icmp_eq 65 dX3_faultOfName_56 rfl (fun c6934 => False.elim (by omega)) (fun c6934 => ?_)
  refine WP_iload_n dX3_faultOfName_59 rfl ?_
  refine WQ_bipush (109) (109) dX3_faultOfName_60 rfl rfl (fun v6936 hv6936 => ?_)
  refine WQ_icmp_ne 98 dX3_faultOfName_62 rfl (fun c6936 => ?_) (fun c6936 => False.elim (by omega))
  refine WP_iload dX3_faultOfName_98 rfl ?_
  refine WQ_iconst (-1) (-1) dX3_faultOfName_100 rfl rfl (fun v6938 hv6938 => ?_)
  refine WQ_icmp_ne 106 dX3_faultOfName_101 rfl (fun c6938 => ?_) (fun c6938 => ?_)
  · refine WP_aload_n dX3_faultOfName_106 rfl ?_
    refine WP_getr dX3_faultOfName_107 fX3_9 rfl (lyx_is hy 3 3 rfl) (rfx hr 3 3 4 (by decide)) ?_
    refine WP_iload_n dX3_faultOfName_110 rfl ?_
    refine WP_iload dX3_faultOfName_111 rfl ?_
    refine WQ_iast dX3_faultOfName_113 (lyx_is hy 4 13 rfl) (lyx_n hy 4 5 rfl) (by omega) (by omega) (fun I6940 fI6940 => ?_)
    have eI6940 := fI6940
    rw [cl (x := ix) (n := 0) (by omega)] at eI6940
    clear fI6940
    have hI6940 : XI g n L I6940 := by rw [eI6940]; exact (xi_f hy hI (c := 4) (0) (0) (1000) (by decide) (Or.inl (by decide)) (by decide) (by omega) (by omega))
    have e6941 : I6940 (ad g 1) 1 = L := by rw [eI6940, pp_ne _ _ (Or.inl (lyx_ne hy (by decide) (by decide) (by decide)))]; exact e6924
    have e6942 : I6940 (ad g 27) 1 = w6926 := by rw [eI6940, pp_ne _ _ (Or.inl (lyx_ne hy (by decide) (by decide) (by decide)))]; exact ew6926
    have e6943 : I6940 (ad g 27) 2 = w6927 := by rw [eI6940, pp_ne _ _ (Or.inl (lyx_ne hy (by decide) (by decide) (by decide)))]; exact ew6927
    have e6944 : I6940 (ad g 4) 0 = v6933 := by rw [eI6940, pp_self]
    clear eI6940
    refine WP_iload_n dX3_faultOfName_114 rfl ?_
    refine WQ_bipush (7) (7) dX3_faultOfName_115 rfl rfl (fun v6945 hv6945 => ?_)
    refine WQ_icmp_ne 137 dX3_faultOfName_117 rfl (fun c6945 => ?_) (fun c6945 => False.elim (by omega))
    refine WQ_iconst (0) (0) dX3_faultOfName_137 rfl rfl (fun v6947 hv6947 => ?_)
    exact WP_iret dX3_faultOfName_138 rfl ⟨⟨hI6940, rfl, ⟨trivial, (by rw [e6942, ew6926] <;> exact (eq32 _ _).mpr (by omega)), (by rw [e6943, ew6927] <;> exact (eq32 _ _).mpr (by omega))⟩⟩, _, rfl, by omega, by omega, by (try rw [e6944]); omega⟩
  · refine WQ_iconst (5) (5) dX3_faultOfName_104 rfl rfl (fun v6948 hv6948 => ?_)
    obtain ⟨w6949, ew6949⟩ : ∃ w : Int32, I (ad g 4) 0 = w := ⟨_, rfl⟩
    have bw6949 := BT_get hI.1 4 0 5 (0) (0) (1000) (by decide) 0 (by decide) (by decide)
    rw [ew6949] at bw6949
    exact WP_iret dX3_faultOfName_105 rfl ⟨⟨hI, rfl, ⟨trivial, rfl, rfl⟩⟩, _, rfl, by omega, by omega, by (try rw [ew6949]); omega⟩
set_option maxHeartbeats 4000000 in
set_option maxRecDepth 100000 in
theorem sx_part_27_10_1 {g : GG} {n : Int} {L : Int32} (hy : LyX g)  {I : pI} {J : pJ} {R : pR} (hr : RfX g R) (hI : XI g n L I) (pa : Int32) (cz : Int32) (ix : Int32) (pa_lo : 116 ≤ pa.toInt) (pa_hi : pa.toInt ≤ 116) (cz_lo : 10 ≤ cz.toInt) (cz_hi : cz.toInt ≤ 10) (ix_lo : 1 ≤ ix.toInt) (ix_hi : ix.toInt ≤ 1) : SP g mX3_faultOfName [.ref (ad g 3), .int pa, .int cz, .int ix, .ref (ad g 27)] I J R (fun r I' J' R' => (XI g n L I' ∧ R' = R ∧ True ∧ I' (ad g 4) 0 = I (ad g 4) 0 ∧ I' (ad g 27) 1 = I (ad g 27) 1 ∧ I' (ad g 27) 2 = I (ad g 27) 2) ∧ ∃ v : Int32, r = some (.int v) ∧ 0 ≤ v.toInt ∧ v.toInt ≤ 5 ∧ (v.toInt = 0 → (I' (ad g 4) 1).toInt ≤ 2)) := by
  refine SP_of ⟨by decide, rfl⟩ (Nat.le_of_ble_eq_true rfl) ?_
  have e6950 : I (ad g 1) 1 = L := hI.2
  have b6951 := BT_get hI.1 1 1 2 (0) (0) (900) (by decide) 1 (by decide) (by decide)
  rw [e6950] at b6951
  obtain ⟨w6952, ew6952⟩ : ∃ w : Int32, I (ad g 4) 0 = w := ⟨_, rfl⟩
  have bw6952 := BT_get hI.1 4 0 5 (0) (0) (1000) (by decide) 0 (by decide) (by decide)
  rw [ew6952] at bw6952
  obtain ⟨w6953, ew6953⟩ : ∃ w : Int32, I (ad g 27) 1 = w := ⟨_, rfl⟩
  have bw6953 := BT_get hI.1 27 1 2 (0) (0) (4) (by decide) 1 (by decide) (by decide)
  rw [ew6953] at bw6953
  obtain ⟨w6954, ew6954⟩ : ∃ w : Int32, I (ad g 27) 2 = w := ⟨_, rfl⟩
  have bw6954 := BT_get hI.1 27 2 3 (0) (0) (3) (by decide) 2 (by decide) (by decide)
  rw [ew6954] at bw6954
  refine WP_iload_n dX3_faultOfName_0 rfl ?_
  refine WQ_bipush (115) (115) dX3_faultOfName_1 rfl rfl (fun v6955 hv6955 => ?_)
  refine WQ_icmp_eq 12 dX3_faultOfName_3 rfl (fun c6955 => False.elim (by omega)) (fun c6955 => ?_)
  refine WP_iload_n dX3_faultOfName_6 rfl ?_
  refine WQ_bipush (110) (110) dX3_faultOfName_7 rfl rfl (fun v6957 hv6957 => ?_)
  refine WQ_icmp_ne 16 dX3_faultOfName_9 rfl (fun c6957 => ?_) (fun c6957 => False.elim (by omega))
  refine WQ_iconst (0) (0) dX3_faultOfName_16 rfl rfl (fun v6959 hv6959 => ?_)
  refine WP_istore (ls' := [(0, _), (1, _), (2, _), (3, _), (4, _), (5, _)]) dX3_faultOfName_17 (by decide) rfl ?_
  refine WP_iload dX3_faultOfName_19 rfl ?_
  refine WQ_if_eq 39 dX3_faultOfName_21 rfl (fun c6959 => ?_) (fun c6959 => False.elim (by omega))
  refine WP_aload dX3_faultOfName_39 rfl ?_
  refine WP_aload_n dX3_faultOfName_41 rfl ?_
  refine WP_getr dX3_faultOfName_42 fX3_15 rfl (lyx_is hy 3 3 rfl) (rfx hr 3 2 1 (by decide)) ?_
  refine WQ_getl dX3_faultOfName_45 fX3_80 rfl (lyx_is hy 1 5 rfl) (fun l6961 el6961 => ?_)
  refine WP_callV1 (k := 7) dX3_faultOfName_48 ⟨⟨⟨by decide, by decide⟩, zX7_thingNamed⟩, lX3_107, by decide, rfl, vX7_thingNamed.1, vX7_thingNamed.2⟩ (lyx_is hy 27 7 rfl) (sx_thingNamed_27 hy hr hI l6961 ) (Nat.le_of_ble_eq_true rfl) ?_
  intro r Ia Ja Ra hq
  obtain ⟨⟨ea, eb, ec⟩, v6962, rfl, av6962, bv6962⟩ := hq
  show WP _ _ _ _ (.int _ :: _) _ _ _ _
  rw [ea, eb, ec]
  clear ea eb ec Ia Ja Ra
  refine WP_istore (ls' := [(0, _), (1, _), (2, _), (3, _), (4, _), (5, _), (6, _)]) dX3_faultOfName_51 (by decide) rfl ?_
  refine WP_iload_n dX3_faultOfName_53 rfl ?_
  refine WQ_bipush (110) (110) dX3_faultOfName_54 rfl rfl (fun v6963 hv6963 => ?_)
  refine WQ_icmp_eq 65 dX3_faultOfName_56 rfl (fun c6963 => False.elim (by omega)) (fun c6963 => ?_)
  refine WP_iload_n dX3_faultOfName_59 rfl ?_
  refine WQ_bipush (109) (109) dX3_faultOfName_60 rfl rfl (fun v6965 hv6965 => ?_)
  refine WQ_icmp_ne 98 dX3_faultOfName_62 rfl (fun c6965 => ?_) (fun c6965 => False.elim (by omega))
  refine WP_iload dX3_faultOfName_98 rfl ?_
  refine WQ_iconst (-1) (-1) dX3_faultOfName_100 rfl rfl (fun v6967 hv6967 => ?_)
  refine WQ_icmp_ne 106 dX3_faultOfName_101 rfl (fun c6967 => ?_) (fun c6967 => ?_)
  · refine WP_aload_n dX3_faultOfName_106 rfl ?_
    refine WP_getr dX3_faultOfName_107 fX3_9 rfl (lyx_is hy 3 3 rfl) (rfx hr 3 3 4 (by decide)) ?_
    refine WP_iload_n dX3_faultOfName_110 rfl ?_
    refine WP_iload dX3_faultOfName_111 rfl ?_
    refine WQ_iast dX3_faultOfName_113 (lyx_is hy 4 13 rfl) (lyx_n hy 4 5 rfl) (by omega) (by omega) (fun I6969 fI6969 => ?_)
    have eI6969 := fI6969
    rw [cl (x := ix) (n := 1) (by omega)] at eI6969
    clear fI6969
    have hI6969 : XI g n L I6969 := by rw [eI6969]; exact (xi_f hy hI (c := 4) (0) (0) (1000) (by decide) (Or.inl (by decide)) (by decide) (by omega) (by omega))
    have e6970 : I6969 (ad g 1) 1 = L := by rw [eI6969, pp_ne _ _ (Or.inl (lyx_ne hy (by decide) (by decide) (by decide)))]; exact e6950
    have e6971 : I6969 (ad g 4) 0 = w6952 := by rw [eI6969, pp_ne _ _ (Or.inr (by decide))]; exact ew6952
    have e6972 : I6969 (ad g 27) 1 = w6953 := by rw [eI6969, pp_ne _ _ (Or.inl (lyx_ne hy (by decide) (by decide) (by decide)))]; exact ew6953
    have e6973 : I6969 (ad g 27) 2 = w6954 := by rw [eI6969, pp_ne _ _ (Or.inl (lyx_ne hy (by decide) (by decide) (by decide)))]; exact ew6954
    have e6974 : I6969 (ad g 4) 1 = v6962 := by rw [eI6969, pp_self]
    clear eI6969
    refine WP_iload_n dX3_faultOfName_114 rfl ?_
    refine WQ_bipush (7) (7) dX3_faultOfName_115 rfl rfl (fun v6975 hv6975 => ?_)
    refine WQ_icmp_ne 137 dX3_faultOfName_117 rfl (fun c6975 => ?_) (fun c6975 => False.elim (by omega))
    refine WQ_iconst (0) (0) dX3_faultOfName_137 rfl rfl (fun v6977 hv6977 => ?_)
    exact WP_iret dX3_faultOfName_138 rfl ⟨⟨hI6969, rfl, ⟨trivial, (by rw [e6971, ew6952] <;> exact (eq32 _ _).mpr (by omega)), (by rw [e6972, ew6953] <;> exact (eq32 _ _).mpr (by omega)), (by rw [e6973, ew6954] <;> exact (eq32 _ _).mpr (by omega))⟩⟩, _, rfl, by omega, by omega, by (try rw [e6974]); omega⟩
  · refine WQ_iconst (5) (5) dX3_faultOfName_104 rfl rfl (fun v6978 hv6978 => ?_)
    obtain ⟨w6979, ew6979⟩ : ∃ w : Int32, I (ad g 4) 1 = w := ⟨_, rfl⟩
    have bw6979 := BT_get hI.1 4 0 5 (0) (0) (1000) (by decide) 1 (by decide) (by decide)
    rw [ew6979] at bw6979
    exact WP_iret dX3_faultOfName_105 rfl ⟨⟨hI, rfl, ⟨trivial, rfl, rfl, rfl⟩⟩, _, rfl, by omega, by omega, by (try rw [ew6979]); omega⟩
set_option maxHeartbeats 4000000 in
set_option maxRecDepth 100000 in
theorem sx_part_27_10_2 {g : GG} {n : Int} {L : Int32} (hy : LyX g)  {I : pI} {J : pJ} {R : pR} (hr : RfX g R) (hI : XI g n L I) (pa : Int32) (cz : Int32) (ix : Int32) (pa_lo : 68 ≤ pa.toInt) (pa_hi : pa.toInt ≤ 68) (cz_lo : 10 ≤ cz.toInt) (cz_hi : cz.toInt ≤ 10) (ix_lo : 2 ≤ ix.toInt) (ix_hi : ix.toInt ≤ 2) (hb : (I (ad g 4) 0).toInt ≤ 3) : SP g mX3_faultOfNumber [.ref (ad g 3), .int pa, .int cz, .int ix, .ref (ad g 27)] I J R (fun r I' J' R' => (XI g n L I' ∧ R' = R ∧ True ∧ I' (ad g 4) 0 = I (ad g 4) 0 ∧ I' (ad g 4) 1 = I (ad g 4) 1 ∧ I' (ad g 27) 1 = I (ad g 27) 1 ∧ I' (ad g 27) 2 = I (ad g 27) 2) ∧ ∃ v : Int32, r = some (.int v) ∧ 0 ≤ v.toInt ∧ v.toInt ≤ 5 ∧ (v.toInt = 0 → (I' (ad g 4) 2).toInt ≤ 6)) := by
  refine SP_of ⟨by decide, rfl⟩ (Nat.le_of_ble_eq_true rfl) ?_
  have e6980 : I (ad g 1) 1 = L := hI.2
  have b6981 := BT_get hI.1 1 1 2 (0) (0) (900) (by decide) 1 (by decide) (by decide)
  rw [e6980] at b6981
  obtain ⟨w6982, ew6982⟩ : ∃ w : Int32, I (ad g 4) 0 = w := ⟨_, rfl⟩
  have bw6982 := BT_get hI.1 4 0 5 (0) (0) (1000) (by decide) 0 (by decide) (by decide)
  rw [ew6982] at bw6982
  obtain ⟨w6983, ew6983⟩ : ∃ w : Int32, I (ad g 4) 1 = w := ⟨_, rfl⟩
  have bw6983 := BT_get hI.1 4 0 5 (0) (0) (1000) (by decide) 1 (by decide) (by decide)
  rw [ew6983] at bw6983
  obtain ⟨w6984, ew6984⟩ : ∃ w : Int32, I (ad g 27) 1 = w := ⟨_, rfl⟩
  have bw6984 := BT_get hI.1 27 1 2 (0) (0) (4) (by decide) 1 (by decide) (by decide)
  rw [ew6984] at bw6984
  obtain ⟨w6985, ew6985⟩ : ∃ w : Int32, I (ad g 27) 2 = w := ⟨_, rfl⟩
  have bw6985 := BT_get hI.1 27 2 3 (0) (0) (3) (by decide) 2 (by decide) (by decide)
  rw [ew6985] at bw6985
  rw [ew6982] at hb
  refine WP_aload_n dX3_faultOfNumber_0 rfl ?_
  refine WP_getr dX3_faultOfNumber_1 fX3_15 rfl (lyx_is hy 3 3 rfl) (rfx hr 3 2 1 (by decide)) ?_
  refine WQ_getiu dX3_faultOfNumber_4 fX3_118 rfl (lyx_is hy 1 5 rfl) (fun v6986 ev6986 => ?_)
  refine WP_istore (ls' := [(0, _), (1, _), (2, _), (3, _), (4, _), (5, _)]) dX3_faultOfNumber_7 (by decide) rfl ?_
  refine WP_iload dX3_faultOfNumber_9 rfl ?_
  refine WP_iload_n dX3_faultOfNumber_11 rfl ?_
  refine WP_callS1 dX3_faultOfNumber_12 ⟨⟨⟨by decide, by decide⟩, zX3_leastOf⟩, lX3_121, tX3_leastOf⟩ (sx_leastOf hy hr hI pa ) (Nat.le_of_ble_eq_true rfl) ?_
  intro r Ia Ja Ra hq
  obtain ⟨⟨ea, eb, ec⟩, v6987, rfl, av6987, bv6987⟩ := hq
  show WP _ _ _ _ (.int _ :: _) _ _ _ _
  rw [ea, eb, ec]
  clear ea eb ec Ia Ja Ra
  refine WQ_icmp_lt 27 dX3_faultOfNumber_15 rfl (fun c6987 => ?_) (fun c6987 => ?_)
  · refine WQ_iconst (2) (2) dX3_faultOfNumber_27 rfl rfl (fun v6989 hv6989 => ?_)
    obtain ⟨w6990, ew6990⟩ : ∃ w : Int32, I (ad g 4) 2 = w := ⟨_, rfl⟩
    have bw6990 := BT_get hI.1 4 0 5 (0) (0) (1000) (by decide) 2 (by decide) (by decide)
    rw [ew6990] at bw6990
    exact WP_iret dX3_faultOfNumber_28 rfl ⟨⟨hI, rfl, ⟨trivial, rfl, rfl, rfl, rfl⟩⟩, _, rfl, by omega, by omega, by (try rw [ew6990]); omega⟩
  · refine WP_iload dX3_faultOfNumber_18 rfl ?_
    refine WP_iload_n dX3_faultOfNumber_20 rfl ?_
    refine WP_callS1 dX3_faultOfNumber_21 ⟨⟨⟨by decide, by decide⟩, zX3_mostOf⟩, lX3_125, tX3_mostOf⟩ (sx_mostOf hy hr hI pa ) (Nat.le_of_ble_eq_true rfl) ?_
    intro r Ia Ja Ra hq
    obtain ⟨⟨ea, eb, ec⟩, v6991, rfl, av6991, bv6991, cv6991⟩ := hq
    show WP _ _ _ _ (.int _ :: _) _ _ _ _
    rw [ea, eb, ec]
    clear ea eb ec Ia Ja Ra
    refine WQ_icmp_le 29 dX3_faultOfNumber_24 rfl (fun c6991 => ?_) (fun c6991 => ?_)
    · refine WP_aload_n dX3_faultOfNumber_29 rfl ?_
      refine WP_getr dX3_faultOfNumber_30 fX3_9 rfl (lyx_is hy 3 3 rfl) (rfx hr 3 3 4 (by decide)) ?_
      refine WP_iload_n dX3_faultOfNumber_33 rfl ?_
      refine WP_iload dX3_faultOfNumber_34 rfl ?_
      refine WQ_iast dX3_faultOfNumber_36 (lyx_is hy 4 13 rfl) (lyx_n hy 4 5 rfl) (by omega) (by omega) (fun I6993 fI6993 => ?_)
      have eI6993 := fI6993
      rw [cl (x := ix) (n := 2) (by omega)] at eI6993
      clear fI6993
      have hI6993 : XI g n L I6993 := by rw [eI6993]; exact (xi_f hy hI (c := 4) (0) (0) (1000) (by decide) (Or.inl (by decide)) (by decide) (by omega) (by omega))
      have e6994 : I6993 (ad g 1) 1 = L := by rw [eI6993, pp_ne _ _ (Or.inl (lyx_ne hy (by decide) (by decide) (by decide)))]; exact e6980
      have e6995 : I6993 (ad g 4) 0 = w6982 := by rw [eI6993, pp_ne _ _ (Or.inr (by decide))]; exact ew6982
      have e6996 : I6993 (ad g 4) 1 = w6983 := by rw [eI6993, pp_ne _ _ (Or.inr (by decide))]; exact ew6983
      have e6997 : I6993 (ad g 27) 1 = w6984 := by rw [eI6993, pp_ne _ _ (Or.inl (lyx_ne hy (by decide) (by decide) (by decide)))]; exact ew6984
      have e6998 : I6993 (ad g 27) 2 = w6985 := by rw [eI6993, pp_ne _ _ (Or.inl (lyx_ne hy (by decide) (by decide) (by decide)))]; exact ew6985
      have e6999 : I6993 (ad g 1) 4 = v6986 := by rw [eI6993, pp_ne _ _ (Or.inl (lyx_ne hy (by decide) (by decide) (by decide)))]; exact ev6986
      have e7000 : I6993 (ad g 4) 2 = v6986 := by rw [eI6993, pp_self]
      clear eI6993
      refine WP_iload_n dX3_faultOfNumber_37 rfl ?_
      refine WQ_bipush (68) (68) dX3_faultOfNumber_38 rfl rfl (fun v7001 hv7001 => ?_)
      refine WQ_icmp_eq 45 dX3_faultOfNumber_40 rfl (fun c7001 => ?_) (fun c7001 => False.elim (by omega))
      refine WP_aload dX3_faultOfNumber_45 rfl ?_
      refine WP_iload_n dX3_faultOfNumber_47 rfl ?_
      refine WP_iload_n dX3_faultOfNumber_48 rfl ?_
      refine WQ_if_ne 56 dX3_faultOfNumber_49 rfl (fun c7002 => ?_) (fun c7002 => False.elim (by omega))
      refine WP_aload_n dX3_faultOfNumber_56 rfl ?_
      refine WP_getr dX3_faultOfNumber_57 fX3_9 rfl (lyx_is hy 3 3 rfl) (rfx hr 3 3 4 (by decide)) ?_
      refine WQ_iconst (0) (0) dX3_faultOfNumber_60 rfl rfl (fun v7004 hv7004 => ?_)
      refine WQ_ialdm (z := 0) dX3_faultOfNumber_61 (lyx_is hy 4 13 rfl) (lyx_n hy 4 5 rfl) hv7004 (by decide) e6995 ?_
      refine WP_iload dX3_faultOfNumber_62 rfl ?_
      refine WP_callV3 (k := 7) dX3_faultOfNumber_64 ⟨⟨⟨by decide, by decide⟩, zX7_isTold⟩, lX3_114, by decide, rfl, vX7_isTold.1, vX7_isTold.2⟩ (lyx_is hy 27 7 rfl) (sx_isTold_27 hy hr hI6993 cz w6982 v6986 (by omega) (by omega) (by omega) (by omega) ) (Nat.le_of_ble_eq_true rfl) ?_
      intro r Ia Ja Ra hq
      obtain ⟨⟨ea, eb, ec⟩, v7006, rfl, av7006, bv7006⟩ := hq
      show WP _ _ _ _ (.int _ :: _) _ _ _ _
      rw [ea, eb, ec]
      clear ea eb ec Ia Ja Ra
      refine WQ_if_eq 74 dX3_faultOfNumber_67 rfl (fun c7006 => ?_) (fun c7006 => ?_)
      · refine WQ_iconst (0) (0) dX3_faultOfNumber_74 rfl rfl (fun v7008 hv7008 => ?_)
        exact WP_iret dX3_faultOfNumber_75 rfl ⟨⟨hI6993, rfl, ⟨trivial, (by rw [e6995, ew6982] <;> exact (eq32 _ _).mpr (by omega)), (by rw [e6996, ew6983] <;> exact (eq32 _ _).mpr (by omega)), (by rw [e6997, ew6984] <;> exact (eq32 _ _).mpr (by omega)), (by rw [e6998, ew6985] <;> exact (eq32 _ _).mpr (by omega))⟩⟩, _, rfl, by omega, by omega, by (try rw [e7000]); omega⟩
      · refine WQ_iconst (3) (3) dX3_faultOfNumber_70 rfl rfl (fun v7009 hv7009 => ?_)
        refine WP_goto 75 dX3_faultOfNumber_71 rfl ?_
        exact WP_iret dX3_faultOfNumber_75 rfl ⟨⟨hI6993, rfl, ⟨trivial, (by rw [e6995, ew6982] <;> exact (eq32 _ _).mpr (by omega)), (by rw [e6996, ew6983] <;> exact (eq32 _ _).mpr (by omega)), (by rw [e6997, ew6984] <;> exact (eq32 _ _).mpr (by omega)), (by rw [e6998, ew6985] <;> exact (eq32 _ _).mpr (by omega))⟩⟩, _, rfl, by omega, by omega, by (try rw [e7000]); omega⟩
    · refine WQ_iconst (2) (2) dX3_faultOfNumber_27 rfl rfl (fun v7010 hv7010 => ?_)
      obtain ⟨w7011, ew7011⟩ : ∃ w : Int32, I (ad g 4) 2 = w := ⟨_, rfl⟩
      have bw7011 := BT_get hI.1 4 0 5 (0) (0) (1000) (by decide) 2 (by decide) (by decide)
      rw [ew7011] at bw7011
      exact WP_iret dX3_faultOfNumber_28 rfl ⟨⟨hI, rfl, ⟨trivial, rfl, rfl, rfl, rfl⟩⟩, _, rfl, by omega, by omega, by (try rw [ew7011]); omega⟩
set_option maxHeartbeats 4000000 in
set_option maxRecDepth 100000 in
theorem sx_part_27_10_3 {g : GG} {n : Int} {L : Int32} (hy : LyX g)  {I : pI} {J : pJ} {R : pR} (hr : RfX g R) (hI : XI g n L I) (pa : Int32) (cz : Int32) (ix : Int32) (pa_lo : 85 ≤ pa.toInt) (pa_hi : pa.toInt ≤ 85) (cz_lo : 10 ≤ cz.toInt) (cz_hi : cz.toInt ≤ 10) (ix_lo : 3 ≤ ix.toInt) (ix_hi : ix.toInt ≤ 3) : SP g mX3_faultOfNumber [.ref (ad g 3), .int pa, .int cz, .int ix, .ref (ad g 27)] I J R (fun r I' J' R' => (XI g n L I' ∧ R' = R ∧ True ∧ I' (ad g 4) 0 = I (ad g 4) 0 ∧ I' (ad g 4) 1 = I (ad g 4) 1 ∧ I' (ad g 4) 2 = I (ad g 4) 2 ∧ I' (ad g 27) 1 = I (ad g 27) 1 ∧ I' (ad g 27) 2 = I (ad g 27) 2) ∧ ∃ v : Int32, r = some (.int v) ∧ 0 ≤ v.toInt ∧ v.toInt ≤ 5 ∧ (v.toInt = 0 → (I' (ad g 4) 3).toInt ≤ 3)) := by
  refine SP_of ⟨by decide, rfl⟩ (Nat.le_of_ble_eq_true rfl) ?_
  have e7012 : I (ad g 1) 1 = L := hI.2
  have b7013 := BT_get hI.1 1 1 2 (0) (0) (900) (by decide) 1 (by decide) (by decide)
  rw [e7012] at b7013
  obtain ⟨w7014, ew7014⟩ : ∃ w : Int32, I (ad g 4) 0 = w := ⟨_, rfl⟩
  have bw7014 := BT_get hI.1 4 0 5 (0) (0) (1000) (by decide) 0 (by decide) (by decide)
  rw [ew7014] at bw7014
  obtain ⟨w7015, ew7015⟩ : ∃ w : Int32, I (ad g 4) 1 = w := ⟨_, rfl⟩
  have bw7015 := BT_get hI.1 4 0 5 (0) (0) (1000) (by decide) 1 (by decide) (by decide)
  rw [ew7015] at bw7015
  obtain ⟨w7016, ew7016⟩ : ∃ w : Int32, I (ad g 4) 2 = w := ⟨_, rfl⟩
  have bw7016 := BT_get hI.1 4 0 5 (0) (0) (1000) (by decide) 2 (by decide) (by decide)
  rw [ew7016] at bw7016
  obtain ⟨w7017, ew7017⟩ : ∃ w : Int32, I (ad g 27) 1 = w := ⟨_, rfl⟩
  have bw7017 := BT_get hI.1 27 1 2 (0) (0) (4) (by decide) 1 (by decide) (by decide)
  rw [ew7017] at bw7017
  obtain ⟨w7018, ew7018⟩ : ∃ w : Int32, I (ad g 27) 2 = w := ⟨_, rfl⟩
  have bw7018 := BT_get hI.1 27 2 3 (0) (0) (3) (by decide) 2 (by decide) (by decide)
  rw [ew7018] at bw7018
  refine WP_aload_n dX3_faultOfNumber_0 rfl ?_
  refine WP_getr dX3_faultOfNumber_1 fX3_15 rfl (lyx_is hy 3 3 rfl) (rfx hr 3 2 1 (by decide)) ?_
  refine WQ_getiu dX3_faultOfNumber_4 fX3_118 rfl (lyx_is hy 1 5 rfl) (fun v7019 ev7019 => ?_)
  refine WP_istore (ls' := [(0, _), (1, _), (2, _), (3, _), (4, _), (5, _)]) dX3_faultOfNumber_7 (by decide) rfl ?_
  refine WP_iload dX3_faultOfNumber_9 rfl ?_
  refine WP_iload_n dX3_faultOfNumber_11 rfl ?_
  refine WP_callS1 dX3_faultOfNumber_12 ⟨⟨⟨by decide, by decide⟩, zX3_leastOf⟩, lX3_121, tX3_leastOf⟩ (sx_leastOf hy hr hI pa ) (Nat.le_of_ble_eq_true rfl) ?_
  intro r Ia Ja Ra hq
  obtain ⟨⟨ea, eb, ec⟩, v7020, rfl, av7020, bv7020⟩ := hq
  show WP _ _ _ _ (.int _ :: _) _ _ _ _
  rw [ea, eb, ec]
  clear ea eb ec Ia Ja Ra
  refine WQ_icmp_lt 27 dX3_faultOfNumber_15 rfl (fun c7020 => ?_) (fun c7020 => ?_)
  · refine WQ_iconst (2) (2) dX3_faultOfNumber_27 rfl rfl (fun v7022 hv7022 => ?_)
    obtain ⟨w7023, ew7023⟩ : ∃ w : Int32, I (ad g 4) 3 = w := ⟨_, rfl⟩
    have bw7023 := BT_get hI.1 4 0 5 (0) (0) (1000) (by decide) 3 (by decide) (by decide)
    rw [ew7023] at bw7023
    exact WP_iret dX3_faultOfNumber_28 rfl ⟨⟨hI, rfl, ⟨trivial, rfl, rfl, rfl, rfl, rfl⟩⟩, _, rfl, by omega, by omega, by (try rw [ew7023]); omega⟩
  · refine WP_iload dX3_faultOfNumber_18 rfl ?_
    refine WP_iload_n dX3_faultOfNumber_20 rfl ?_
    refine WP_callS1 dX3_faultOfNumber_21 ⟨⟨⟨by decide, by decide⟩, zX3_mostOf⟩, lX3_125, tX3_mostOf⟩ (sx_mostOf hy hr hI pa ) (Nat.le_of_ble_eq_true rfl) ?_
    intro r Ia Ja Ra hq
    obtain ⟨⟨ea, eb, ec⟩, v7024, rfl, av7024, bv7024, cv7024⟩ := hq
    show WP _ _ _ _ (.int _ :: _) _ _ _ _
    rw [ea, eb, ec]
    clear ea eb ec Ia Ja Ra
    refine WQ_icmp_le 29 dX3_faultOfNumber_24 rfl (fun c7024 => ?_) (fun c7024 => ?_)
    · refine WP_aload_n dX3_faultOfNumber_29 rfl ?_
      refine WP_getr dX3_faultOfNumber_30 fX3_9 rfl (lyx_is hy 3 3 rfl) (rfx hr 3 3 4 (by decide)) ?_
      refine WP_iload_n dX3_faultOfNumber_33 rfl ?_
      refine WP_iload dX3_faultOfNumber_34 rfl ?_
      refine WQ_iast dX3_faultOfNumber_36 (lyx_is hy 4 13 rfl) (lyx_n hy 4 5 rfl) (by omega) (by omega) (fun I7026 fI7026 => ?_)
      have eI7026 := fI7026
      rw [cl (x := ix) (n := 3) (by omega)] at eI7026
      clear fI7026
      have hI7026 : XI g n L I7026 := by rw [eI7026]; exact (xi_f hy hI (c := 4) (0) (0) (1000) (by decide) (Or.inl (by decide)) (by decide) (by omega) (by omega))
      have e7027 : I7026 (ad g 1) 1 = L := by rw [eI7026, pp_ne _ _ (Or.inl (lyx_ne hy (by decide) (by decide) (by decide)))]; exact e7012
      have e7028 : I7026 (ad g 4) 0 = w7014 := by rw [eI7026, pp_ne _ _ (Or.inr (by decide))]; exact ew7014
      have e7029 : I7026 (ad g 4) 1 = w7015 := by rw [eI7026, pp_ne _ _ (Or.inr (by decide))]; exact ew7015
      have e7030 : I7026 (ad g 4) 2 = w7016 := by rw [eI7026, pp_ne _ _ (Or.inr (by decide))]; exact ew7016
      have e7031 : I7026 (ad g 27) 1 = w7017 := by rw [eI7026, pp_ne _ _ (Or.inl (lyx_ne hy (by decide) (by decide) (by decide)))]; exact ew7017
      have e7032 : I7026 (ad g 27) 2 = w7018 := by rw [eI7026, pp_ne _ _ (Or.inl (lyx_ne hy (by decide) (by decide) (by decide)))]; exact ew7018
      have e7033 : I7026 (ad g 1) 4 = v7019 := by rw [eI7026, pp_ne _ _ (Or.inl (lyx_ne hy (by decide) (by decide) (by decide)))]; exact ev7019
      have e7034 : I7026 (ad g 4) 3 = v7019 := by rw [eI7026, pp_self]
      clear eI7026
      refine WP_iload_n dX3_faultOfNumber_37 rfl ?_
      refine WQ_bipush (68) (68) dX3_faultOfNumber_38 rfl rfl (fun v7035 hv7035 => ?_)
      refine WQ_icmp_eq 45 dX3_faultOfNumber_40 rfl (fun c7035 => False.elim (by omega)) (fun c7035 => ?_)
      refine WQ_iconst (0) (0) dX3_faultOfNumber_43 rfl rfl (fun v7037 hv7037 => ?_)
      exact WP_iret dX3_faultOfNumber_44 rfl ⟨⟨hI7026, rfl, ⟨trivial, (by rw [e7028, ew7014] <;> exact (eq32 _ _).mpr (by omega)), (by rw [e7029, ew7015] <;> exact (eq32 _ _).mpr (by omega)), (by rw [e7030, ew7016] <;> exact (eq32 _ _).mpr (by omega)), (by rw [e7031, ew7017] <;> exact (eq32 _ _).mpr (by omega)), (by rw [e7032, ew7018] <;> exact (eq32 _ _).mpr (by omega))⟩⟩, _, rfl, by omega, by omega, by (try rw [e7034]); omega⟩
    · refine WQ_iconst (2) (2) dX3_faultOfNumber_27 rfl rfl (fun v7038 hv7038 => ?_)
      obtain ⟨w7039, ew7039⟩ : ∃ w : Int32, I (ad g 4) 3 = w := ⟨_, rfl⟩
      have bw7039 := BT_get hI.1 4 0 5 (0) (0) (1000) (by decide) 3 (by decide) (by decide)
      rw [ew7039] at bw7039
      exact WP_iret dX3_faultOfNumber_28 rfl ⟨⟨hI, rfl, ⟨trivial, rfl, rfl, rfl, rfl, rfl⟩⟩, _, rfl, by omega, by omega, by (try rw [ew7039]); omega⟩
set_option maxHeartbeats 4000000 in
set_option maxRecDepth 100000 in
theorem sx_part_27_10_4 {g : GG} {n : Int} {L : Int32} (hy : LyX g)  {I : pI} {J : pJ} {R : pR} (hr : RfX g R) (hI : XI g n L I) (pa : Int32) (cz : Int32) (ix : Int32) (pa_lo : 80 ≤ pa.toInt) (pa_hi : pa.toInt ≤ 80) (cz_lo : 10 ≤ cz.toInt) (cz_hi : cz.toInt ≤ 10) (ix_lo : 4 ≤ ix.toInt) (ix_hi : ix.toInt ≤ 4) : SP g mX3_faultOfNumber [.ref (ad g 3), .int pa, .int cz, .int ix, .ref (ad g 27)] I J R (fun r I' J' R' => (XI g n L I' ∧ R' = R ∧ True ∧ I' (ad g 4) 0 = I (ad g 4) 0 ∧ I' (ad g 4) 1 = I (ad g 4) 1 ∧ I' (ad g 4) 2 = I (ad g 4) 2 ∧ I' (ad g 4) 3 = I (ad g 4) 3 ∧ I' (ad g 27) 1 = I (ad g 27) 1 ∧ I' (ad g 27) 2 = I (ad g 27) 2) ∧ ∃ v : Int32, r = some (.int v) ∧ 0 ≤ v.toInt ∧ v.toInt ≤ 5 ∧ (v.toInt = 0 → (I' (ad g 4) 4).toInt ≤ 99)) := by
  refine SP_of ⟨by decide, rfl⟩ (Nat.le_of_ble_eq_true rfl) ?_
  have e7040 : I (ad g 1) 1 = L := hI.2
  have b7041 := BT_get hI.1 1 1 2 (0) (0) (900) (by decide) 1 (by decide) (by decide)
  rw [e7040] at b7041
  obtain ⟨w7042, ew7042⟩ : ∃ w : Int32, I (ad g 4) 0 = w := ⟨_, rfl⟩
  have bw7042 := BT_get hI.1 4 0 5 (0) (0) (1000) (by decide) 0 (by decide) (by decide)
  rw [ew7042] at bw7042
  obtain ⟨w7043, ew7043⟩ : ∃ w : Int32, I (ad g 4) 1 = w := ⟨_, rfl⟩
  have bw7043 := BT_get hI.1 4 0 5 (0) (0) (1000) (by decide) 1 (by decide) (by decide)
  rw [ew7043] at bw7043
  obtain ⟨w7044, ew7044⟩ : ∃ w : Int32, I (ad g 4) 2 = w := ⟨_, rfl⟩
  have bw7044 := BT_get hI.1 4 0 5 (0) (0) (1000) (by decide) 2 (by decide) (by decide)
  rw [ew7044] at bw7044
  obtain ⟨w7045, ew7045⟩ : ∃ w : Int32, I (ad g 4) 3 = w := ⟨_, rfl⟩
  have bw7045 := BT_get hI.1 4 0 5 (0) (0) (1000) (by decide) 3 (by decide) (by decide)
  rw [ew7045] at bw7045
  obtain ⟨w7046, ew7046⟩ : ∃ w : Int32, I (ad g 27) 1 = w := ⟨_, rfl⟩
  have bw7046 := BT_get hI.1 27 1 2 (0) (0) (4) (by decide) 1 (by decide) (by decide)
  rw [ew7046] at bw7046
  obtain ⟨w7047, ew7047⟩ : ∃ w : Int32, I (ad g 27) 2 = w := ⟨_, rfl⟩
  have bw7047 := BT_get hI.1 27 2 3 (0) (0) (3) (by decide) 2 (by decide) (by decide)
  rw [ew7047] at bw7047
  refine WP_aload_n dX3_faultOfNumber_0 rfl ?_
  refine WP_getr dX3_faultOfNumber_1 fX3_15 rfl (lyx_is hy 3 3 rfl) (rfx hr 3 2 1 (by decide)) ?_
  refine WQ_getiu dX3_faultOfNumber_4 fX3_118 rfl (lyx_is hy 1 5 rfl) (fun v7048 ev7048 => ?_)
  refine WP_istore (ls' := [(0, _), (1, _), (2, _), (3, _), (4, _), (5, _)]) dX3_faultOfNumber_7 (by decide) rfl ?_
  refine WP_iload dX3_faultOfNumber_9 rfl ?_
  refine WP_iload_n dX3_faultOfNumber_11 rfl ?_
  refine WP_callS1 dX3_faultOfNumber_12 ⟨⟨⟨by decide, by decide⟩, zX3_leastOf⟩, lX3_121, tX3_leastOf⟩ (sx_leastOf hy hr hI pa ) (Nat.le_of_ble_eq_true rfl) ?_
  intro r Ia Ja Ra hq
  obtain ⟨⟨ea, eb, ec⟩, v7049, rfl, av7049, bv7049⟩ := hq
  show WP _ _ _ _ (.int _ :: _) _ _ _ _
  rw [ea, eb, ec]
  clear ea eb ec Ia Ja Ra
  refine WQ_icmp_lt 27 dX3_faultOfNumber_15 rfl (fun c7049 => ?_) (fun c7049 => ?_)
  · refine WQ_iconst (2) (2) dX3_faultOfNumber_27 rfl rfl (fun v7051 hv7051 => ?_)
    obtain ⟨w7052, ew7052⟩ : ∃ w : Int32, I (ad g 4) 4 = w := ⟨_, rfl⟩
    have bw7052 := BT_get hI.1 4 0 5 (0) (0) (1000) (by decide) 4 (by decide) (by decide)
    rw [ew7052] at bw7052
    exact WP_iret dX3_faultOfNumber_28 rfl ⟨⟨hI, rfl, ⟨trivial, rfl, rfl, rfl, rfl, rfl, rfl⟩⟩, _, rfl, by omega, by omega, by (try rw [ew7052]); omega⟩
  · refine WP_iload dX3_faultOfNumber_18 rfl ?_
    refine WP_iload_n dX3_faultOfNumber_20 rfl ?_
    refine WP_callS1 dX3_faultOfNumber_21 ⟨⟨⟨by decide, by decide⟩, zX3_mostOf⟩, lX3_125, tX3_mostOf⟩ (sx_mostOf hy hr hI pa ) (Nat.le_of_ble_eq_true rfl) ?_
    intro r Ia Ja Ra hq
    obtain ⟨⟨ea, eb, ec⟩, v7053, rfl, av7053, bv7053, cv7053⟩ := hq
    show WP _ _ _ _ (.int _ :: _) _ _ _ _
    rw [ea, eb, ec]
    clear ea eb ec Ia Ja Ra
    refine WQ_icmp_le 29 dX3_faultOfNumber_24 rfl (fun c7053 => ?_) (fun c7053 => ?_)
    · refine WP_aload_n dX3_faultOfNumber_29 rfl ?_
      refine WP_getr dX3_faultOfNumber_30 fX3_9 rfl (lyx_is hy 3 3 rfl) (rfx hr 3 3 4 (by decide)) ?_
      refine WP_iload_n dX3_faultOfNumber_33 rfl ?_
      refine WP_iload dX3_faultOfNumber_34 rfl ?_
      refine WQ_iast dX3_faultOfNumber_36 (lyx_is hy 4 13 rfl) (lyx_n hy 4 5 rfl) (by omega) (by omega) (fun I7055 fI7055 => ?_)
      have eI7055 := fI7055
      rw [cl (x := ix) (n := 4) (by omega)] at eI7055
      clear fI7055
      have hI7055 : XI g n L I7055 := by rw [eI7055]; exact (xi_f hy hI (c := 4) (0) (0) (1000) (by decide) (Or.inl (by decide)) (by decide) (by omega) (by omega))
      have e7056 : I7055 (ad g 1) 1 = L := by rw [eI7055, pp_ne _ _ (Or.inl (lyx_ne hy (by decide) (by decide) (by decide)))]; exact e7040
      have e7057 : I7055 (ad g 4) 0 = w7042 := by rw [eI7055, pp_ne _ _ (Or.inr (by decide))]; exact ew7042
      have e7058 : I7055 (ad g 4) 1 = w7043 := by rw [eI7055, pp_ne _ _ (Or.inr (by decide))]; exact ew7043
      have e7059 : I7055 (ad g 4) 2 = w7044 := by rw [eI7055, pp_ne _ _ (Or.inr (by decide))]; exact ew7044
      have e7060 : I7055 (ad g 4) 3 = w7045 := by rw [eI7055, pp_ne _ _ (Or.inr (by decide))]; exact ew7045
      have e7061 : I7055 (ad g 27) 1 = w7046 := by rw [eI7055, pp_ne _ _ (Or.inl (lyx_ne hy (by decide) (by decide) (by decide)))]; exact ew7046
      have e7062 : I7055 (ad g 27) 2 = w7047 := by rw [eI7055, pp_ne _ _ (Or.inl (lyx_ne hy (by decide) (by decide) (by decide)))]; exact ew7047
      have e7063 : I7055 (ad g 1) 4 = v7048 := by rw [eI7055, pp_ne _ _ (Or.inl (lyx_ne hy (by decide) (by decide) (by decide)))]; exact ev7048
      have e7064 : I7055 (ad g 4) 4 = v7048 := by rw [eI7055, pp_self]
      clear eI7055
      refine WP_iload_n dX3_faultOfNumber_37 rfl ?_
      refine WQ_bipush (68) (68) dX3_faultOfNumber_38 rfl rfl (fun v7065 hv7065 => ?_)
      refine WQ_icmp_eq 45 dX3_faultOfNumber_40 rfl (fun c7065 => False.elim (by omega)) (fun c7065 => ?_)
      refine WQ_iconst (0) (0) dX3_faultOfNumber_43 rfl rfl (fun v7067 hv7067 => ?_)
      exact WP_iret dX3_faultOfNumber_44 rfl ⟨⟨hI7055, rfl, ⟨trivial, (by rw [e7057, ew7042] <;> exact (eq32 _ _).mpr (by omega)), (by rw [e7058, ew7043] <;> exact (eq32 _ _).mpr (by omega)), (by rw [e7059, ew7044] <;> exact (eq32 _ _).mpr (by omega)), (by rw [e7060, ew7045] <;> exact (eq32 _ _).mpr (by omega)), (by rw [e7061, ew7046] <;> exact (eq32 _ _).mpr (by omega)), (by rw [e7062, ew7047] <;> exact (eq32 _ _).mpr (by omega))⟩⟩, _, rfl, by omega, by omega, by (try rw [e7064]); omega⟩
    · refine WQ_iconst (2) (2) dX3_faultOfNumber_27 rfl rfl (fun v7068 hv7068 => ?_)
      obtain ⟨w7069, ew7069⟩ : ∃ w : Int32, I (ad g 4) 4 = w := ⟨_, rfl⟩
      have bw7069 := BT_get hI.1 4 0 5 (0) (0) (1000) (by decide) 4 (by decide) (by decide)
      rw [ew7069] at bw7069
      exact WP_iret dX3_faultOfNumber_28 rfl ⟨⟨hI, rfl, ⟨trivial, rfl, rfl, rfl, rfl, rfl, rfl⟩⟩, _, rfl, by omega, by omega, by (try rw [ew7069]); omega⟩
set_option maxHeartbeats 4000000 in
set_option maxRecDepth 100000 in
theorem sx_part_27_11_0 {g : GG} {n : Int} {L : Int32} (hy : LyX g)  {I : pI} {J : pJ} {R : pR} (hr : RfX g R) (hI : XI g n L I) (pa : Int32) (cz : Int32) (ix : Int32) (pa_lo : 86 ≤ pa.toInt) (pa_hi : pa.toInt ≤ 86) (cz_lo : 11 ≤ cz.toInt) (cz_hi : cz.toInt ≤ 11) (ix_lo : 0 ≤ ix.toInt) (ix_hi : ix.toInt ≤ 0) : SP g mX3_faultOfNumber [.ref (ad g 3), .int pa, .int cz, .int ix, .ref (ad g 27)] I J R (fun r I' J' R' => (XI g n L I' ∧ R' = R ∧ True ∧ I' (ad g 27) 1 = I (ad g 27) 1 ∧ I' (ad g 27) 2 = I (ad g 27) 2) ∧ ∃ v : Int32, r = some (.int v) ∧ 0 ≤ v.toInt ∧ v.toInt ≤ 5 ∧ (v.toInt = 0 → (I' (ad g 4) 0).toInt ≤ 99)) := by
  refine SP_of ⟨by decide, rfl⟩ (Nat.le_of_ble_eq_true rfl) ?_
  have e7070 : I (ad g 1) 1 = L := hI.2
  have b7071 := BT_get hI.1 1 1 2 (0) (0) (900) (by decide) 1 (by decide) (by decide)
  rw [e7070] at b7071
  obtain ⟨w7072, ew7072⟩ : ∃ w : Int32, I (ad g 27) 1 = w := ⟨_, rfl⟩
  have bw7072 := BT_get hI.1 27 1 2 (0) (0) (4) (by decide) 1 (by decide) (by decide)
  rw [ew7072] at bw7072
  obtain ⟨w7073, ew7073⟩ : ∃ w : Int32, I (ad g 27) 2 = w := ⟨_, rfl⟩
  have bw7073 := BT_get hI.1 27 2 3 (0) (0) (3) (by decide) 2 (by decide) (by decide)
  rw [ew7073] at bw7073
  refine WP_aload_n dX3_faultOfNumber_0 rfl ?_
  refine WP_getr dX3_faultOfNumber_1 fX3_15 rfl (lyx_is hy 3 3 rfl) (rfx hr 3 2 1 (by decide)) ?_
  refine WQ_getiu dX3_faultOfNumber_4 fX3_118 rfl (lyx_is hy 1 5 rfl) (fun v7074 ev7074 => ?_)
  refine WP_istore (ls' := [(0, _), (1, _), (2, _), (3, _), (4, _), (5, _)]) dX3_faultOfNumber_7 (by decide) rfl ?_
  refine WP_iload dX3_faultOfNumber_9 rfl ?_
  refine WP_iload_n dX3_faultOfNumber_11 rfl ?_
  refine WP_callS1 dX3_faultOfNumber_12 ⟨⟨⟨by decide, by decide⟩, zX3_leastOf⟩, lX3_121, tX3_leastOf⟩ (sx_leastOf hy hr hI pa ) (Nat.le_of_ble_eq_true rfl) ?_
  intro r Ia Ja Ra hq
  obtain ⟨⟨ea, eb, ec⟩, v7075, rfl, av7075, bv7075⟩ := hq
  show WP _ _ _ _ (.int _ :: _) _ _ _ _
  rw [ea, eb, ec]
  clear ea eb ec Ia Ja Ra
  refine WQ_icmp_lt 27 dX3_faultOfNumber_15 rfl (fun c7075 => ?_) (fun c7075 => ?_)
  · refine WQ_iconst (2) (2) dX3_faultOfNumber_27 rfl rfl (fun v7077 hv7077 => ?_)
    obtain ⟨w7078, ew7078⟩ : ∃ w : Int32, I (ad g 4) 0 = w := ⟨_, rfl⟩
    have bw7078 := BT_get hI.1 4 0 5 (0) (0) (1000) (by decide) 0 (by decide) (by decide)
    rw [ew7078] at bw7078
    exact WP_iret dX3_faultOfNumber_28 rfl ⟨⟨hI, rfl, ⟨trivial, rfl, rfl⟩⟩, _, rfl, by omega, by omega, by (try rw [ew7078]); omega⟩
  · refine WP_iload dX3_faultOfNumber_18 rfl ?_
    refine WP_iload_n dX3_faultOfNumber_20 rfl ?_
    refine WP_callS1 dX3_faultOfNumber_21 ⟨⟨⟨by decide, by decide⟩, zX3_mostOf⟩, lX3_125, tX3_mostOf⟩ (sx_mostOf hy hr hI pa ) (Nat.le_of_ble_eq_true rfl) ?_
    intro r Ia Ja Ra hq
    obtain ⟨⟨ea, eb, ec⟩, v7079, rfl, av7079, bv7079, cv7079⟩ := hq
    show WP _ _ _ _ (.int _ :: _) _ _ _ _
    rw [ea, eb, ec]
    clear ea eb ec Ia Ja Ra
    refine WQ_icmp_le 29 dX3_faultOfNumber_24 rfl (fun c7079 => ?_) (fun c7079 => ?_)
    · refine WP_aload_n dX3_faultOfNumber_29 rfl ?_
      refine WP_getr dX3_faultOfNumber_30 fX3_9 rfl (lyx_is hy 3 3 rfl) (rfx hr 3 3 4 (by decide)) ?_
      refine WP_iload_n dX3_faultOfNumber_33 rfl ?_
      refine WP_iload dX3_faultOfNumber_34 rfl ?_
      refine WQ_iast dX3_faultOfNumber_36 (lyx_is hy 4 13 rfl) (lyx_n hy 4 5 rfl) (by omega) (by omega) (fun I7081 fI7081 => ?_)
      have eI7081 := fI7081
      rw [cl (x := ix) (n := 0) (by omega)] at eI7081
      clear fI7081
      have hI7081 : XI g n L I7081 := by rw [eI7081]; exact (xi_f hy hI (c := 4) (0) (0) (1000) (by decide) (Or.inl (by decide)) (by decide) (by omega) (by omega))
      have e7082 : I7081 (ad g 1) 1 = L := by rw [eI7081, pp_ne _ _ (Or.inl (lyx_ne hy (by decide) (by decide) (by decide)))]; exact e7070
      have e7083 : I7081 (ad g 27) 1 = w7072 := by rw [eI7081, pp_ne _ _ (Or.inl (lyx_ne hy (by decide) (by decide) (by decide)))]; exact ew7072
      have e7084 : I7081 (ad g 27) 2 = w7073 := by rw [eI7081, pp_ne _ _ (Or.inl (lyx_ne hy (by decide) (by decide) (by decide)))]; exact ew7073
      have e7085 : I7081 (ad g 1) 4 = v7074 := by rw [eI7081, pp_ne _ _ (Or.inl (lyx_ne hy (by decide) (by decide) (by decide)))]; exact ev7074
      have e7086 : I7081 (ad g 4) 0 = v7074 := by rw [eI7081, pp_self]
      clear eI7081
      refine WP_iload_n dX3_faultOfNumber_37 rfl ?_
      refine WQ_bipush (68) (68) dX3_faultOfNumber_38 rfl rfl (fun v7087 hv7087 => ?_)
      refine WQ_icmp_eq 45 dX3_faultOfNumber_40 rfl (fun c7087 => False.elim (by omega)) (fun c7087 => ?_)
      refine WQ_iconst (0) (0) dX3_faultOfNumber_43 rfl rfl (fun v7089 hv7089 => ?_)
      exact WP_iret dX3_faultOfNumber_44 rfl ⟨⟨hI7081, rfl, ⟨trivial, (by rw [e7083, ew7072] <;> exact (eq32 _ _).mpr (by omega)), (by rw [e7084, ew7073] <;> exact (eq32 _ _).mpr (by omega))⟩⟩, _, rfl, by omega, by omega, by (try rw [e7086]); omega⟩
    · refine WQ_iconst (2) (2) dX3_faultOfNumber_27 rfl rfl (fun v7090 hv7090 => ?_)
      obtain ⟨w7091, ew7091⟩ : ∃ w : Int32, I (ad g 4) 0 = w := ⟨_, rfl⟩
      have bw7091 := BT_get hI.1 4 0 5 (0) (0) (1000) (by decide) 0 (by decide) (by decide)
      rw [ew7091] at bw7091
      exact WP_iret dX3_faultOfNumber_28 rfl ⟨⟨hI, rfl, ⟨trivial, rfl, rfl⟩⟩, _, rfl, by omega, by omega, by (try rw [ew7091]); omega⟩
set_option maxHeartbeats 4000000 in
set_option maxRecDepth 100000 in
theorem sx_part_27_11_1 {g : GG} {n : Int} {L : Int32} (hy : LyX g)  {I : pI} {J : pJ} {R : pR} (hr : RfX g R) (hI : XI g n L I) (pa : Int32) (cz : Int32) (ix : Int32) (pa_lo : 86 ≤ pa.toInt) (pa_hi : pa.toInt ≤ 86) (cz_lo : 11 ≤ cz.toInt) (cz_hi : cz.toInt ≤ 11) (ix_lo : 1 ≤ ix.toInt) (ix_hi : ix.toInt ≤ 1) : SP g mX3_faultOfNumber [.ref (ad g 3), .int pa, .int cz, .int ix, .ref (ad g 27)] I J R (fun r I' J' R' => (XI g n L I' ∧ R' = R ∧ True ∧ I' (ad g 4) 0 = I (ad g 4) 0 ∧ I' (ad g 27) 1 = I (ad g 27) 1 ∧ I' (ad g 27) 2 = I (ad g 27) 2) ∧ ∃ v : Int32, r = some (.int v) ∧ 0 ≤ v.toInt ∧ v.toInt ≤ 5 ∧ (v.toInt = 0 → (I' (ad g 4) 1).toInt ≤ 99)) := by
  refine SP_of ⟨by decide, rfl⟩ (Nat.le_of_ble_eq_true rfl) ?_
  have e7092 : I (ad g 1) 1 = L := hI.2
  have b7093 := BT_get hI.1 1 1 2 (0) (0) (900) (by decide) 1 (by decide) (by decide)
  rw [e7092] at b7093
  obtain ⟨w7094, ew7094⟩ : ∃ w : Int32, I (ad g 4) 0 = w := ⟨_, rfl⟩
  have bw7094 := BT_get hI.1 4 0 5 (0) (0) (1000) (by decide) 0 (by decide) (by decide)
  rw [ew7094] at bw7094
  obtain ⟨w7095, ew7095⟩ : ∃ w : Int32, I (ad g 27) 1 = w := ⟨_, rfl⟩
  have bw7095 := BT_get hI.1 27 1 2 (0) (0) (4) (by decide) 1 (by decide) (by decide)
  rw [ew7095] at bw7095
  obtain ⟨w7096, ew7096⟩ : ∃ w : Int32, I (ad g 27) 2 = w := ⟨_, rfl⟩
  have bw7096 := BT_get hI.1 27 2 3 (0) (0) (3) (by decide) 2 (by decide) (by decide)
  rw [ew7096] at bw7096
  refine WP_aload_n dX3_faultOfNumber_0 rfl ?_
  refine WP_getr dX3_faultOfNumber_1 fX3_15 rfl (lyx_is hy 3 3 rfl) (rfx hr 3 2 1 (by decide)) ?_
  refine WQ_getiu dX3_faultOfNumber_4 fX3_118 rfl (lyx_is hy 1 5 rfl) (fun v7097 ev7097 => ?_)
  refine WP_istore (ls' := [(0, _), (1, _), (2, _), (3, _), (4, _), (5, _)]) dX3_faultOfNumber_7 (by decide) rfl ?_
  refine WP_iload dX3_faultOfNumber_9 rfl ?_
  refine WP_iload_n dX3_faultOfNumber_11 rfl ?_
  refine WP_callS1 dX3_faultOfNumber_12 ⟨⟨⟨by decide, by decide⟩, zX3_leastOf⟩, lX3_121, tX3_leastOf⟩ (sx_leastOf hy hr hI pa ) (Nat.le_of_ble_eq_true rfl) ?_
  intro r Ia Ja Ra hq
  obtain ⟨⟨ea, eb, ec⟩, v7098, rfl, av7098, bv7098⟩ := hq
  show WP _ _ _ _ (.int _ :: _) _ _ _ _
  rw [ea, eb, ec]
  clear ea eb ec Ia Ja Ra
  refine WQ_icmp_lt 27 dX3_faultOfNumber_15 rfl (fun c7098 => ?_) (fun c7098 => ?_)
  · refine WQ_iconst (2) (2) dX3_faultOfNumber_27 rfl rfl (fun v7100 hv7100 => ?_)
    obtain ⟨w7101, ew7101⟩ : ∃ w : Int32, I (ad g 4) 1 = w := ⟨_, rfl⟩
    have bw7101 := BT_get hI.1 4 0 5 (0) (0) (1000) (by decide) 1 (by decide) (by decide)
    rw [ew7101] at bw7101
    exact WP_iret dX3_faultOfNumber_28 rfl ⟨⟨hI, rfl, ⟨trivial, rfl, rfl, rfl⟩⟩, _, rfl, by omega, by omega, by (try rw [ew7101]); omega⟩
  · refine WP_iload dX3_faultOfNumber_18 rfl ?_
    refine WP_iload_n dX3_faultOfNumber_20 rfl ?_
    refine WP_callS1 dX3_faultOfNumber_21 ⟨⟨⟨by decide, by decide⟩, zX3_mostOf⟩, lX3_125, tX3_mostOf⟩ (sx_mostOf hy hr hI pa ) (Nat.le_of_ble_eq_true rfl) ?_
    intro r Ia Ja Ra hq
    obtain ⟨⟨ea, eb, ec⟩, v7102, rfl, av7102, bv7102, cv7102⟩ := hq
    show WP _ _ _ _ (.int _ :: _) _ _ _ _
    rw [ea, eb, ec]
    clear ea eb ec Ia Ja Ra
    refine WQ_icmp_le 29 dX3_faultOfNumber_24 rfl (fun c7102 => ?_) (fun c7102 => ?_)
    · refine WP_aload_n dX3_faultOfNumber_29 rfl ?_
      refine WP_getr dX3_faultOfNumber_30 fX3_9 rfl (lyx_is hy 3 3 rfl) (rfx hr 3 3 4 (by decide)) ?_
      refine WP_iload_n dX3_faultOfNumber_33 rfl ?_
      refine WP_iload dX3_faultOfNumber_34 rfl ?_
      refine WQ_iast dX3_faultOfNumber_36 (lyx_is hy 4 13 rfl) (lyx_n hy 4 5 rfl) (by omega) (by omega) (fun I7104 fI7104 => ?_)
      have eI7104 := fI7104
      rw [cl (x := ix) (n := 1) (by omega)] at eI7104
      clear fI7104
      have hI7104 : XI g n L I7104 := by rw [eI7104]; exact (xi_f hy hI (c := 4) (0) (0) (1000) (by decide) (Or.inl (by decide)) (by decide) (by omega) (by omega))
      have e7105 : I7104 (ad g 1) 1 = L := by rw [eI7104, pp_ne _ _ (Or.inl (lyx_ne hy (by decide) (by decide) (by decide)))]; exact e7092
      have e7106 : I7104 (ad g 4) 0 = w7094 := by rw [eI7104, pp_ne _ _ (Or.inr (by decide))]; exact ew7094
      have e7107 : I7104 (ad g 27) 1 = w7095 := by rw [eI7104, pp_ne _ _ (Or.inl (lyx_ne hy (by decide) (by decide) (by decide)))]; exact ew7095
      have e7108 : I7104 (ad g 27) 2 = w7096 := by rw [eI7104, pp_ne _ _ (Or.inl (lyx_ne hy (by decide) (by decide) (by decide)))]; exact ew7096
      have e7109 : I7104 (ad g 1) 4 = v7097 := by rw [eI7104, pp_ne _ _ (Or.inl (lyx_ne hy (by decide) (by decide) (by decide)))]; exact ev7097
      have e7110 : I7104 (ad g 4) 1 = v7097 := by rw [eI7104, pp_self]
      clear eI7104
      refine WP_iload_n dX3_faultOfNumber_37 rfl ?_
      refine WQ_bipush (68) (68) dX3_faultOfNumber_38 rfl rfl (fun v7111 hv7111 => ?_)
      refine WQ_icmp_eq 45 dX3_faultOfNumber_40 rfl (fun c7111 => False.elim (by omega)) (fun c7111 => ?_)
      refine WQ_iconst (0) (0) dX3_faultOfNumber_43 rfl rfl (fun v7113 hv7113 => ?_)
      exact WP_iret dX3_faultOfNumber_44 rfl ⟨⟨hI7104, rfl, ⟨trivial, (by rw [e7106, ew7094] <;> exact (eq32 _ _).mpr (by omega)), (by rw [e7107, ew7095] <;> exact (eq32 _ _).mpr (by omega)), (by rw [e7108, ew7096] <;> exact (eq32 _ _).mpr (by omega))⟩⟩, _, rfl, by omega, by omega, by (try rw [e7110]); omega⟩
    · refine WQ_iconst (2) (2) dX3_faultOfNumber_27 rfl rfl (fun v7114 hv7114 => ?_)
      obtain ⟨w7115, ew7115⟩ : ∃ w : Int32, I (ad g 4) 1 = w := ⟨_, rfl⟩
      have bw7115 := BT_get hI.1 4 0 5 (0) (0) (1000) (by decide) 1 (by decide) (by decide)
      rw [ew7115] at bw7115
      exact WP_iret dX3_faultOfNumber_28 rfl ⟨⟨hI, rfl, ⟨trivial, rfl, rfl, rfl⟩⟩, _, rfl, by omega, by omega, by (try rw [ew7115]); omega⟩
