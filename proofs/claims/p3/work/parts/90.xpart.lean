set_option maxHeartbeats 4000000 in
set_option maxRecDepth 100000 in
theorem sx_name_6_1 {g : GG} {n : Int} {L : Int32} (hy : LyX g)  {I : pI} {J : pJ} {R : pR} (hr : RfX g R) (hI : XI g n L I) (os : Int32) (wd : Int64) (os_lo : 1 ≤ os.toInt) (os_hi : os.toInt ≤ 1) (hb : (I (ad g 6) 1).toInt ≤ 3) : SP g mX7_name [.ref (ad g 6), .int os, .long wd] I J R (fun r I' J' R' => (I' = I ∧ R' = R) ∧ r = none) := by
  refine SP_of ⟨by decide, rfl⟩ (Nat.le_of_ble_eq_true rfl) ?_
  have e5221 : I (ad g 1) 1 = L := hI.2
  have b5222 := BT_get hI.1 1 1 2 (0) (0) (900) (by decide) 1 (by decide) (by decide)
  rw [e5221] at b5222
  obtain ⟨w5223, ew5223⟩ : ∃ w : Int32, I (ad g 6) 1 = w := ⟨_, rfl⟩
  have bw5223 := BT_get hI.1 6 1 2 (0) (0) (4) (by decide) 1 (by decide) (by decide)
  rw [ew5223] at bw5223
  rw [ew5223] at hb
  refine WP_aload_n dX7_name_0 rfl ?_
  refine WP_getr dX7_name_1 fX7_51 rfl (lyx_is hy 6 7 rfl) (rfx hr 6 18 20 (by decide)) ?_
  refine WP_iload_n dX7_name_4 rfl ?_
  have jn21_5224 : ∀ (v5224 : Int32), 0 ≤ v5224.toInt → v5224.toInt ≤ 3 → WP g mX7_name 21 [(0, .ref (ad g 6)), (1, .int os), (2, .long wd)] [.int v5224, .ref (ad g 20)] I J R (fun r I' J' R' => (I' = I ∧ R' = R) ∧ r = none) := by
    intro v5224 av5224 bv5224
    refine WP_lload_n dX7_name_21 rfl ?_
    refine WQ_last dX7_name_22 (lyx_is hy 20 14 rfl) (lyx_n hy 20 7 rfl) (by omega) (by omega) (fun J5226 eJ5226 => ?_)
    clear eJ5226
    exact WP_vret dX7_name_23 rfl ⟨⟨rfl, rfl⟩, rfl⟩
  refine WQ_if_eq 15 dX7_name_5 rfl (fun c5226 => False.elim (by omega)) (fun c5226 => ?_)
  refine WP_aload_n dX7_name_8 rfl ?_
  refine WQ_getim dX7_name_9 fX7_65 rfl (lyx_is hy 6 7 rfl) ew5223 ?_
  refine WP_goto 21 dX7_name_12 rfl ?_
  exact WP_sub (fc rfl (fc rfl (fc rfl fn))) (jn21_5224 w5223 (by omega) (by omega))
set_option maxHeartbeats 4000000 in
set_option maxRecDepth 100000 in
theorem sx_name_6_0 {g : GG} {n : Int} {L : Int32} (hy : LyX g)  {I : pI} {J : pJ} {R : pR} (hr : RfX g R) (hI : XI g n L I) (os : Int32) (wd : Int64) (os_lo : 0 ≤ os.toInt) (os_hi : os.toInt ≤ 0) (hb : (I (ad g 6) 2).toInt ≤ 2) : SP g mX7_name [.ref (ad g 6), .int os, .long wd] I J R (fun r I' J' R' => (I' = I ∧ R' = R) ∧ r = none) := by
  refine SP_of ⟨by decide, rfl⟩ (Nat.le_of_ble_eq_true rfl) ?_
  have e5228 : I (ad g 1) 1 = L := hI.2
  have b5229 := BT_get hI.1 1 1 2 (0) (0) (900) (by decide) 1 (by decide) (by decide)
  rw [e5228] at b5229
  obtain ⟨w5230, ew5230⟩ : ∃ w : Int32, I (ad g 6) 2 = w := ⟨_, rfl⟩
  have bw5230 := BT_get hI.1 6 2 3 (0) (0) (3) (by decide) 2 (by decide) (by decide)
  rw [ew5230] at bw5230
  rw [ew5230] at hb
  refine WP_aload_n dX7_name_0 rfl ?_
  refine WP_getr dX7_name_1 fX7_51 rfl (lyx_is hy 6 7 rfl) (rfx hr 6 18 20 (by decide)) ?_
  refine WP_iload_n dX7_name_4 rfl ?_
  have jn21_5233 : ∀ (v5233 : Int32), 4 ≤ v5233.toInt → v5233.toInt ≤ 6 → WP g mX7_name 21 [(0, .ref (ad g 6)), (1, .int os), (2, .long wd)] [.int v5233, .ref (ad g 20)] I J R (fun r I' J' R' => (I' = I ∧ R' = R) ∧ r = none) := by
    intro v5233 av5233 bv5233
    refine WP_lload_n dX7_name_21 rfl ?_
    refine WQ_last dX7_name_22 (lyx_is hy 20 14 rfl) (lyx_n hy 20 7 rfl) (by omega) (by omega) (fun J5235 eJ5235 => ?_)
    clear eJ5235
    exact WP_vret dX7_name_23 rfl ⟨⟨rfl, rfl⟩, rfl⟩
  refine WQ_if_eq 15 dX7_name_5 rfl (fun c5235 => ?_) (fun c5235 => False.elim (by omega))
  refine WQ_iconst (4) (4) dX7_name_15 rfl rfl (fun v5237 hv5237 => ?_)
  refine WP_aload_n dX7_name_16 rfl ?_
  refine WQ_getim dX7_name_17 fX7_68 rfl (lyx_is hy 6 7 rfl) ew5230 ?_
  refine WQ_iadd dX7_name_20 (by omega) (by omega) (fun v5238 hv5238 => ?_)
  exact WP_sub (fc rfl (fc rfl (fc rfl fn))) (jn21_5233 v5238 (by omega) (by omega))
set_option maxHeartbeats 4000000 in
set_option maxRecDepth 100000 in
theorem sx_part_6_0_0 {g : GG} {n : Int} {L : Int32} (hy : LyX g)  {I : pI} {J : pJ} {R : pR} (hr : RfX g R) (hI : XI g n L I) (pa : Int32) (cz : Int32) (ix : Int32) (pa_lo : 68 ≤ pa.toInt) (pa_hi : pa.toInt ≤ 68) (cz_lo : 0 ≤ cz.toInt) (cz_hi : cz.toInt ≤ 0) (ix_lo : 0 ≤ ix.toInt) (ix_hi : ix.toInt ≤ 0) : SP g mX3_faultOfNumber [.ref (ad g 3), .int pa, .int cz, .int ix, .ref (ad g 6)] I J R (fun r I' J' R' => (XI g n L I' ∧ R' = R ∧ True ∧ I' (ad g 6) 1 = I (ad g 6) 1 ∧ I' (ad g 6) 2 = I (ad g 6) 2) ∧ ∃ v : Int32, r = some (.int v) ∧ 0 ≤ v.toInt ∧ v.toInt ≤ 5 ∧ (v.toInt = 0 → (I' (ad g 4) 0).toInt ≤ 6)) := by
  refine SP_of ⟨by decide, rfl⟩ (Nat.le_of_ble_eq_true rfl) ?_
  have e5239 : I (ad g 1) 1 = L := hI.2
  have b5240 := BT_get hI.1 1 1 2 (0) (0) (900) (by decide) 1 (by decide) (by decide)
  rw [e5239] at b5240
  obtain ⟨w5241, ew5241⟩ : ∃ w : Int32, I (ad g 6) 1 = w := ⟨_, rfl⟩
  have bw5241 := BT_get hI.1 6 1 2 (0) (0) (4) (by decide) 1 (by decide) (by decide)
  rw [ew5241] at bw5241
  obtain ⟨w5242, ew5242⟩ : ∃ w : Int32, I (ad g 6) 2 = w := ⟨_, rfl⟩
  have bw5242 := BT_get hI.1 6 2 3 (0) (0) (3) (by decide) 2 (by decide) (by decide)
  rw [ew5242] at bw5242
  refine WP_aload_n dX3_faultOfNumber_0 rfl ?_
  refine WP_getr dX3_faultOfNumber_1 fX3_15 rfl (lyx_is hy 3 3 rfl) (rfx hr 3 2 1 (by decide)) ?_
  refine WQ_getiu dX3_faultOfNumber_4 fX3_118 rfl (lyx_is hy 1 5 rfl) (fun v5243 ev5243 => ?_)
  refine WP_istore (ls' := [(0, _), (1, _), (2, _), (3, _), (4, _), (5, _)]) dX3_faultOfNumber_7 (by decide) rfl ?_
  refine WP_iload dX3_faultOfNumber_9 rfl ?_
  refine WP_iload_n dX3_faultOfNumber_11 rfl ?_
  refine WP_callS1 dX3_faultOfNumber_12 ⟨⟨⟨by decide, by decide⟩, zX3_leastOf⟩, lX3_121, tX3_leastOf⟩ (sx_leastOf hy hr hI pa ) (Nat.le_of_ble_eq_true rfl) ?_
  intro r Ia Ja Ra hq
  obtain ⟨⟨ea, eb, ec⟩, v5244, rfl, av5244, bv5244⟩ := hq
  show WP _ _ _ _ (.int _ :: _) _ _ _ _
  rw [ea, eb, ec]
  clear ea eb ec Ia Ja Ra
  refine WQ_icmp_lt 27 dX3_faultOfNumber_15 rfl (fun c5244 => ?_) (fun c5244 => ?_)
  · refine WQ_iconst (2) (2) dX3_faultOfNumber_27 rfl rfl (fun v5246 hv5246 => ?_)
    obtain ⟨w5247, ew5247⟩ : ∃ w : Int32, I (ad g 4) 0 = w := ⟨_, rfl⟩
    have bw5247 := BT_get hI.1 4 0 5 (0) (0) (1000) (by decide) 0 (by decide) (by decide)
    rw [ew5247] at bw5247
    exact WP_iret dX3_faultOfNumber_28 rfl ⟨⟨hI, rfl, ⟨trivial, rfl, rfl⟩⟩, _, rfl, by omega, by omega, by (try rw [ew5247]); omega⟩
  · refine WP_iload dX3_faultOfNumber_18 rfl ?_
    refine WP_iload_n dX3_faultOfNumber_20 rfl ?_
    refine WP_callS1 dX3_faultOfNumber_21 ⟨⟨⟨by decide, by decide⟩, zX3_mostOf⟩, lX3_125, tX3_mostOf⟩ (sx_mostOf hy hr hI pa ) (Nat.le_of_ble_eq_true rfl) ?_
    intro r Ia Ja Ra hq
    obtain ⟨⟨ea, eb, ec⟩, v5248, rfl, av5248, bv5248, cv5248⟩ := hq
    show WP _ _ _ _ (.int _ :: _) _ _ _ _
    rw [ea, eb, ec]
    clear ea eb ec Ia Ja Ra
    refine WQ_icmp_le 29 dX3_faultOfNumber_24 rfl (fun c5248 => ?_) (fun c5248 => ?_)
    · refine WP_aload_n dX3_faultOfNumber_29 rfl ?_
      refine WP_getr dX3_faultOfNumber_30 fX3_9 rfl (lyx_is hy 3 3 rfl) (rfx hr 3 3 4 (by decide)) ?_
      refine WP_iload_n dX3_faultOfNumber_33 rfl ?_
      refine WP_iload dX3_faultOfNumber_34 rfl ?_
      refine WQ_iast dX3_faultOfNumber_36 (lyx_is hy 4 13 rfl) (lyx_n hy 4 5 rfl) (by omega) (by omega) (fun I5250 fI5250 => ?_)
      have eI5250 := fI5250
      rw [cl (x := ix) (n := 0) (by omega)] at eI5250
      clear fI5250
      have hI5250 : XI g n L I5250 := by rw [eI5250]; exact (xi_f hy hI (c := 4) (0) (0) (1000) (by decide) (Or.inl (by decide)) (by decide) (by omega) (by omega))
      have e5251 : I5250 (ad g 1) 1 = L := by rw [eI5250, pp_ne _ _ (Or.inl (lyx_ne hy (by decide) (by decide) (by decide)))]; exact e5239
      have e5252 : I5250 (ad g 6) 1 = w5241 := by rw [eI5250, pp_ne _ _ (Or.inl (lyx_ne hy (by decide) (by decide) (by decide)))]; exact ew5241
      have e5253 : I5250 (ad g 6) 2 = w5242 := by rw [eI5250, pp_ne _ _ (Or.inl (lyx_ne hy (by decide) (by decide) (by decide)))]; exact ew5242
      have e5254 : I5250 (ad g 1) 4 = v5243 := by rw [eI5250, pp_ne _ _ (Or.inl (lyx_ne hy (by decide) (by decide) (by decide)))]; exact ev5243
      have e5255 : I5250 (ad g 4) 0 = v5243 := by rw [eI5250, pp_self]
      clear eI5250
      refine WP_iload_n dX3_faultOfNumber_37 rfl ?_
      refine WQ_bipush (68) (68) dX3_faultOfNumber_38 rfl rfl (fun v5256 hv5256 => ?_)
      refine WQ_icmp_eq 45 dX3_faultOfNumber_40 rfl (fun c5256 => ?_) (fun c5256 => False.elim (by omega))
      refine WP_aload dX3_faultOfNumber_45 rfl ?_
      refine WP_iload_n dX3_faultOfNumber_47 rfl ?_
      refine WP_iload_n dX3_faultOfNumber_48 rfl ?_
      refine WQ_if_ne 56 dX3_faultOfNumber_49 rfl (fun c5257 => False.elim (by omega)) (fun c5257 => ?_)
      refine WQ_iconst (0) (0) dX3_faultOfNumber_52 rfl rfl (fun v5259 hv5259 => ?_)
      refine WP_goto 62 dX3_faultOfNumber_53 rfl ?_
      refine WP_iload dX3_faultOfNumber_62 rfl ?_
      refine WP_callV3 (k := 7) dX3_faultOfNumber_64 ⟨⟨⟨by decide, by decide⟩, zX7_isTold⟩, lX3_114, by decide, rfl, vX7_isTold.1, vX7_isTold.2⟩ (lyx_is hy 6 7 rfl) (sx_isTold_6 hy hr hI5250 cz v5259 v5243 (by omega) (by omega) (by omega) (by omega) ) (Nat.le_of_ble_eq_true rfl) ?_
      intro r Ia Ja Ra hq
      obtain ⟨⟨ea, eb, ec⟩, v5260, rfl, av5260, bv5260⟩ := hq
      show WP _ _ _ _ (.int _ :: _) _ _ _ _
      rw [ea, eb, ec]
      clear ea eb ec Ia Ja Ra
      refine WQ_if_eq 74 dX3_faultOfNumber_67 rfl (fun c5260 => ?_) (fun c5260 => ?_)
      · refine WQ_iconst (0) (0) dX3_faultOfNumber_74 rfl rfl (fun v5262 hv5262 => ?_)
        exact WP_iret dX3_faultOfNumber_75 rfl ⟨⟨hI5250, rfl, ⟨trivial, (by rw [e5252, ew5241] <;> exact (eq32 _ _).mpr (by omega)), (by rw [e5253, ew5242] <;> exact (eq32 _ _).mpr (by omega))⟩⟩, _, rfl, by omega, by omega, by (try rw [e5255]); omega⟩
      · refine WQ_iconst (3) (3) dX3_faultOfNumber_70 rfl rfl (fun v5263 hv5263 => ?_)
        refine WP_goto 75 dX3_faultOfNumber_71 rfl ?_
        exact WP_iret dX3_faultOfNumber_75 rfl ⟨⟨hI5250, rfl, ⟨trivial, (by rw [e5252, ew5241] <;> exact (eq32 _ _).mpr (by omega)), (by rw [e5253, ew5242] <;> exact (eq32 _ _).mpr (by omega))⟩⟩, _, rfl, by omega, by omega, by (try rw [e5255]); omega⟩
    · refine WQ_iconst (2) (2) dX3_faultOfNumber_27 rfl rfl (fun v5264 hv5264 => ?_)
      obtain ⟨w5265, ew5265⟩ : ∃ w : Int32, I (ad g 4) 0 = w := ⟨_, rfl⟩
      have bw5265 := BT_get hI.1 4 0 5 (0) (0) (1000) (by decide) 0 (by decide) (by decide)
      rw [ew5265] at bw5265
      exact WP_iret dX3_faultOfNumber_28 rfl ⟨⟨hI, rfl, ⟨trivial, rfl, rfl⟩⟩, _, rfl, by omega, by omega, by (try rw [ew5265]); omega⟩
set_option maxHeartbeats 4000000 in
set_option maxRecDepth 100000 in
theorem sx_part_6_0_1 {g : GG} {n : Int} {L : Int32} (hy : LyX g)  {I : pI} {J : pJ} {R : pR} (hr : RfX g R) (hI : XI g n L I) (pa : Int32) (cz : Int32) (ix : Int32) (pa_lo : 76 ≤ pa.toInt) (pa_hi : pa.toInt ≤ 76) (cz_lo : 0 ≤ cz.toInt) (cz_hi : cz.toInt ≤ 0) (ix_lo : 1 ≤ ix.toInt) (ix_hi : ix.toInt ≤ 1) : SP g mX3_faultOfNumber [.ref (ad g 3), .int pa, .int cz, .int ix, .ref (ad g 6)] I J R (fun r I' J' R' => (XI g n L I' ∧ R' = R ∧ True ∧ I' (ad g 4) 0 = I (ad g 4) 0 ∧ I' (ad g 6) 1 = I (ad g 6) 1 ∧ I' (ad g 6) 2 = I (ad g 6) 2) ∧ ∃ v : Int32, r = some (.int v) ∧ 0 ≤ v.toInt ∧ v.toInt ≤ 5 ∧ (v.toInt = 0 → (I' (ad g 4) 1).toInt ≤ 900)) := by
  refine SP_of ⟨by decide, rfl⟩ (Nat.le_of_ble_eq_true rfl) ?_
  have e5266 : I (ad g 1) 1 = L := hI.2
  have b5267 := BT_get hI.1 1 1 2 (0) (0) (900) (by decide) 1 (by decide) (by decide)
  rw [e5266] at b5267
  obtain ⟨w5268, ew5268⟩ : ∃ w : Int32, I (ad g 4) 0 = w := ⟨_, rfl⟩
  have bw5268 := BT_get hI.1 4 0 5 (0) (0) (1000) (by decide) 0 (by decide) (by decide)
  rw [ew5268] at bw5268
  obtain ⟨w5269, ew5269⟩ : ∃ w : Int32, I (ad g 6) 1 = w := ⟨_, rfl⟩
  have bw5269 := BT_get hI.1 6 1 2 (0) (0) (4) (by decide) 1 (by decide) (by decide)
  rw [ew5269] at bw5269
  obtain ⟨w5270, ew5270⟩ : ∃ w : Int32, I (ad g 6) 2 = w := ⟨_, rfl⟩
  have bw5270 := BT_get hI.1 6 2 3 (0) (0) (3) (by decide) 2 (by decide) (by decide)
  rw [ew5270] at bw5270
  refine WP_aload_n dX3_faultOfNumber_0 rfl ?_
  refine WP_getr dX3_faultOfNumber_1 fX3_15 rfl (lyx_is hy 3 3 rfl) (rfx hr 3 2 1 (by decide)) ?_
  refine WQ_getiu dX3_faultOfNumber_4 fX3_118 rfl (lyx_is hy 1 5 rfl) (fun v5271 ev5271 => ?_)
  refine WP_istore (ls' := [(0, _), (1, _), (2, _), (3, _), (4, _), (5, _)]) dX3_faultOfNumber_7 (by decide) rfl ?_
  refine WP_iload dX3_faultOfNumber_9 rfl ?_
  refine WP_iload_n dX3_faultOfNumber_11 rfl ?_
  refine WP_callS1 dX3_faultOfNumber_12 ⟨⟨⟨by decide, by decide⟩, zX3_leastOf⟩, lX3_121, tX3_leastOf⟩ (sx_leastOf hy hr hI pa ) (Nat.le_of_ble_eq_true rfl) ?_
  intro r Ia Ja Ra hq
  obtain ⟨⟨ea, eb, ec⟩, v5272, rfl, av5272, bv5272⟩ := hq
  show WP _ _ _ _ (.int _ :: _) _ _ _ _
  rw [ea, eb, ec]
  clear ea eb ec Ia Ja Ra
  refine WQ_icmp_lt 27 dX3_faultOfNumber_15 rfl (fun c5272 => ?_) (fun c5272 => ?_)
  · refine WQ_iconst (2) (2) dX3_faultOfNumber_27 rfl rfl (fun v5274 hv5274 => ?_)
    obtain ⟨w5275, ew5275⟩ : ∃ w : Int32, I (ad g 4) 1 = w := ⟨_, rfl⟩
    have bw5275 := BT_get hI.1 4 0 5 (0) (0) (1000) (by decide) 1 (by decide) (by decide)
    rw [ew5275] at bw5275
    exact WP_iret dX3_faultOfNumber_28 rfl ⟨⟨hI, rfl, ⟨trivial, rfl, rfl, rfl⟩⟩, _, rfl, by omega, by omega, by (try rw [ew5275]); omega⟩
  · refine WP_iload dX3_faultOfNumber_18 rfl ?_
    refine WP_iload_n dX3_faultOfNumber_20 rfl ?_
    refine WP_callS1 dX3_faultOfNumber_21 ⟨⟨⟨by decide, by decide⟩, zX3_mostOf⟩, lX3_125, tX3_mostOf⟩ (sx_mostOf hy hr hI pa ) (Nat.le_of_ble_eq_true rfl) ?_
    intro r Ia Ja Ra hq
    obtain ⟨⟨ea, eb, ec⟩, v5276, rfl, av5276, bv5276, cv5276⟩ := hq
    show WP _ _ _ _ (.int _ :: _) _ _ _ _
    rw [ea, eb, ec]
    clear ea eb ec Ia Ja Ra
    refine WQ_icmp_le 29 dX3_faultOfNumber_24 rfl (fun c5276 => ?_) (fun c5276 => ?_)
    · refine WP_aload_n dX3_faultOfNumber_29 rfl ?_
      refine WP_getr dX3_faultOfNumber_30 fX3_9 rfl (lyx_is hy 3 3 rfl) (rfx hr 3 3 4 (by decide)) ?_
      refine WP_iload_n dX3_faultOfNumber_33 rfl ?_
      refine WP_iload dX3_faultOfNumber_34 rfl ?_
      refine WQ_iast dX3_faultOfNumber_36 (lyx_is hy 4 13 rfl) (lyx_n hy 4 5 rfl) (by omega) (by omega) (fun I5278 fI5278 => ?_)
      have eI5278 := fI5278
      rw [cl (x := ix) (n := 1) (by omega)] at eI5278
      clear fI5278
      have hI5278 : XI g n L I5278 := by rw [eI5278]; exact (xi_f hy hI (c := 4) (0) (0) (1000) (by decide) (Or.inl (by decide)) (by decide) (by omega) (by omega))
      have e5279 : I5278 (ad g 1) 1 = L := by rw [eI5278, pp_ne _ _ (Or.inl (lyx_ne hy (by decide) (by decide) (by decide)))]; exact e5266
      have e5280 : I5278 (ad g 4) 0 = w5268 := by rw [eI5278, pp_ne _ _ (Or.inr (by decide))]; exact ew5268
      have e5281 : I5278 (ad g 6) 1 = w5269 := by rw [eI5278, pp_ne _ _ (Or.inl (lyx_ne hy (by decide) (by decide) (by decide)))]; exact ew5269
      have e5282 : I5278 (ad g 6) 2 = w5270 := by rw [eI5278, pp_ne _ _ (Or.inl (lyx_ne hy (by decide) (by decide) (by decide)))]; exact ew5270
      have e5283 : I5278 (ad g 1) 4 = v5271 := by rw [eI5278, pp_ne _ _ (Or.inl (lyx_ne hy (by decide) (by decide) (by decide)))]; exact ev5271
      have e5284 : I5278 (ad g 4) 1 = v5271 := by rw [eI5278, pp_self]
      clear eI5278
      refine WP_iload_n dX3_faultOfNumber_37 rfl ?_
      refine WQ_bipush (68) (68) dX3_faultOfNumber_38 rfl rfl (fun v5285 hv5285 => ?_)
      refine WQ_icmp_eq 45 dX3_faultOfNumber_40 rfl (fun c5285 => False.elim (by omega)) (fun c5285 => ?_)
      refine WQ_iconst (0) (0) dX3_faultOfNumber_43 rfl rfl (fun v5287 hv5287 => ?_)
      exact WP_iret dX3_faultOfNumber_44 rfl ⟨⟨hI5278, rfl, ⟨trivial, (by rw [e5280, ew5268] <;> exact (eq32 _ _).mpr (by omega)), (by rw [e5281, ew5269] <;> exact (eq32 _ _).mpr (by omega)), (by rw [e5282, ew5270] <;> exact (eq32 _ _).mpr (by omega))⟩⟩, _, rfl, by omega, by omega, by (try rw [e5284]); omega⟩
    · refine WQ_iconst (2) (2) dX3_faultOfNumber_27 rfl rfl (fun v5288 hv5288 => ?_)
      obtain ⟨w5289, ew5289⟩ : ∃ w : Int32, I (ad g 4) 1 = w := ⟨_, rfl⟩
      have bw5289 := BT_get hI.1 4 0 5 (0) (0) (1000) (by decide) 1 (by decide) (by decide)
      rw [ew5289] at bw5289
      exact WP_iret dX3_faultOfNumber_28 rfl ⟨⟨hI, rfl, ⟨trivial, rfl, rfl, rfl⟩⟩, _, rfl, by omega, by omega, by (try rw [ew5289]); omega⟩
set_option maxHeartbeats 4000000 in
set_option maxRecDepth 100000 in
theorem sx_part_6_1_0 {g : GG} {n : Int} {L : Int32} (hy : LyX g)  {I : pI} {J : pJ} {R : pR} (hr : RfX g R) (hI : XI g n L I) (pa : Int32) (cz : Int32) (ix : Int32) (pa_lo : 110 ≤ pa.toInt) (pa_hi : pa.toInt ≤ 110) (cz_lo : 1 ≤ cz.toInt) (cz_hi : cz.toInt ≤ 1) (ix_lo : 0 ≤ ix.toInt) (ix_hi : ix.toInt ≤ 0) (hb : (I (ad g 6) 1).toInt ≤ 3) : SP g mX3_faultOfName [.ref (ad g 3), .int pa, .int cz, .int ix, .ref (ad g 6)] I J R (fun r I' J' R' => (XI g n L I' ∧ R' = R ∧ True ∧ I' (ad g 6) 1 = I (ad g 6) 1 ∧ I' (ad g 6) 2 = I (ad g 6) 2) ∧ ∃ v : Int32, r = some (.int v) ∧ 0 ≤ v.toInt ∧ v.toInt ≤ 5) := by
  refine SP_of ⟨by decide, rfl⟩ (Nat.le_of_ble_eq_true rfl) ?_
  have e5290 : I (ad g 1) 1 = L := hI.2
  have b5291 := BT_get hI.1 1 1 2 (0) (0) (900) (by decide) 1 (by decide) (by decide)
  rw [e5290] at b5291
  obtain ⟨w5292, ew5292⟩ : ∃ w : Int32, I (ad g 6) 1 = w := ⟨_, rfl⟩
  have bw5292 := BT_get hI.1 6 1 2 (0) (0) (4) (by decide) 1 (by decide) (by decide)
  rw [ew5292] at bw5292
  obtain ⟨w5293, ew5293⟩ : ∃ w : Int32, I (ad g 6) 2 = w := ⟨_, rfl⟩
  have bw5293 := BT_get hI.1 6 2 3 (0) (0) (3) (by decide) 2 (by decide) (by decide)
  rw [ew5293] at bw5293
  rw [ew5292] at hb
  refine WP_iload_n dX3_faultOfName_0 rfl ?_
  refine WQ_bipush (115) (115) dX3_faultOfName_1 rfl rfl (fun v5294 hv5294 => ?_)
  have jn17_5298 : ∀ (v5298 : Int32), 1 ≤ v5298.toInt → v5298.toInt ≤ 1 → WP g mX3_faultOfName 17 [(0, .ref (ad g 3)), (1, .int pa), (2, .int cz), (3, .int ix), (4, .ref (ad g 6))] [.int v5298] I J R (fun r I' J' R' => (XI g n L I' ∧ R' = R ∧ True ∧ I' (ad g 6) 1 = I (ad g 6) 1 ∧ I' (ad g 6) 2 = I (ad g 6) 2) ∧ ∃ v : Int32, r = some (.int v) ∧ 0 ≤ v.toInt ∧ v.toInt ≤ 5) := by
    intro v5298 av5298 bv5298
    refine WP_istore (ls' := [(0, _), (1, _), (2, _), (3, _), (4, _), (5, _)]) dX3_faultOfName_17 (by decide) rfl ?_
    refine WP_iload dX3_faultOfName_19 rfl ?_
    have jn51_5302 : ∀ (v5302 : Int32), -1 ≤ v5302.toInt → v5302.toInt ≤ 3 → WP g mX3_faultOfName 51 [(0, .ref (ad g 3)), (1, .int pa), (2, .int cz), (3, .int ix), (4, .ref (ad g 6)), (5, .int v5298)] [.int v5302] I J R (fun r I' J' R' => (XI g n L I' ∧ R' = R ∧ True ∧ I' (ad g 6) 1 = I (ad g 6) 1 ∧ I' (ad g 6) 2 = I (ad g 6) 2) ∧ ∃ v : Int32, r = some (.int v) ∧ 0 ≤ v.toInt ∧ v.toInt ≤ 5) := by
      intro v5302 av5302 bv5302
      refine WP_istore (ls' := [(0, _), (1, _), (2, _), (3, _), (4, _), (5, _), (6, _)]) dX3_faultOfName_51 (by decide) rfl ?_
      refine WP_iload_n dX3_faultOfName_53 rfl ?_
      refine WQ_bipush (110) (110) dX3_faultOfName_54 rfl rfl (fun v5304 hv5304 => ?_)
      refine WQ_icmp_eq 65 dX3_faultOfName_56 rfl (fun c5304 => ?_) (fun c5304 => False.elim (by omega))
      refine WP_iload dX3_faultOfName_65 rfl ?_
      refine WQ_iconst (-1) (-1) dX3_faultOfName_67 rfl rfl (fun v5306 hv5306 => ?_)
      refine WQ_icmp_eq 73 dX3_faultOfName_68 rfl (fun c5306 => ?_) (fun c5306 => ?_)
      · refine WP_aload dX3_faultOfName_73 rfl ?_
        refine WP_iload_n dX3_faultOfName_75 rfl ?_
        refine WQ_bipush (110) (110) dX3_faultOfName_76 rfl rfl (fun v5308 hv5308 => ?_)
        have jn86_5310 : ∀ (v5310 : Int32), 1 ≤ v5310.toInt → v5310.toInt ≤ 1 → WP g mX3_faultOfName 86 [(0, .ref (ad g 3)), (1, .int pa), (2, .int cz), (3, .int ix), (4, .ref (ad g 6)), (5, .int v5298), (6, .int v5302)] [.int v5310, .ref (ad g 6)] I J R (fun r I' J' R' => (XI g n L I' ∧ R' = R ∧ True ∧ I' (ad g 6) 1 = I (ad g 6) 1 ∧ I' (ad g 6) 2 = I (ad g 6) 2) ∧ ∃ v : Int32, r = some (.int v) ∧ 0 ≤ v.toInt ∧ v.toInt ≤ 5) := by
          intro v5310 av5310 bv5310
          refine WP_aload_n dX3_faultOfName_86 rfl ?_
          refine WP_getr dX3_faultOfName_87 fX3_15 rfl (lyx_is hy 3 3 rfl) (rfx hr 3 2 1 (by decide)) ?_
          refine WQ_getl dX3_faultOfName_90 fX3_80 rfl (lyx_is hy 1 5 rfl) (fun l5312 el5312 => ?_)
          refine WP_callV2 (k := 7) dX3_faultOfName_93 ⟨⟨⟨by decide, by decide⟩, zX7_name⟩, lX3_110, by decide, rfl, vX7_name.1, vX7_name.2⟩ (lyx_is hy 6 7 rfl) (sx_name_6_1 hy hr hI v5310 l5312 (by omega) (by omega) (by rw [ew5292]; omega)) (Nat.le_of_ble_eq_true rfl) ?_
          intro r Ia J5313 Ra hq
          obtain ⟨⟨ea, ec⟩, rfl⟩ := hq
          rw [ea, ec]
          clear ea ec Ia Ra
          refine WQ_iconst (0) (0) dX3_faultOfName_96 rfl rfl (fun v5314 hv5314 => ?_)
          exact WP_iret dX3_faultOfName_97 rfl ⟨⟨hI, rfl, ⟨trivial, rfl, rfl⟩⟩, _, rfl, by omega, by omega⟩
        refine WQ_icmp_ne 85 dX3_faultOfName_78 rfl (fun c5314 => False.elim (by omega)) (fun c5314 => ?_)
        refine WQ_iconst (1) (1) dX3_faultOfName_81 rfl rfl (fun v5316 hv5316 => ?_)
        refine WP_goto 86 dX3_faultOfName_82 rfl ?_
        exact WP_sub (fc rfl (fc rfl (fc rfl (fc rfl (fc rfl (fc rfl (fc rfl fn))))))) (jn86_5310 v5316 (by omega) (by omega))
      · refine WQ_iconst (3) (3) dX3_faultOfName_71 rfl rfl (fun v5317 hv5317 => ?_)
        exact WP_iret dX3_faultOfName_72 rfl ⟨⟨hI, rfl, ⟨trivial, rfl, rfl⟩⟩, _, rfl, by omega, by omega⟩
    refine WQ_if_eq 39 dX3_faultOfName_21 rfl (fun c5317 => False.elim (by omega)) (fun c5317 => ?_)
    refine WP_aload dX3_faultOfName_24 rfl ?_
    refine WP_aload_n dX3_faultOfName_26 rfl ?_
    refine WP_getr dX3_faultOfName_27 fX3_15 rfl (lyx_is hy 3 3 rfl) (rfx hr 3 2 1 (by decide)) ?_
    refine WQ_getl dX3_faultOfName_30 fX3_80 rfl (lyx_is hy 1 5 rfl) (fun l5319 el5319 => ?_)
    refine WP_callV1 (k := 7) dX3_faultOfName_33 ⟨⟨⟨by decide, by decide⟩, zX7_sortNamed⟩, lX3_103, by decide, rfl, vX7_sortNamed.1, vX7_sortNamed.2⟩ (lyx_is hy 6 7 rfl) (sx_sortNamed_6 hy hr hI l5319 ) (Nat.le_of_ble_eq_true rfl) ?_
    intro r Ia Ja Ra hq
    obtain ⟨⟨ea, eb, ec⟩, v5320, rfl, av5320, bv5320⟩ := hq
    show WP _ _ _ _ (.int _ :: _) _ _ _ _
    rw [ea, eb, ec]
    clear ea eb ec Ia Ja Ra
    refine WP_goto 51 dX3_faultOfName_36 rfl ?_
    exact WP_sub (fc rfl (fc rfl (fc rfl (fc rfl (fc rfl (fc rfl fn)))))) (jn51_5302 v5320 (by omega) (by omega))
  refine WQ_icmp_eq 12 dX3_faultOfName_3 rfl (fun c5320 => False.elim (by omega)) (fun c5320 => ?_)
  refine WP_iload_n dX3_faultOfName_6 rfl ?_
  refine WQ_bipush (110) (110) dX3_faultOfName_7 rfl rfl (fun v5322 hv5322 => ?_)
  refine WQ_icmp_ne 16 dX3_faultOfName_9 rfl (fun c5322 => False.elim (by omega)) (fun c5322 => ?_)
  refine WQ_iconst (1) (1) dX3_faultOfName_12 rfl rfl (fun v5324 hv5324 => ?_)
  refine WP_goto 17 dX3_faultOfName_13 rfl ?_
  exact WP_sub (fc rfl (fc rfl (fc rfl (fc rfl (fc rfl fn))))) (jn17_5298 v5324 (by omega) (by omega))
set_option maxHeartbeats 4000000 in
set_option maxRecDepth 100000 in
theorem sx_part_6_1_1 {g : GG} {n : Int} {L : Int32} (hy : LyX g)  {I : pI} {J : pJ} {R : pR} (hr : RfX g R) (hI : XI g n L I) (pa : Int32) (cz : Int32) (ix : Int32) (pa_lo : 80 ≤ pa.toInt) (pa_hi : pa.toInt ≤ 80) (cz_lo : 1 ≤ cz.toInt) (cz_hi : cz.toInt ≤ 1) (ix_lo : 1 ≤ ix.toInt) (ix_hi : ix.toInt ≤ 1) : SP g mX3_faultOfNumber [.ref (ad g 3), .int pa, .int cz, .int ix, .ref (ad g 6)] I J R (fun r I' J' R' => (XI g n L I' ∧ R' = R ∧ True ∧ I' (ad g 4) 0 = I (ad g 4) 0 ∧ I' (ad g 6) 1 = I (ad g 6) 1 ∧ I' (ad g 6) 2 = I (ad g 6) 2) ∧ ∃ v : Int32, r = some (.int v) ∧ 0 ≤ v.toInt ∧ v.toInt ≤ 5 ∧ (v.toInt = 0 → (I' (ad g 4) 1).toInt ≤ 99)) := by
  refine SP_of ⟨by decide, rfl⟩ (Nat.le_of_ble_eq_true rfl) ?_
  have e5325 : I (ad g 1) 1 = L := hI.2
  have b5326 := BT_get hI.1 1 1 2 (0) (0) (900) (by decide) 1 (by decide) (by decide)
  rw [e5325] at b5326
  obtain ⟨w5327, ew5327⟩ : ∃ w : Int32, I (ad g 4) 0 = w := ⟨_, rfl⟩
  have bw5327 := BT_get hI.1 4 0 5 (0) (0) (1000) (by decide) 0 (by decide) (by decide)
  rw [ew5327] at bw5327
  obtain ⟨w5328, ew5328⟩ : ∃ w : Int32, I (ad g 6) 1 = w := ⟨_, rfl⟩
  have bw5328 := BT_get hI.1 6 1 2 (0) (0) (4) (by decide) 1 (by decide) (by decide)
  rw [ew5328] at bw5328
  obtain ⟨w5329, ew5329⟩ : ∃ w : Int32, I (ad g 6) 2 = w := ⟨_, rfl⟩
  have bw5329 := BT_get hI.1 6 2 3 (0) (0) (3) (by decide) 2 (by decide) (by decide)
  rw [ew5329] at bw5329
  refine WP_aload_n dX3_faultOfNumber_0 rfl ?_
  refine WP_getr dX3_faultOfNumber_1 fX3_15 rfl (lyx_is hy 3 3 rfl) (rfx hr 3 2 1 (by decide)) ?_
  refine WQ_getiu dX3_faultOfNumber_4 fX3_118 rfl (lyx_is hy 1 5 rfl) (fun v5330 ev5330 => ?_)
  refine WP_istore (ls' := [(0, _), (1, _), (2, _), (3, _), (4, _), (5, _)]) dX3_faultOfNumber_7 (by decide) rfl ?_
  refine WP_iload dX3_faultOfNumber_9 rfl ?_
  refine WP_iload_n dX3_faultOfNumber_11 rfl ?_
  refine WP_callS1 dX3_faultOfNumber_12 ⟨⟨⟨by decide, by decide⟩, zX3_leastOf⟩, lX3_121, tX3_leastOf⟩ (sx_leastOf hy hr hI pa ) (Nat.le_of_ble_eq_true rfl) ?_
  intro r Ia Ja Ra hq
  obtain ⟨⟨ea, eb, ec⟩, v5331, rfl, av5331, bv5331⟩ := hq
  show WP _ _ _ _ (.int _ :: _) _ _ _ _
  rw [ea, eb, ec]
  clear ea eb ec Ia Ja Ra
  refine WQ_icmp_lt 27 dX3_faultOfNumber_15 rfl (fun c5331 => ?_) (fun c5331 => ?_)
  · refine WQ_iconst (2) (2) dX3_faultOfNumber_27 rfl rfl (fun v5333 hv5333 => ?_)
    obtain ⟨w5334, ew5334⟩ : ∃ w : Int32, I (ad g 4) 1 = w := ⟨_, rfl⟩
    have bw5334 := BT_get hI.1 4 0 5 (0) (0) (1000) (by decide) 1 (by decide) (by decide)
    rw [ew5334] at bw5334
    exact WP_iret dX3_faultOfNumber_28 rfl ⟨⟨hI, rfl, ⟨trivial, rfl, rfl, rfl⟩⟩, _, rfl, by omega, by omega, by (try rw [ew5334]); omega⟩
  · refine WP_iload dX3_faultOfNumber_18 rfl ?_
    refine WP_iload_n dX3_faultOfNumber_20 rfl ?_
    refine WP_callS1 dX3_faultOfNumber_21 ⟨⟨⟨by decide, by decide⟩, zX3_mostOf⟩, lX3_125, tX3_mostOf⟩ (sx_mostOf hy hr hI pa ) (Nat.le_of_ble_eq_true rfl) ?_
    intro r Ia Ja Ra hq
    obtain ⟨⟨ea, eb, ec⟩, v5335, rfl, av5335, bv5335, cv5335⟩ := hq
    show WP _ _ _ _ (.int _ :: _) _ _ _ _
    rw [ea, eb, ec]
    clear ea eb ec Ia Ja Ra
    refine WQ_icmp_le 29 dX3_faultOfNumber_24 rfl (fun c5335 => ?_) (fun c5335 => ?_)
    · refine WP_aload_n dX3_faultOfNumber_29 rfl ?_
      refine WP_getr dX3_faultOfNumber_30 fX3_9 rfl (lyx_is hy 3 3 rfl) (rfx hr 3 3 4 (by decide)) ?_
      refine WP_iload_n dX3_faultOfNumber_33 rfl ?_
      refine WP_iload dX3_faultOfNumber_34 rfl ?_
      refine WQ_iast dX3_faultOfNumber_36 (lyx_is hy 4 13 rfl) (lyx_n hy 4 5 rfl) (by omega) (by omega) (fun I5337 fI5337 => ?_)
      have eI5337 := fI5337
      rw [cl (x := ix) (n := 1) (by omega)] at eI5337
      clear fI5337
      have hI5337 : XI g n L I5337 := by rw [eI5337]; exact (xi_f hy hI (c := 4) (0) (0) (1000) (by decide) (Or.inl (by decide)) (by decide) (by omega) (by omega))
      have e5338 : I5337 (ad g 1) 1 = L := by rw [eI5337, pp_ne _ _ (Or.inl (lyx_ne hy (by decide) (by decide) (by decide)))]; exact e5325
      have e5339 : I5337 (ad g 4) 0 = w5327 := by rw [eI5337, pp_ne _ _ (Or.inr (by decide))]; exact ew5327
      have e5340 : I5337 (ad g 6) 1 = w5328 := by rw [eI5337, pp_ne _ _ (Or.inl (lyx_ne hy (by decide) (by decide) (by decide)))]; exact ew5328
      have e5341 : I5337 (ad g 6) 2 = w5329 := by rw [eI5337, pp_ne _ _ (Or.inl (lyx_ne hy (by decide) (by decide) (by decide)))]; exact ew5329
      have e5342 : I5337 (ad g 1) 4 = v5330 := by rw [eI5337, pp_ne _ _ (Or.inl (lyx_ne hy (by decide) (by decide) (by decide)))]; exact ev5330
      have e5343 : I5337 (ad g 4) 1 = v5330 := by rw [eI5337, pp_self]
      clear eI5337
      refine WP_iload_n dX3_faultOfNumber_37 rfl ?_
      refine WQ_bipush (68) (68) dX3_faultOfNumber_38 rfl rfl (fun v5344 hv5344 => ?_)
      refine WQ_icmp_eq 45 dX3_faultOfNumber_40 rfl (fun c5344 => False.elim (by omega)) (fun c5344 => ?_)
      refine WQ_iconst (0) (0) dX3_faultOfNumber_43 rfl rfl (fun v5346 hv5346 => ?_)
      exact WP_iret dX3_faultOfNumber_44 rfl ⟨⟨hI5337, rfl, ⟨trivial, (by rw [e5339, ew5327] <;> exact (eq32 _ _).mpr (by omega)), (by rw [e5340, ew5328] <;> exact (eq32 _ _).mpr (by omega)), (by rw [e5341, ew5329] <;> exact (eq32 _ _).mpr (by omega))⟩⟩, _, rfl, by omega, by omega, by (try rw [e5343]); omega⟩
    · refine WQ_iconst (2) (2) dX3_faultOfNumber_27 rfl rfl (fun v5347 hv5347 => ?_)
      obtain ⟨w5348, ew5348⟩ : ∃ w : Int32, I (ad g 4) 1 = w := ⟨_, rfl⟩
      have bw5348 := BT_get hI.1 4 0 5 (0) (0) (1000) (by decide) 1 (by decide) (by decide)
      rw [ew5348] at bw5348
      exact WP_iret dX3_faultOfNumber_28 rfl ⟨⟨hI, rfl, ⟨trivial, rfl, rfl, rfl⟩⟩, _, rfl, by omega, by omega, by (try rw [ew5348]); omega⟩
set_option maxHeartbeats 4000000 in
set_option maxRecDepth 100000 in
theorem sx_part_6_1_2 {g : GG} {n : Int} {L : Int32} (hy : LyX g)  {I : pI} {J : pJ} {R : pR} (hr : RfX g R) (hI : XI g n L I) (pa : Int32) (cz : Int32) (ix : Int32) (pa_lo : 72 ≤ pa.toInt) (pa_hi : pa.toInt ≤ 72) (cz_lo : 1 ≤ cz.toInt) (cz_hi : cz.toInt ≤ 1) (ix_lo : 2 ≤ ix.toInt) (ix_hi : ix.toInt ≤ 2) : SP g mX3_faultOfNumber [.ref (ad g 3), .int pa, .int cz, .int ix, .ref (ad g 6)] I J R (fun r I' J' R' => (XI g n L I' ∧ R' = R ∧ True ∧ I' (ad g 4) 0 = I (ad g 4) 0 ∧ I' (ad g 4) 1 = I (ad g 4) 1 ∧ I' (ad g 6) 1 = I (ad g 6) 1 ∧ I' (ad g 6) 2 = I (ad g 6) 2) ∧ ∃ v : Int32, r = some (.int v) ∧ 0 ≤ v.toInt ∧ v.toInt ≤ 5 ∧ (v.toInt = 0 → (I' (ad g 4) 2).toInt ≤ 1000)) := by
  refine SP_of ⟨by decide, rfl⟩ (Nat.le_of_ble_eq_true rfl) ?_
  have e5349 : I (ad g 1) 1 = L := hI.2
  have b5350 := BT_get hI.1 1 1 2 (0) (0) (900) (by decide) 1 (by decide) (by decide)
  rw [e5349] at b5350
  obtain ⟨w5351, ew5351⟩ : ∃ w : Int32, I (ad g 4) 0 = w := ⟨_, rfl⟩
  have bw5351 := BT_get hI.1 4 0 5 (0) (0) (1000) (by decide) 0 (by decide) (by decide)
  rw [ew5351] at bw5351
  obtain ⟨w5352, ew5352⟩ : ∃ w : Int32, I (ad g 4) 1 = w := ⟨_, rfl⟩
  have bw5352 := BT_get hI.1 4 0 5 (0) (0) (1000) (by decide) 1 (by decide) (by decide)
  rw [ew5352] at bw5352
  obtain ⟨w5353, ew5353⟩ : ∃ w : Int32, I (ad g 6) 1 = w := ⟨_, rfl⟩
  have bw5353 := BT_get hI.1 6 1 2 (0) (0) (4) (by decide) 1 (by decide) (by decide)
  rw [ew5353] at bw5353
  obtain ⟨w5354, ew5354⟩ : ∃ w : Int32, I (ad g 6) 2 = w := ⟨_, rfl⟩
  have bw5354 := BT_get hI.1 6 2 3 (0) (0) (3) (by decide) 2 (by decide) (by decide)
  rw [ew5354] at bw5354
  refine WP_aload_n dX3_faultOfNumber_0 rfl ?_
  refine WP_getr dX3_faultOfNumber_1 fX3_15 rfl (lyx_is hy 3 3 rfl) (rfx hr 3 2 1 (by decide)) ?_
  refine WQ_getiu dX3_faultOfNumber_4 fX3_118 rfl (lyx_is hy 1 5 rfl) (fun v5355 ev5355 => ?_)
  refine WP_istore (ls' := [(0, _), (1, _), (2, _), (3, _), (4, _), (5, _)]) dX3_faultOfNumber_7 (by decide) rfl ?_
  refine WP_iload dX3_faultOfNumber_9 rfl ?_
  refine WP_iload_n dX3_faultOfNumber_11 rfl ?_
  refine WP_callS1 dX3_faultOfNumber_12 ⟨⟨⟨by decide, by decide⟩, zX3_leastOf⟩, lX3_121, tX3_leastOf⟩ (sx_leastOf hy hr hI pa ) (Nat.le_of_ble_eq_true rfl) ?_
  intro r Ia Ja Ra hq
  obtain ⟨⟨ea, eb, ec⟩, v5356, rfl, av5356, bv5356⟩ := hq
  show WP _ _ _ _ (.int _ :: _) _ _ _ _
  rw [ea, eb, ec]
  clear ea eb ec Ia Ja Ra
  refine WQ_icmp_lt 27 dX3_faultOfNumber_15 rfl (fun c5356 => ?_) (fun c5356 => ?_)
  · refine WQ_iconst (2) (2) dX3_faultOfNumber_27 rfl rfl (fun v5358 hv5358 => ?_)
    obtain ⟨w5359, ew5359⟩ : ∃ w : Int32, I (ad g 4) 2 = w := ⟨_, rfl⟩
    have bw5359 := BT_get hI.1 4 0 5 (0) (0) (1000) (by decide) 2 (by decide) (by decide)
    rw [ew5359] at bw5359
    exact WP_iret dX3_faultOfNumber_28 rfl ⟨⟨hI, rfl, ⟨trivial, rfl, rfl, rfl, rfl⟩⟩, _, rfl, by omega, by omega, by (try rw [ew5359]); omega⟩
  · refine WP_iload dX3_faultOfNumber_18 rfl ?_
    refine WP_iload_n dX3_faultOfNumber_20 rfl ?_
    refine WP_callS1 dX3_faultOfNumber_21 ⟨⟨⟨by decide, by decide⟩, zX3_mostOf⟩, lX3_125, tX3_mostOf⟩ (sx_mostOf hy hr hI pa ) (Nat.le_of_ble_eq_true rfl) ?_
    intro r Ia Ja Ra hq
    obtain ⟨⟨ea, eb, ec⟩, v5360, rfl, av5360, bv5360, cv5360⟩ := hq
    show WP _ _ _ _ (.int _ :: _) _ _ _ _
    rw [ea, eb, ec]
    clear ea eb ec Ia Ja Ra
    refine WQ_icmp_le 29 dX3_faultOfNumber_24 rfl (fun c5360 => ?_) (fun c5360 => ?_)
    · refine WP_aload_n dX3_faultOfNumber_29 rfl ?_
      refine WP_getr dX3_faultOfNumber_30 fX3_9 rfl (lyx_is hy 3 3 rfl) (rfx hr 3 3 4 (by decide)) ?_
      refine WP_iload_n dX3_faultOfNumber_33 rfl ?_
      refine WP_iload dX3_faultOfNumber_34 rfl ?_
      refine WQ_iast dX3_faultOfNumber_36 (lyx_is hy 4 13 rfl) (lyx_n hy 4 5 rfl) (by omega) (by omega) (fun I5362 fI5362 => ?_)
      have eI5362 := fI5362
      rw [cl (x := ix) (n := 2) (by omega)] at eI5362
      clear fI5362
      have hI5362 : XI g n L I5362 := by rw [eI5362]; exact (xi_f hy hI (c := 4) (0) (0) (1000) (by decide) (Or.inl (by decide)) (by decide) (by omega) (by omega))
      have e5363 : I5362 (ad g 1) 1 = L := by rw [eI5362, pp_ne _ _ (Or.inl (lyx_ne hy (by decide) (by decide) (by decide)))]; exact e5349
      have e5364 : I5362 (ad g 4) 0 = w5351 := by rw [eI5362, pp_ne _ _ (Or.inr (by decide))]; exact ew5351
      have e5365 : I5362 (ad g 4) 1 = w5352 := by rw [eI5362, pp_ne _ _ (Or.inr (by decide))]; exact ew5352
      have e5366 : I5362 (ad g 6) 1 = w5353 := by rw [eI5362, pp_ne _ _ (Or.inl (lyx_ne hy (by decide) (by decide) (by decide)))]; exact ew5353
      have e5367 : I5362 (ad g 6) 2 = w5354 := by rw [eI5362, pp_ne _ _ (Or.inl (lyx_ne hy (by decide) (by decide) (by decide)))]; exact ew5354
      have e5368 : I5362 (ad g 1) 4 = v5355 := by rw [eI5362, pp_ne _ _ (Or.inl (lyx_ne hy (by decide) (by decide) (by decide)))]; exact ev5355
      have e5369 : I5362 (ad g 4) 2 = v5355 := by rw [eI5362, pp_self]
      clear eI5362
      refine WP_iload_n dX3_faultOfNumber_37 rfl ?_
      refine WQ_bipush (68) (68) dX3_faultOfNumber_38 rfl rfl (fun v5370 hv5370 => ?_)
      refine WQ_icmp_eq 45 dX3_faultOfNumber_40 rfl (fun c5370 => False.elim (by omega)) (fun c5370 => ?_)
      refine WQ_iconst (0) (0) dX3_faultOfNumber_43 rfl rfl (fun v5372 hv5372 => ?_)
      exact WP_iret dX3_faultOfNumber_44 rfl ⟨⟨hI5362, rfl, ⟨trivial, (by rw [e5364, ew5351] <;> exact (eq32 _ _).mpr (by omega)), (by rw [e5365, ew5352] <;> exact (eq32 _ _).mpr (by omega)), (by rw [e5366, ew5353] <;> exact (eq32 _ _).mpr (by omega)), (by rw [e5367, ew5354] <;> exact (eq32 _ _).mpr (by omega))⟩⟩, _, rfl, by omega, by omega, by (try rw [e5369]); omega⟩
    · refine WQ_iconst (2) (2) dX3_faultOfNumber_27 rfl rfl (fun v5373 hv5373 => ?_)
      obtain ⟨w5374, ew5374⟩ : ∃ w : Int32, I (ad g 4) 2 = w := ⟨_, rfl⟩
      have bw5374 := BT_get hI.1 4 0 5 (0) (0) (1000) (by decide) 2 (by decide) (by decide)
      rw [ew5374] at bw5374
      exact WP_iret dX3_faultOfNumber_28 rfl ⟨⟨hI, rfl, ⟨trivial, rfl, rfl, rfl, rfl⟩⟩, _, rfl, by omega, by omega, by (try rw [ew5374]); omega⟩
set_option maxHeartbeats 4000000 in
set_option maxRecDepth 100000 in
theorem sx_part_6_1_3 {g : GG} {n : Int} {L : Int32} (hy : LyX g)  {I : pI} {J : pJ} {R : pR} (hr : RfX g R) (hI : XI g n L I) (pa : Int32) (cz : Int32) (ix : Int32) (pa_lo : 67 ≤ pa.toInt) (pa_hi : pa.toInt ≤ 67) (cz_lo : 1 ≤ cz.toInt) (cz_hi : cz.toInt ≤ 1) (ix_lo : 3 ≤ ix.toInt) (ix_hi : ix.toInt ≤ 3) : SP g mX3_faultOfNumber [.ref (ad g 3), .int pa, .int cz, .int ix, .ref (ad g 6)] I J R (fun r I' J' R' => (XI g n L I' ∧ R' = R ∧ True ∧ I' (ad g 4) 0 = I (ad g 4) 0 ∧ I' (ad g 4) 1 = I (ad g 4) 1 ∧ I' (ad g 4) 2 = I (ad g 4) 2 ∧ I' (ad g 6) 1 = I (ad g 6) 1 ∧ I' (ad g 6) 2 = I (ad g 6) 2) ∧ ∃ v : Int32, r = some (.int v) ∧ 0 ≤ v.toInt ∧ v.toInt ≤ 5 ∧ (v.toInt = 0 → (I' (ad g 4) 3).toInt ≤ 60)) := by
  refine SP_of ⟨by decide, rfl⟩ (Nat.le_of_ble_eq_true rfl) ?_
  have e5375 : I (ad g 1) 1 = L := hI.2
  have b5376 := BT_get hI.1 1 1 2 (0) (0) (900) (by decide) 1 (by decide) (by decide)
  rw [e5375] at b5376
  obtain ⟨w5377, ew5377⟩ : ∃ w : Int32, I (ad g 4) 0 = w := ⟨_, rfl⟩
  have bw5377 := BT_get hI.1 4 0 5 (0) (0) (1000) (by decide) 0 (by decide) (by decide)
  rw [ew5377] at bw5377
  obtain ⟨w5378, ew5378⟩ : ∃ w : Int32, I (ad g 4) 1 = w := ⟨_, rfl⟩
  have bw5378 := BT_get hI.1 4 0 5 (0) (0) (1000) (by decide) 1 (by decide) (by decide)
  rw [ew5378] at bw5378
  obtain ⟨w5379, ew5379⟩ : ∃ w : Int32, I (ad g 4) 2 = w := ⟨_, rfl⟩
  have bw5379 := BT_get hI.1 4 0 5 (0) (0) (1000) (by decide) 2 (by decide) (by decide)
  rw [ew5379] at bw5379
  obtain ⟨w5380, ew5380⟩ : ∃ w : Int32, I (ad g 6) 1 = w := ⟨_, rfl⟩
  have bw5380 := BT_get hI.1 6 1 2 (0) (0) (4) (by decide) 1 (by decide) (by decide)
  rw [ew5380] at bw5380
  obtain ⟨w5381, ew5381⟩ : ∃ w : Int32, I (ad g 6) 2 = w := ⟨_, rfl⟩
  have bw5381 := BT_get hI.1 6 2 3 (0) (0) (3) (by decide) 2 (by decide) (by decide)
  rw [ew5381] at bw5381
  refine WP_aload_n dX3_faultOfNumber_0 rfl ?_
  refine WP_getr dX3_faultOfNumber_1 fX3_15 rfl (lyx_is hy 3 3 rfl) (rfx hr 3 2 1 (by decide)) ?_
  refine WQ_getiu dX3_faultOfNumber_4 fX3_118 rfl (lyx_is hy 1 5 rfl) (fun v5382 ev5382 => ?_)
  refine WP_istore (ls' := [(0, _), (1, _), (2, _), (3, _), (4, _), (5, _)]) dX3_faultOfNumber_7 (by decide) rfl ?_
  refine WP_iload dX3_faultOfNumber_9 rfl ?_
  refine WP_iload_n dX3_faultOfNumber_11 rfl ?_
  refine WP_callS1 dX3_faultOfNumber_12 ⟨⟨⟨by decide, by decide⟩, zX3_leastOf⟩, lX3_121, tX3_leastOf⟩ (sx_leastOf hy hr hI pa ) (Nat.le_of_ble_eq_true rfl) ?_
  intro r Ia Ja Ra hq
  obtain ⟨⟨ea, eb, ec⟩, v5383, rfl, av5383, bv5383⟩ := hq
  show WP _ _ _ _ (.int _ :: _) _ _ _ _
  rw [ea, eb, ec]
  clear ea eb ec Ia Ja Ra
  refine WQ_icmp_lt 27 dX3_faultOfNumber_15 rfl (fun c5383 => ?_) (fun c5383 => ?_)
  · refine WQ_iconst (2) (2) dX3_faultOfNumber_27 rfl rfl (fun v5385 hv5385 => ?_)
    obtain ⟨w5386, ew5386⟩ : ∃ w : Int32, I (ad g 4) 3 = w := ⟨_, rfl⟩
    have bw5386 := BT_get hI.1 4 0 5 (0) (0) (1000) (by decide) 3 (by decide) (by decide)
    rw [ew5386] at bw5386
    exact WP_iret dX3_faultOfNumber_28 rfl ⟨⟨hI, rfl, ⟨trivial, rfl, rfl, rfl, rfl, rfl⟩⟩, _, rfl, by omega, by omega, by (try rw [ew5386]); omega⟩
  · refine WP_iload dX3_faultOfNumber_18 rfl ?_
    refine WP_iload_n dX3_faultOfNumber_20 rfl ?_
    refine WP_callS1 dX3_faultOfNumber_21 ⟨⟨⟨by decide, by decide⟩, zX3_mostOf⟩, lX3_125, tX3_mostOf⟩ (sx_mostOf hy hr hI pa ) (Nat.le_of_ble_eq_true rfl) ?_
    intro r Ia Ja Ra hq
    obtain ⟨⟨ea, eb, ec⟩, v5387, rfl, av5387, bv5387, cv5387⟩ := hq
    show WP _ _ _ _ (.int _ :: _) _ _ _ _
    rw [ea, eb, ec]
    clear ea eb ec Ia Ja Ra
    refine WQ_icmp_le 29 dX3_faultOfNumber_24 rfl (fun c5387 => ?_) (fun c5387 => ?_)
    · refine WP_aload_n dX3_faultOfNumber_29 rfl ?_
      refine WP_getr dX3_faultOfNumber_30 fX3_9 rfl (lyx_is hy 3 3 rfl) (rfx hr 3 3 4 (by decide)) ?_
      refine WP_iload_n dX3_faultOfNumber_33 rfl ?_
      refine WP_iload dX3_faultOfNumber_34 rfl ?_
      refine WQ_iast dX3_faultOfNumber_36 (lyx_is hy 4 13 rfl) (lyx_n hy 4 5 rfl) (by omega) (by omega) (fun I5389 fI5389 => ?_)
      have eI5389 := fI5389
      rw [cl (x := ix) (n := 3) (by omega)] at eI5389
      clear fI5389
      have hI5389 : XI g n L I5389 := by rw [eI5389]; exact (xi_f hy hI (c := 4) (0) (0) (1000) (by decide) (Or.inl (by decide)) (by decide) (by omega) (by omega))
      have e5390 : I5389 (ad g 1) 1 = L := by rw [eI5389, pp_ne _ _ (Or.inl (lyx_ne hy (by decide) (by decide) (by decide)))]; exact e5375
      have e5391 : I5389 (ad g 4) 0 = w5377 := by rw [eI5389, pp_ne _ _ (Or.inr (by decide))]; exact ew5377
      have e5392 : I5389 (ad g 4) 1 = w5378 := by rw [eI5389, pp_ne _ _ (Or.inr (by decide))]; exact ew5378
      have e5393 : I5389 (ad g 4) 2 = w5379 := by rw [eI5389, pp_ne _ _ (Or.inr (by decide))]; exact ew5379
      have e5394 : I5389 (ad g 6) 1 = w5380 := by rw [eI5389, pp_ne _ _ (Or.inl (lyx_ne hy (by decide) (by decide) (by decide)))]; exact ew5380
      have e5395 : I5389 (ad g 6) 2 = w5381 := by rw [eI5389, pp_ne _ _ (Or.inl (lyx_ne hy (by decide) (by decide) (by decide)))]; exact ew5381
      have e5396 : I5389 (ad g 1) 4 = v5382 := by rw [eI5389, pp_ne _ _ (Or.inl (lyx_ne hy (by decide) (by decide) (by decide)))]; exact ev5382
      have e5397 : I5389 (ad g 4) 3 = v5382 := by rw [eI5389, pp_self]
      clear eI5389
      refine WP_iload_n dX3_faultOfNumber_37 rfl ?_
      refine WQ_bipush (68) (68) dX3_faultOfNumber_38 rfl rfl (fun v5398 hv5398 => ?_)
      refine WQ_icmp_eq 45 dX3_faultOfNumber_40 rfl (fun c5398 => False.elim (by omega)) (fun c5398 => ?_)
      refine WQ_iconst (0) (0) dX3_faultOfNumber_43 rfl rfl (fun v5400 hv5400 => ?_)
      exact WP_iret dX3_faultOfNumber_44 rfl ⟨⟨hI5389, rfl, ⟨trivial, (by rw [e5391, ew5377] <;> exact (eq32 _ _).mpr (by omega)), (by rw [e5392, ew5378] <;> exact (eq32 _ _).mpr (by omega)), (by rw [e5393, ew5379] <;> exact (eq32 _ _).mpr (by omega)), (by rw [e5394, ew5380] <;> exact (eq32 _ _).mpr (by omega)), (by rw [e5395, ew5381] <;> exact (eq32 _ _).mpr (by omega))⟩⟩, _, rfl, by omega, by omega, by (try rw [e5397]); omega⟩
    · refine WQ_iconst (2) (2) dX3_faultOfNumber_27 rfl rfl (fun v5401 hv5401 => ?_)
      obtain ⟨w5402, ew5402⟩ : ∃ w : Int32, I (ad g 4) 3 = w := ⟨_, rfl⟩
      have bw5402 := BT_get hI.1 4 0 5 (0) (0) (1000) (by decide) 3 (by decide) (by decide)
      rw [ew5402] at bw5402
      exact WP_iret dX3_faultOfNumber_28 rfl ⟨⟨hI, rfl, ⟨trivial, rfl, rfl, rfl, rfl, rfl⟩⟩, _, rfl, by omega, by omega, by (try rw [ew5402]); omega⟩
set_option maxHeartbeats 4000000 in
set_option maxRecDepth 100000 in
theorem sx_part_6_2_0 {g : GG} {n : Int} {L : Int32} (hy : LyX g)  {I : pI} {J : pJ} {R : pR} (hr : RfX g R) (hI : XI g n L I) (pa : Int32) (cz : Int32) (ix : Int32) (pa_lo : 109 ≤ pa.toInt) (pa_hi : pa.toInt ≤ 109) (cz_lo : 2 ≤ cz.toInt) (cz_hi : cz.toInt ≤ 2) (ix_lo : 0 ≤ ix.toInt) (ix_hi : ix.toInt ≤ 0) (hb : (I (ad g 6) 2).toInt ≤ 2) : SP g mX3_faultOfName [.ref (ad g 3), .int pa, .int cz, .int ix, .ref (ad g 6)] I J R (fun r I' J' R' => (XI g n L I' ∧ R' = R ∧ True ∧ I' (ad g 6) 1 = I (ad g 6) 1 ∧ I' (ad g 6) 2 = I (ad g 6) 2) ∧ ∃ v : Int32, r = some (.int v) ∧ 0 ≤ v.toInt ∧ v.toInt ≤ 5) := by
  refine SP_of ⟨by decide, rfl⟩ (Nat.le_of_ble_eq_true rfl) ?_
  have e5403 : I (ad g 1) 1 = L := hI.2
  have b5404 := BT_get hI.1 1 1 2 (0) (0) (900) (by decide) 1 (by decide) (by decide)
  rw [e5403] at b5404
  obtain ⟨w5405, ew5405⟩ : ∃ w : Int32, I (ad g 6) 1 = w := ⟨_, rfl⟩
  have bw5405 := BT_get hI.1 6 1 2 (0) (0) (4) (by decide) 1 (by decide) (by decide)
  rw [ew5405] at bw5405
  obtain ⟨w5406, ew5406⟩ : ∃ w : Int32, I (ad g 6) 2 = w := ⟨_, rfl⟩
  have bw5406 := BT_get hI.1 6 2 3 (0) (0) (3) (by decide) 2 (by decide) (by decide)
  rw [ew5406] at bw5406
  rw [ew5406] at hb
  refine WP_iload_n dX3_faultOfName_0 rfl ?_
  refine WQ_bipush (115) (115) dX3_faultOfName_1 rfl rfl (fun v5407 hv5407 => ?_)
  have jn17_5411 : ∀ (v5411 : Int32), 0 ≤ v5411.toInt → v5411.toInt ≤ 0 → WP g mX3_faultOfName 17 [(0, .ref (ad g 3)), (1, .int pa), (2, .int cz), (3, .int ix), (4, .ref (ad g 6))] [.int v5411] I J R (fun r I' J' R' => (XI g n L I' ∧ R' = R ∧ True ∧ I' (ad g 6) 1 = I (ad g 6) 1 ∧ I' (ad g 6) 2 = I (ad g 6) 2) ∧ ∃ v : Int32, r = some (.int v) ∧ 0 ≤ v.toInt ∧ v.toInt ≤ 5) := by
    intro v5411 av5411 bv5411
    refine WP_istore (ls' := [(0, _), (1, _), (2, _), (3, _), (4, _), (5, _)]) dX3_faultOfName_17 (by decide) rfl ?_
    refine WP_iload dX3_faultOfName_19 rfl ?_
    have jn51_5415 : ∀ (v5415 : Int32), -1 ≤ v5415.toInt → v5415.toInt ≤ 2 → WP g mX3_faultOfName 51 [(0, .ref (ad g 3)), (1, .int pa), (2, .int cz), (3, .int ix), (4, .ref (ad g 6)), (5, .int v5411)] [.int v5415] I J R (fun r I' J' R' => (XI g n L I' ∧ R' = R ∧ True ∧ I' (ad g 6) 1 = I (ad g 6) 1 ∧ I' (ad g 6) 2 = I (ad g 6) 2) ∧ ∃ v : Int32, r = some (.int v) ∧ 0 ≤ v.toInt ∧ v.toInt ≤ 5) := by
      intro v5415 av5415 bv5415
      refine WP_istore (ls' := [(0, _), (1, _), (2, _), (3, _), (4, _), (5, _), (6, _)]) dX3_faultOfName_51 (by decide) rfl ?_
      refine WP_iload_n dX3_faultOfName_53 rfl ?_
      refine WQ_bipush (110) (110) dX3_faultOfName_54 rfl rfl (fun v5417 hv5417 => ?_)
      refine WQ_icmp_eq 65 dX3_faultOfName_56 rfl (fun c5417 => False.elim (by omega)) (fun c5417 => ?_)
      refine WP_iload_n dX3_faultOfName_59 rfl ?_
      refine WQ_bipush (109) (109) dX3_faultOfName_60 rfl rfl (fun v5419 hv5419 => ?_)
      refine WQ_icmp_ne 98 dX3_faultOfName_62 rfl (fun c5419 => False.elim (by omega)) (fun c5419 => ?_)
      refine WP_iload dX3_faultOfName_65 rfl ?_
      refine WQ_iconst (-1) (-1) dX3_faultOfName_67 rfl rfl (fun v5421 hv5421 => ?_)
      refine WQ_icmp_eq 73 dX3_faultOfName_68 rfl (fun c5421 => ?_) (fun c5421 => ?_)
      · refine WP_aload dX3_faultOfName_73 rfl ?_
        refine WP_iload_n dX3_faultOfName_75 rfl ?_
        refine WQ_bipush (110) (110) dX3_faultOfName_76 rfl rfl (fun v5423 hv5423 => ?_)
        have jn86_5425 : ∀ (v5425 : Int32), 0 ≤ v5425.toInt → v5425.toInt ≤ 0 → WP g mX3_faultOfName 86 [(0, .ref (ad g 3)), (1, .int pa), (2, .int cz), (3, .int ix), (4, .ref (ad g 6)), (5, .int v5411), (6, .int v5415)] [.int v5425, .ref (ad g 6)] I J R (fun r I' J' R' => (XI g n L I' ∧ R' = R ∧ True ∧ I' (ad g 6) 1 = I (ad g 6) 1 ∧ I' (ad g 6) 2 = I (ad g 6) 2) ∧ ∃ v : Int32, r = some (.int v) ∧ 0 ≤ v.toInt ∧ v.toInt ≤ 5) := by
          intro v5425 av5425 bv5425
          refine WP_aload_n dX3_faultOfName_86 rfl ?_
          refine WP_getr dX3_faultOfName_87 fX3_15 rfl (lyx_is hy 3 3 rfl) (rfx hr 3 2 1 (by decide)) ?_
          refine WQ_getl dX3_faultOfName_90 fX3_80 rfl (lyx_is hy 1 5 rfl) (fun l5427 el5427 => ?_)
          refine WP_callV2 (k := 7) dX3_faultOfName_93 ⟨⟨⟨by decide, by decide⟩, zX7_name⟩, lX3_110, by decide, rfl, vX7_name.1, vX7_name.2⟩ (lyx_is hy 6 7 rfl) (sx_name_6_0 hy hr hI v5425 l5427 (by omega) (by omega) (by rw [ew5406]; omega)) (Nat.le_of_ble_eq_true rfl) ?_
          intro r Ia J5428 Ra hq
          obtain ⟨⟨ea, ec⟩, rfl⟩ := hq
          rw [ea, ec]
          clear ea ec Ia Ra
          refine WQ_iconst (0) (0) dX3_faultOfName_96 rfl rfl (fun v5429 hv5429 => ?_)
          exact WP_iret dX3_faultOfName_97 rfl ⟨⟨hI, rfl, ⟨trivial, rfl, rfl⟩⟩, _, rfl, by omega, by omega⟩
        refine WQ_icmp_ne 85 dX3_faultOfName_78 rfl (fun c5429 => ?_) (fun c5429 => False.elim (by omega))
        refine WQ_iconst (0) (0) dX3_faultOfName_85 rfl rfl (fun v5431 hv5431 => ?_)
        exact WP_sub (fc rfl (fc rfl (fc rfl (fc rfl (fc rfl (fc rfl (fc rfl fn))))))) (jn86_5425 v5431 (by omega) (by omega))
      · refine WQ_iconst (3) (3) dX3_faultOfName_71 rfl rfl (fun v5432 hv5432 => ?_)
        exact WP_iret dX3_faultOfName_72 rfl ⟨⟨hI, rfl, ⟨trivial, rfl, rfl⟩⟩, _, rfl, by omega, by omega⟩
    refine WQ_if_eq 39 dX3_faultOfName_21 rfl (fun c5432 => ?_) (fun c5432 => False.elim (by omega))
    refine WP_aload dX3_faultOfName_39 rfl ?_
    refine WP_aload_n dX3_faultOfName_41 rfl ?_
    refine WP_getr dX3_faultOfName_42 fX3_15 rfl (lyx_is hy 3 3 rfl) (rfx hr 3 2 1 (by decide)) ?_
    refine WQ_getl dX3_faultOfName_45 fX3_80 rfl (lyx_is hy 1 5 rfl) (fun l5434 el5434 => ?_)
    refine WP_callV1 (k := 7) dX3_faultOfName_48 ⟨⟨⟨by decide, by decide⟩, zX7_thingNamed⟩, lX3_107, by decide, rfl, vX7_thingNamed.1, vX7_thingNamed.2⟩ (lyx_is hy 6 7 rfl) (sx_thingNamed_6 hy hr hI l5434 ) (Nat.le_of_ble_eq_true rfl) ?_
    intro r Ia Ja Ra hq
    obtain ⟨⟨ea, eb, ec⟩, v5435, rfl, av5435, bv5435⟩ := hq
    show WP _ _ _ _ (.int _ :: _) _ _ _ _
    rw [ea, eb, ec]
    clear ea eb ec Ia Ja Ra
    exact WP_sub (fc rfl (fc rfl (fc rfl (fc rfl (fc rfl (fc rfl fn)))))) (jn51_5415 v5435 (by omega) (by omega))
  refine WQ_icmp_eq 12 dX3_faultOfName_3 rfl (fun c5435 => False.elim (by omega)) (fun c5435 => ?_)
  refine WP_iload_n dX3_faultOfName_6 rfl ?_
  refine WQ_bipush (110) (110) dX3_faultOfName_7 rfl rfl (fun v5437 hv5437 => ?_)
  refine WQ_icmp_ne 16 dX3_faultOfName_9 rfl (fun c5437 => ?_) (fun c5437 => False.elim (by omega))
  refine WQ_iconst (0) (0) dX3_faultOfName_16 rfl rfl (fun v5439 hv5439 => ?_)
  exact WP_sub (fc rfl (fc rfl (fc rfl (fc rfl (fc rfl fn))))) (jn17_5411 v5439 (by omega) (by omega))
set_option maxHeartbeats 4000000 in
set_option maxRecDepth 100000 in
theorem sx_part_6_2_1 {g : GG} {n : Int} {L : Int32} (hy : LyX g)  {I : pI} {J : pJ} {R : pR} (hr : RfX g R) (hI : XI g n L I) (pa : Int32) (cz : Int32) (ix : Int32) (pa_lo : 72 ≤ pa.toInt) (pa_hi : pa.toInt ≤ 72) (cz_lo : 2 ≤ cz.toInt) (cz_hi : cz.toInt ≤ 2) (ix_lo : 1 ≤ ix.toInt) (ix_hi : ix.toInt ≤ 1) : SP g mX3_faultOfNumber [.ref (ad g 3), .int pa, .int cz, .int ix, .ref (ad g 6)] I J R (fun r I' J' R' => (XI g n L I' ∧ R' = R ∧ True ∧ I' (ad g 4) 0 = I (ad g 4) 0 ∧ I' (ad g 6) 1 = I (ad g 6) 1 ∧ I' (ad g 6) 2 = I (ad g 6) 2) ∧ ∃ v : Int32, r = some (.int v) ∧ 0 ≤ v.toInt ∧ v.toInt ≤ 5 ∧ (v.toInt = 0 → (I' (ad g 4) 1).toInt ≤ 1000)) := by
  refine SP_of ⟨by decide, rfl⟩ (Nat.le_of_ble_eq_true rfl) ?_
  have e5440 : I (ad g 1) 1 = L := hI.2
  have b5441 := BT_get hI.1 1 1 2 (0) (0) (900) (by decide) 1 (by decide) (by decide)
  rw [e5440] at b5441
  obtain ⟨w5442, ew5442⟩ : ∃ w : Int32, I (ad g 4) 0 = w := ⟨_, rfl⟩
  have bw5442 := BT_get hI.1 4 0 5 (0) (0) (1000) (by decide) 0 (by decide) (by decide)
  rw [ew5442] at bw5442
  obtain ⟨w5443, ew5443⟩ : ∃ w : Int32, I (ad g 6) 1 = w := ⟨_, rfl⟩
  have bw5443 := BT_get hI.1 6 1 2 (0) (0) (4) (by decide) 1 (by decide) (by decide)
  rw [ew5443] at bw5443
  obtain ⟨w5444, ew5444⟩ : ∃ w : Int32, I (ad g 6) 2 = w := ⟨_, rfl⟩
  have bw5444 := BT_get hI.1 6 2 3 (0) (0) (3) (by decide) 2 (by decide) (by decide)
  rw [ew5444] at bw5444
  refine WP_aload_n dX3_faultOfNumber_0 rfl ?_
  refine WP_getr dX3_faultOfNumber_1 fX3_15 rfl (lyx_is hy 3 3 rfl) (rfx hr 3 2 1 (by decide)) ?_
  refine WQ_getiu dX3_faultOfNumber_4 fX3_118 rfl (lyx_is hy 1 5 rfl) (fun v5445 ev5445 => ?_)
  refine WP_istore (ls' := [(0, _), (1, _), (2, _), (3, _), (4, _), (5, _)]) dX3_faultOfNumber_7 (by decide) rfl ?_
  refine WP_iload dX3_faultOfNumber_9 rfl ?_
  refine WP_iload_n dX3_faultOfNumber_11 rfl ?_
  refine WP_callS1 dX3_faultOfNumber_12 ⟨⟨⟨by decide, by decide⟩, zX3_leastOf⟩, lX3_121, tX3_leastOf⟩ (sx_leastOf hy hr hI pa ) (Nat.le_of_ble_eq_true rfl) ?_
  intro r Ia Ja Ra hq
  obtain ⟨⟨ea, eb, ec⟩, v5446, rfl, av5446, bv5446⟩ := hq
  show WP _ _ _ _ (.int _ :: _) _ _ _ _
  rw [ea, eb, ec]
  clear ea eb ec Ia Ja Ra
  refine WQ_icmp_lt 27 dX3_faultOfNumber_15 rfl (fun c5446 => ?_) (fun c5446 => ?_)
  · refine WQ_iconst (2) (2) dX3_faultOfNumber_27 rfl rfl (fun v5448 hv5448 => ?_)
    obtain ⟨w5449, ew5449⟩ : ∃ w : Int32, I (ad g 4) 1 = w := ⟨_, rfl⟩
    have bw5449 := BT_get hI.1 4 0 5 (0) (0) (1000) (by decide) 1 (by decide) (by decide)
    rw [ew5449] at bw5449
    exact WP_iret dX3_faultOfNumber_28 rfl ⟨⟨hI, rfl, ⟨trivial, rfl, rfl, rfl⟩⟩, _, rfl, by omega, by omega, by (try rw [ew5449]); omega⟩
  · refine WP_iload dX3_faultOfNumber_18 rfl ?_
    refine WP_iload_n dX3_faultOfNumber_20 rfl ?_
    refine WP_callS1 dX3_faultOfNumber_21 ⟨⟨⟨by decide, by decide⟩, zX3_mostOf⟩, lX3_125, tX3_mostOf⟩ (sx_mostOf hy hr hI pa ) (Nat.le_of_ble_eq_true rfl) ?_
    intro r Ia Ja Ra hq
    obtain ⟨⟨ea, eb, ec⟩, v5450, rfl, av5450, bv5450, cv5450⟩ := hq
    show WP _ _ _ _ (.int _ :: _) _ _ _ _
    rw [ea, eb, ec]
    clear ea eb ec Ia Ja Ra
    refine WQ_icmp_le 29 dX3_faultOfNumber_24 rfl (fun c5450 => ?_) (fun c5450 => ?_)
    · refine WP_aload_n dX3_faultOfNumber_29 rfl ?_
      refine WP_getr dX3_faultOfNumber_30 fX3_9 rfl (lyx_is hy 3 3 rfl) (rfx hr 3 3 4 (by decide)) ?_
      refine WP_iload_n dX3_faultOfNumber_33 rfl ?_
      refine WP_iload dX3_faultOfNumber_34 rfl ?_
      refine WQ_iast dX3_faultOfNumber_36 (lyx_is hy 4 13 rfl) (lyx_n hy 4 5 rfl) (by omega) (by omega) (fun I5452 fI5452 => ?_)
      have eI5452 := fI5452
      rw [cl (x := ix) (n := 1) (by omega)] at eI5452
      clear fI5452
      have hI5452 : XI g n L I5452 := by rw [eI5452]; exact (xi_f hy hI (c := 4) (0) (0) (1000) (by decide) (Or.inl (by decide)) (by decide) (by omega) (by omega))
      have e5453 : I5452 (ad g 1) 1 = L := by rw [eI5452, pp_ne _ _ (Or.inl (lyx_ne hy (by decide) (by decide) (by decide)))]; exact e5440
      have e5454 : I5452 (ad g 4) 0 = w5442 := by rw [eI5452, pp_ne _ _ (Or.inr (by decide))]; exact ew5442
      have e5455 : I5452 (ad g 6) 1 = w5443 := by rw [eI5452, pp_ne _ _ (Or.inl (lyx_ne hy (by decide) (by decide) (by decide)))]; exact ew5443
      have e5456 : I5452 (ad g 6) 2 = w5444 := by rw [eI5452, pp_ne _ _ (Or.inl (lyx_ne hy (by decide) (by decide) (by decide)))]; exact ew5444
      have e5457 : I5452 (ad g 1) 4 = v5445 := by rw [eI5452, pp_ne _ _ (Or.inl (lyx_ne hy (by decide) (by decide) (by decide)))]; exact ev5445
      have e5458 : I5452 (ad g 4) 1 = v5445 := by rw [eI5452, pp_self]
      clear eI5452
      refine WP_iload_n dX3_faultOfNumber_37 rfl ?_
      refine WQ_bipush (68) (68) dX3_faultOfNumber_38 rfl rfl (fun v5459 hv5459 => ?_)
      refine WQ_icmp_eq 45 dX3_faultOfNumber_40 rfl (fun c5459 => False.elim (by omega)) (fun c5459 => ?_)
      refine WQ_iconst (0) (0) dX3_faultOfNumber_43 rfl rfl (fun v5461 hv5461 => ?_)
      exact WP_iret dX3_faultOfNumber_44 rfl ⟨⟨hI5452, rfl, ⟨trivial, (by rw [e5454, ew5442] <;> exact (eq32 _ _).mpr (by omega)), (by rw [e5455, ew5443] <;> exact (eq32 _ _).mpr (by omega)), (by rw [e5456, ew5444] <;> exact (eq32 _ _).mpr (by omega))⟩⟩, _, rfl, by omega, by omega, by (try rw [e5458]); omega⟩
    · refine WQ_iconst (2) (2) dX3_faultOfNumber_27 rfl rfl (fun v5462 hv5462 => ?_)
      obtain ⟨w5463, ew5463⟩ : ∃ w : Int32, I (ad g 4) 1 = w := ⟨_, rfl⟩
      have bw5463 := BT_get hI.1 4 0 5 (0) (0) (1000) (by decide) 1 (by decide) (by decide)
      rw [ew5463] at bw5463
      exact WP_iret dX3_faultOfNumber_28 rfl ⟨⟨hI, rfl, ⟨trivial, rfl, rfl, rfl⟩⟩, _, rfl, by omega, by omega, by (try rw [ew5463]); omega⟩
set_option maxHeartbeats 4000000 in
set_option maxRecDepth 100000 in
theorem sx_part_6_2_2 {g : GG} {n : Int} {L : Int32} (hy : LyX g)  {I : pI} {J : pJ} {R : pR} (hr : RfX g R) (hI : XI g n L I) (pa : Int32) (cz : Int32) (ix : Int32) (pa_lo : 71 ≤ pa.toInt) (pa_hi : pa.toInt ≤ 71) (cz_lo : 2 ≤ cz.toInt) (cz_hi : cz.toInt ≤ 2) (ix_lo : 2 ≤ ix.toInt) (ix_hi : ix.toInt ≤ 2) : SP g mX3_faultOfNumber [.ref (ad g 3), .int pa, .int cz, .int ix, .ref (ad g 6)] I J R (fun r I' J' R' => (XI g n L I' ∧ R' = R ∧ True ∧ I' (ad g 4) 0 = I (ad g 4) 0 ∧ I' (ad g 4) 1 = I (ad g 4) 1 ∧ I' (ad g 6) 1 = I (ad g 6) 1 ∧ I' (ad g 6) 2 = I (ad g 6) 2) ∧ ∃ v : Int32, r = some (.int v) ∧ 0 ≤ v.toInt ∧ v.toInt ≤ 5 ∧ (v.toInt = 0 → (I' (ad g 4) 2).toInt ≤ 9)) := by
  refine SP_of ⟨by decide, rfl⟩ (Nat.le_of_ble_eq_true rfl) ?_
  have e5464 : I (ad g 1) 1 = L := hI.2
  have b5465 := BT_get hI.1 1 1 2 (0) (0) (900) (by decide) 1 (by decide) (by decide)
  rw [e5464] at b5465
  obtain ⟨w5466, ew5466⟩ : ∃ w : Int32, I (ad g 4) 0 = w := ⟨_, rfl⟩
  have bw5466 := BT_get hI.1 4 0 5 (0) (0) (1000) (by decide) 0 (by decide) (by decide)
  rw [ew5466] at bw5466
  obtain ⟨w5467, ew5467⟩ : ∃ w : Int32, I (ad g 4) 1 = w := ⟨_, rfl⟩
  have bw5467 := BT_get hI.1 4 0 5 (0) (0) (1000) (by decide) 1 (by decide) (by decide)
  rw [ew5467] at bw5467
  obtain ⟨w5468, ew5468⟩ : ∃ w : Int32, I (ad g 6) 1 = w := ⟨_, rfl⟩
  have bw5468 := BT_get hI.1 6 1 2 (0) (0) (4) (by decide) 1 (by decide) (by decide)
  rw [ew5468] at bw5468
  obtain ⟨w5469, ew5469⟩ : ∃ w : Int32, I (ad g 6) 2 = w := ⟨_, rfl⟩
  have bw5469 := BT_get hI.1 6 2 3 (0) (0) (3) (by decide) 2 (by decide) (by decide)
  rw [ew5469] at bw5469
  refine WP_aload_n dX3_faultOfNumber_0 rfl ?_
  refine WP_getr dX3_faultOfNumber_1 fX3_15 rfl (lyx_is hy 3 3 rfl) (rfx hr 3 2 1 (by decide)) ?_
  refine WQ_getiu dX3_faultOfNumber_4 fX3_118 rfl (lyx_is hy 1 5 rfl) (fun v5470 ev5470 => ?_)
  refine WP_istore (ls' := [(0, _), (1, _), (2, _), (3, _), (4, _), (5, _)]) dX3_faultOfNumber_7 (by decide) rfl ?_
  refine WP_iload dX3_faultOfNumber_9 rfl ?_
  refine WP_iload_n dX3_faultOfNumber_11 rfl ?_
  refine WP_callS1 dX3_faultOfNumber_12 ⟨⟨⟨by decide, by decide⟩, zX3_leastOf⟩, lX3_121, tX3_leastOf⟩ (sx_leastOf hy hr hI pa ) (Nat.le_of_ble_eq_true rfl) ?_
  intro r Ia Ja Ra hq
  obtain ⟨⟨ea, eb, ec⟩, v5471, rfl, av5471, bv5471⟩ := hq
  show WP _ _ _ _ (.int _ :: _) _ _ _ _
  rw [ea, eb, ec]
  clear ea eb ec Ia Ja Ra
  refine WQ_icmp_lt 27 dX3_faultOfNumber_15 rfl (fun c5471 => ?_) (fun c5471 => ?_)
  · refine WQ_iconst (2) (2) dX3_faultOfNumber_27 rfl rfl (fun v5473 hv5473 => ?_)
    obtain ⟨w5474, ew5474⟩ : ∃ w : Int32, I (ad g 4) 2 = w := ⟨_, rfl⟩
    have bw5474 := BT_get hI.1 4 0 5 (0) (0) (1000) (by decide) 2 (by decide) (by decide)
    rw [ew5474] at bw5474
    exact WP_iret dX3_faultOfNumber_28 rfl ⟨⟨hI, rfl, ⟨trivial, rfl, rfl, rfl, rfl⟩⟩, _, rfl, by omega, by omega, by (try rw [ew5474]); omega⟩
  · refine WP_iload dX3_faultOfNumber_18 rfl ?_
    refine WP_iload_n dX3_faultOfNumber_20 rfl ?_
    refine WP_callS1 dX3_faultOfNumber_21 ⟨⟨⟨by decide, by decide⟩, zX3_mostOf⟩, lX3_125, tX3_mostOf⟩ (sx_mostOf hy hr hI pa ) (Nat.le_of_ble_eq_true rfl) ?_
    intro r Ia Ja Ra hq
    obtain ⟨⟨ea, eb, ec⟩, v5475, rfl, av5475, bv5475, cv5475⟩ := hq
    show WP _ _ _ _ (.int _ :: _) _ _ _ _
    rw [ea, eb, ec]
    clear ea eb ec Ia Ja Ra
    refine WQ_icmp_le 29 dX3_faultOfNumber_24 rfl (fun c5475 => ?_) (fun c5475 => ?_)
    · refine WP_aload_n dX3_faultOfNumber_29 rfl ?_
      refine WP_getr dX3_faultOfNumber_30 fX3_9 rfl (lyx_is hy 3 3 rfl) (rfx hr 3 3 4 (by decide)) ?_
      refine WP_iload_n dX3_faultOfNumber_33 rfl ?_
      refine WP_iload dX3_faultOfNumber_34 rfl ?_
      refine WQ_iast dX3_faultOfNumber_36 (lyx_is hy 4 13 rfl) (lyx_n hy 4 5 rfl) (by omega) (by omega) (fun I5477 fI5477 => ?_)
      have eI5477 := fI5477
      rw [cl (x := ix) (n := 2) (by omega)] at eI5477
      clear fI5477
      have hI5477 : XI g n L I5477 := by rw [eI5477]; exact (xi_f hy hI (c := 4) (0) (0) (1000) (by decide) (Or.inl (by decide)) (by decide) (by omega) (by omega))
      have e5478 : I5477 (ad g 1) 1 = L := by rw [eI5477, pp_ne _ _ (Or.inl (lyx_ne hy (by decide) (by decide) (by decide)))]; exact e5464
      have e5479 : I5477 (ad g 4) 0 = w5466 := by rw [eI5477, pp_ne _ _ (Or.inr (by decide))]; exact ew5466
      have e5480 : I5477 (ad g 4) 1 = w5467 := by rw [eI5477, pp_ne _ _ (Or.inr (by decide))]; exact ew5467
      have e5481 : I5477 (ad g 6) 1 = w5468 := by rw [eI5477, pp_ne _ _ (Or.inl (lyx_ne hy (by decide) (by decide) (by decide)))]; exact ew5468
      have e5482 : I5477 (ad g 6) 2 = w5469 := by rw [eI5477, pp_ne _ _ (Or.inl (lyx_ne hy (by decide) (by decide) (by decide)))]; exact ew5469
      have e5483 : I5477 (ad g 1) 4 = v5470 := by rw [eI5477, pp_ne _ _ (Or.inl (lyx_ne hy (by decide) (by decide) (by decide)))]; exact ev5470
      have e5484 : I5477 (ad g 4) 2 = v5470 := by rw [eI5477, pp_self]
      clear eI5477
      refine WP_iload_n dX3_faultOfNumber_37 rfl ?_
      refine WQ_bipush (68) (68) dX3_faultOfNumber_38 rfl rfl (fun v5485 hv5485 => ?_)
      refine WQ_icmp_eq 45 dX3_faultOfNumber_40 rfl (fun c5485 => False.elim (by omega)) (fun c5485 => ?_)
      refine WQ_iconst (0) (0) dX3_faultOfNumber_43 rfl rfl (fun v5487 hv5487 => ?_)
      exact WP_iret dX3_faultOfNumber_44 rfl ⟨⟨hI5477, rfl, ⟨trivial, (by rw [e5479, ew5466] <;> exact (eq32 _ _).mpr (by omega)), (by rw [e5480, ew5467] <;> exact (eq32 _ _).mpr (by omega)), (by rw [e5481, ew5468] <;> exact (eq32 _ _).mpr (by omega)), (by rw [e5482, ew5469] <;> exact (eq32 _ _).mpr (by omega))⟩⟩, _, rfl, by omega, by omega, by (try rw [e5484]); omega⟩
    · refine WQ_iconst (2) (2) dX3_faultOfNumber_27 rfl rfl (fun v5488 hv5488 => ?_)
      obtain ⟨w5489, ew5489⟩ : ∃ w : Int32, I (ad g 4) 2 = w := ⟨_, rfl⟩
      have bw5489 := BT_get hI.1 4 0 5 (0) (0) (1000) (by decide) 2 (by decide) (by decide)
      rw [ew5489] at bw5489
      exact WP_iret dX3_faultOfNumber_28 rfl ⟨⟨hI, rfl, ⟨trivial, rfl, rfl, rfl, rfl⟩⟩, _, rfl, by omega, by omega, by (try rw [ew5489]); omega⟩
set_option maxHeartbeats 4000000 in
set_option maxRecDepth 100000 in
theorem sx_part_6_3_0 {g : GG} {n : Int} {L : Int32} (hy : LyX g)  {I : pI} {J : pJ} {R : pR} (hr : RfX g R) (hI : XI g n L I) (pa : Int32) (cz : Int32) (ix : Int32) (pa_lo : 115 ≤ pa.toInt) (pa_hi : pa.toInt ≤ 115) (cz_lo : 3 ≤ cz.toInt) (cz_hi : cz.toInt ≤ 3) (ix_lo : 0 ≤ ix.toInt) (ix_hi : ix.toInt ≤ 0) : SP g mX3_faultOfName [.ref (ad g 3), .int pa, .int cz, .int ix, .ref (ad g 6)] I J R (fun r I' J' R' => (XI g n L I' ∧ R' = R ∧ True ∧ I' (ad g 6) 1 = I (ad g 6) 1 ∧ I' (ad g 6) 2 = I (ad g 6) 2) ∧ ∃ v : Int32, r = some (.int v) ∧ 0 ≤ v.toInt ∧ v.toInt ≤ 5 ∧ (v.toInt = 0 → (I' (ad g 4) 0).toInt ≤ 3)) := by
  refine SP_of ⟨by decide, rfl⟩ (Nat.le_of_ble_eq_true rfl) ?_
  have e5490 : I (ad g 1) 1 = L := hI.2
  have b5491 := BT_get hI.1 1 1 2 (0) (0) (900) (by decide) 1 (by decide) (by decide)
  rw [e5490] at b5491
  obtain ⟨w5492, ew5492⟩ : ∃ w : Int32, I (ad g 6) 1 = w := ⟨_, rfl⟩
  have bw5492 := BT_get hI.1 6 1 2 (0) (0) (4) (by decide) 1 (by decide) (by decide)
  rw [ew5492] at bw5492
  obtain ⟨w5493, ew5493⟩ : ∃ w : Int32, I (ad g 6) 2 = w := ⟨_, rfl⟩
  have bw5493 := BT_get hI.1 6 2 3 (0) (0) (3) (by decide) 2 (by decide) (by decide)
  rw [ew5493] at bw5493
  refine WP_iload_n dX3_faultOfName_0 rfl ?_
  refine WQ_bipush (115) (115) dX3_faultOfName_1 rfl rfl (fun v5494 hv5494 => ?_)
  refine WQ_icmp_eq 12 dX3_faultOfName_3 rfl (fun c5494 => ?_) (fun c5494 => False.elim (by omega))
  refine WQ_iconst (1) (1) dX3_faultOfName_12 rfl rfl (fun v5496 hv5496 => ?_)
  refine WP_goto 17 dX3_faultOfName_13 rfl ?_
  refine WP_istore (ls' := [(0, _), (1, _), (2, _), (3, _), (4, _), (5, _)]) dX3_faultOfName_17 (by decide) rfl ?_
  refine WP_iload dX3_faultOfName_19 rfl ?_
  refine WQ_if_eq 39 dX3_faultOfName_21 rfl (fun c5496 => False.elim (by omega)) (fun c5496 => ?_)
  refine WP_aload dX3_faultOfName_24 rfl ?_
  refine WP_aload_n dX3_faultOfName_26 rfl ?_
  refine WP_getr dX3_faultOfName_27 fX3_15 rfl (lyx_is hy 3 3 rfl) (rfx hr 3 2 1 (by decide)) ?_
  refine WQ_getl dX3_faultOfName_30 fX3_80 rfl (lyx_is hy 1 5 rfl) (fun l5498 el5498 => ?_)
  refine WP_callV1 (k := 7) dX3_faultOfName_33 ⟨⟨⟨by decide, by decide⟩, zX7_sortNamed⟩, lX3_103, by decide, rfl, vX7_sortNamed.1, vX7_sortNamed.2⟩ (lyx_is hy 6 7 rfl) (sx_sortNamed_6 hy hr hI l5498 ) (Nat.le_of_ble_eq_true rfl) ?_
  intro r Ia Ja Ra hq
  obtain ⟨⟨ea, eb, ec⟩, v5499, rfl, av5499, bv5499⟩ := hq
  show WP _ _ _ _ (.int _ :: _) _ _ _ _
  rw [ea, eb, ec]
  clear ea eb ec Ia Ja Ra
  refine WP_goto 51 dX3_faultOfName_36 rfl ?_
  refine WP_istore (ls' := [(0, _), (1, _), (2, _), (3, _), (4, _), (5, _), (6, _)]) dX3_faultOfName_51 (by decide) rfl ?_
  refine WP_iload_n dX3_faultOfName_53 rfl ?_
  refine WQ_bipush (110) (110) dX3_faultOfName_54 rfl rfl (fun v5500 hv5500 => ?_)
  refine WQ_icmp_eq 65 dX3_faultOfName_56 rfl (fun c5500 => False.elim (by omega)) (fun c5500 => ?_)
  refine WP_iload_n dX3_faultOfName_59 rfl ?_
  refine WQ_bipush (109) (109) dX3_faultOfName_60 rfl rfl (fun v5502 hv5502 => ?_)
  refine WQ_icmp_ne 98 dX3_faultOfName_62 rfl (fun c5502 => ?_) (fun c5502 => False.elim (by omega))
  refine WP_iload dX3_faultOfName_98 rfl ?_
  refine WQ_iconst (-1) (-1) dX3_faultOfName_100 rfl rfl (fun v5504 hv5504 => ?_)
  refine WQ_icmp_ne 106 dX3_faultOfName_101 rfl (fun c5504 => ?_) (fun c5504 => ?_)
  · refine WP_aload_n dX3_faultOfName_106 rfl ?_
    refine WP_getr dX3_faultOfName_107 fX3_9 rfl (lyx_is hy 3 3 rfl) (rfx hr 3 3 4 (by decide)) ?_
    refine WP_iload_n dX3_faultOfName_110 rfl ?_
    refine WP_iload dX3_faultOfName_111 rfl ?_
    refine WQ_iast dX3_faultOfName_113 (lyx_is hy 4 13 rfl) (lyx_n hy 4 5 rfl) (by omega) (by omega) (fun I5506 fI5506 => ?_)
    have eI5506 := fI5506
    rw [cl (x := ix) (n := 0) (by omega)] at eI5506
    clear fI5506
    have hI5506 : XI g n L I5506 := by rw [eI5506]; exact (xi_f hy hI (c := 4) (0) (0) (1000) (by decide) (Or.inl (by decide)) (by decide) (by omega) (by omega))
    have e5507 : I5506 (ad g 1) 1 = L := by rw [eI5506, pp_ne _ _ (Or.inl (lyx_ne hy (by decide) (by decide) (by decide)))]; exact e5490
    have e5508 : I5506 (ad g 6) 1 = w5492 := by rw [eI5506, pp_ne _ _ (Or.inl (lyx_ne hy (by decide) (by decide) (by decide)))]; exact ew5492
    have e5509 : I5506 (ad g 6) 2 = w5493 := by rw [eI5506, pp_ne _ _ (Or.inl (lyx_ne hy (by decide) (by decide) (by decide)))]; exact ew5493
    have e5510 : I5506 (ad g 4) 0 = v5499 := by rw [eI5506, pp_self]
    clear eI5506
    refine WP_iload_n dX3_faultOfName_114 rfl ?_
    refine WQ_bipush (7) (7) dX3_faultOfName_115 rfl rfl (fun v5511 hv5511 => ?_)
    refine WQ_icmp_ne 137 dX3_faultOfName_117 rfl (fun c5511 => ?_) (fun c5511 => False.elim (by omega))
    refine WQ_iconst (0) (0) dX3_faultOfName_137 rfl rfl (fun v5513 hv5513 => ?_)
    exact WP_iret dX3_faultOfName_138 rfl ⟨⟨hI5506, rfl, ⟨trivial, (by rw [e5508, ew5492] <;> exact (eq32 _ _).mpr (by omega)), (by rw [e5509, ew5493] <;> exact (eq32 _ _).mpr (by omega))⟩⟩, _, rfl, by omega, by omega, by (try rw [e5510]); omega⟩
  · refine WQ_iconst (5) (5) dX3_faultOfName_104 rfl rfl (fun v5514 hv5514 => ?_)
    obtain ⟨w5515, ew5515⟩ : ∃ w : Int32, I (ad g 4) 0 = w := ⟨_, rfl⟩
    have bw5515 := BT_get hI.1 4 0 5 (0) (0) (1000) (by decide) 0 (by decide) (by decide)
    rw [ew5515] at bw5515
    exact WP_iret dX3_faultOfName_105 rfl ⟨⟨hI, rfl, ⟨trivial, rfl, rfl⟩⟩, _, rfl, by omega, by omega, by (try rw [ew5515]); omega⟩
set_option maxHeartbeats 4000000 in
set_option maxRecDepth 100000 in
theorem sx_part_6_3_1 {g : GG} {n : Int} {L : Int32} (hy : LyX g)  {I : pI} {J : pJ} {R : pR} (hr : RfX g R) (hI : XI g n L I) (pa : Int32) (cz : Int32) (ix : Int32) (pa_lo : 68 ≤ pa.toInt) (pa_hi : pa.toInt ≤ 68) (cz_lo : 3 ≤ cz.toInt) (cz_hi : cz.toInt ≤ 3) (ix_lo : 1 ≤ ix.toInt) (ix_hi : ix.toInt ≤ 1) (hb : (I (ad g 4) 0).toInt ≤ 3) : SP g mX3_faultOfNumber [.ref (ad g 3), .int pa, .int cz, .int ix, .ref (ad g 6)] I J R (fun r I' J' R' => (XI g n L I' ∧ R' = R ∧ True ∧ I' (ad g 4) 0 = I (ad g 4) 0 ∧ I' (ad g 6) 1 = I (ad g 6) 1 ∧ I' (ad g 6) 2 = I (ad g 6) 2) ∧ ∃ v : Int32, r = some (.int v) ∧ 0 ≤ v.toInt ∧ v.toInt ≤ 5 ∧ (v.toInt = 0 → (I' (ad g 4) 1).toInt ≤ 6)) := by
  refine SP_of ⟨by decide, rfl⟩ (Nat.le_of_ble_eq_true rfl) ?_
  have e5516 : I (ad g 1) 1 = L := hI.2
  have b5517 := BT_get hI.1 1 1 2 (0) (0) (900) (by decide) 1 (by decide) (by decide)
  rw [e5516] at b5517
  obtain ⟨w5518, ew5518⟩ : ∃ w : Int32, I (ad g 4) 0 = w := ⟨_, rfl⟩
  have bw5518 := BT_get hI.1 4 0 5 (0) (0) (1000) (by decide) 0 (by decide) (by decide)
  rw [ew5518] at bw5518
  obtain ⟨w5519, ew5519⟩ : ∃ w : Int32, I (ad g 6) 1 = w := ⟨_, rfl⟩
  have bw5519 := BT_get hI.1 6 1 2 (0) (0) (4) (by decide) 1 (by decide) (by decide)
  rw [ew5519] at bw5519
  obtain ⟨w5520, ew5520⟩ : ∃ w : Int32, I (ad g 6) 2 = w := ⟨_, rfl⟩
  have bw5520 := BT_get hI.1 6 2 3 (0) (0) (3) (by decide) 2 (by decide) (by decide)
  rw [ew5520] at bw5520
  rw [ew5518] at hb
  refine WP_aload_n dX3_faultOfNumber_0 rfl ?_
  refine WP_getr dX3_faultOfNumber_1 fX3_15 rfl (lyx_is hy 3 3 rfl) (rfx hr 3 2 1 (by decide)) ?_
  refine WQ_getiu dX3_faultOfNumber_4 fX3_118 rfl (lyx_is hy 1 5 rfl) (fun v5521 ev5521 => ?_)
  refine WP_istore (ls' := [(0, _), (1, _), (2, _), (3, _), (4, _), (5, _)]) dX3_faultOfNumber_7 (by decide) rfl ?_
  refine WP_iload dX3_faultOfNumber_9 rfl ?_
  refine WP_iload_n dX3_faultOfNumber_11 rfl ?_
  refine WP_callS1 dX3_faultOfNumber_12 ⟨⟨⟨by decide, by decide⟩, zX3_leastOf⟩, lX3_121, tX3_leastOf⟩ (sx_leastOf hy hr hI pa ) (Nat.le_of_ble_eq_true rfl) ?_
  intro r Ia Ja Ra hq
  obtain ⟨⟨ea, eb, ec⟩, v5522, rfl, av5522, bv5522⟩ := hq
  show WP _ _ _ _ (.int _ :: _) _ _ _ _
  rw [ea, eb, ec]
  clear ea eb ec Ia Ja Ra
  refine WQ_icmp_lt 27 dX3_faultOfNumber_15 rfl (fun c5522 => ?_) (fun c5522 => ?_)
  · refine WQ_iconst (2) (2) dX3_faultOfNumber_27 rfl rfl (fun v5524 hv5524 => ?_)
    obtain ⟨w5525, ew5525⟩ : ∃ w : Int32, I (ad g 4) 1 = w := ⟨_, rfl⟩
    have bw5525 := BT_get hI.1 4 0 5 (0) (0) (1000) (by decide) 1 (by decide) (by decide)
    rw [ew5525] at bw5525
    exact WP_iret dX3_faultOfNumber_28 rfl ⟨⟨hI, rfl, ⟨trivial, rfl, rfl, rfl⟩⟩, _, rfl, by omega, by omega, by (try rw [ew5525]); omega⟩
  · refine WP_iload dX3_faultOfNumber_18 rfl ?_
    refine WP_iload_n dX3_faultOfNumber_20 rfl ?_
    refine WP_callS1 dX3_faultOfNumber_21 ⟨⟨⟨by decide, by decide⟩, zX3_mostOf⟩, lX3_125, tX3_mostOf⟩ (sx_mostOf hy hr hI pa ) (Nat.le_of_ble_eq_true rfl) ?_
    intro r Ia Ja Ra hq
    obtain ⟨⟨ea, eb, ec⟩, v5526, rfl, av5526, bv5526, cv5526⟩ := hq
    show WP _ _ _ _ (.int _ :: _) _ _ _ _
    rw [ea, eb, ec]
    clear ea eb ec Ia Ja Ra
    refine WQ_icmp_le 29 dX3_faultOfNumber_24 rfl (fun c5526 => ?_) (fun c5526 => ?_)
    · refine WP_aload_n dX3_faultOfNumber_29 rfl ?_
      refine WP_getr dX3_faultOfNumber_30 fX3_9 rfl (lyx_is hy 3 3 rfl) (rfx hr 3 3 4 (by decide)) ?_
      refine WP_iload_n dX3_faultOfNumber_33 rfl ?_
      refine WP_iload dX3_faultOfNumber_34 rfl ?_
      refine WQ_iast dX3_faultOfNumber_36 (lyx_is hy 4 13 rfl) (lyx_n hy 4 5 rfl) (by omega) (by omega) (fun I5528 fI5528 => ?_)
      have eI5528 := fI5528
      rw [cl (x := ix) (n := 1) (by omega)] at eI5528
      clear fI5528
      have hI5528 : XI g n L I5528 := by rw [eI5528]; exact (xi_f hy hI (c := 4) (0) (0) (1000) (by decide) (Or.inl (by decide)) (by decide) (by omega) (by omega))
      have e5529 : I5528 (ad g 1) 1 = L := by rw [eI5528, pp_ne _ _ (Or.inl (lyx_ne hy (by decide) (by decide) (by decide)))]; exact e5516
      have e5530 : I5528 (ad g 4) 0 = w5518 := by rw [eI5528, pp_ne _ _ (Or.inr (by decide))]; exact ew5518
      have e5531 : I5528 (ad g 6) 1 = w5519 := by rw [eI5528, pp_ne _ _ (Or.inl (lyx_ne hy (by decide) (by decide) (by decide)))]; exact ew5519
      have e5532 : I5528 (ad g 6) 2 = w5520 := by rw [eI5528, pp_ne _ _ (Or.inl (lyx_ne hy (by decide) (by decide) (by decide)))]; exact ew5520
      have e5533 : I5528 (ad g 1) 4 = v5521 := by rw [eI5528, pp_ne _ _ (Or.inl (lyx_ne hy (by decide) (by decide) (by decide)))]; exact ev5521
      have e5534 : I5528 (ad g 4) 1 = v5521 := by rw [eI5528, pp_self]
      clear eI5528
      refine WP_iload_n dX3_faultOfNumber_37 rfl ?_
      refine WQ_bipush (68) (68) dX3_faultOfNumber_38 rfl rfl (fun v5535 hv5535 => ?_)
      refine WQ_icmp_eq 45 dX3_faultOfNumber_40 rfl (fun c5535 => ?_) (fun c5535 => False.elim (by omega))
      refine WP_aload dX3_faultOfNumber_45 rfl ?_
      refine WP_iload_n dX3_faultOfNumber_47 rfl ?_
      refine WP_iload_n dX3_faultOfNumber_48 rfl ?_
      refine WQ_if_ne 56 dX3_faultOfNumber_49 rfl (fun c5536 => ?_) (fun c5536 => False.elim (by omega))
      refine WP_aload_n dX3_faultOfNumber_56 rfl ?_
      refine WP_getr dX3_faultOfNumber_57 fX3_9 rfl (lyx_is hy 3 3 rfl) (rfx hr 3 3 4 (by decide)) ?_
      refine WQ_iconst (0) (0) dX3_faultOfNumber_60 rfl rfl (fun v5538 hv5538 => ?_)
      refine WQ_ialdm (z := 0) dX3_faultOfNumber_61 (lyx_is hy 4 13 rfl) (lyx_n hy 4 5 rfl) hv5538 (by decide) e5530 ?_
      refine WP_iload dX3_faultOfNumber_62 rfl ?_
      refine WP_callV3 (k := 7) dX3_faultOfNumber_64 ⟨⟨⟨by decide, by decide⟩, zX7_isTold⟩, lX3_114, by decide, rfl, vX7_isTold.1, vX7_isTold.2⟩ (lyx_is hy 6 7 rfl) (sx_isTold_6 hy hr hI5528 cz w5518 v5521 (by omega) (by omega) (by omega) (by omega) ) (Nat.le_of_ble_eq_true rfl) ?_
      intro r Ia Ja Ra hq
      obtain ⟨⟨ea, eb, ec⟩, v5540, rfl, av5540, bv5540⟩ := hq
      show WP _ _ _ _ (.int _ :: _) _ _ _ _
      rw [ea, eb, ec]
      clear ea eb ec Ia Ja Ra
      refine WQ_if_eq 74 dX3_faultOfNumber_67 rfl (fun c5540 => ?_) (fun c5540 => ?_)
      · refine WQ_iconst (0) (0) dX3_faultOfNumber_74 rfl rfl (fun v5542 hv5542 => ?_)
        exact WP_iret dX3_faultOfNumber_75 rfl ⟨⟨hI5528, rfl, ⟨trivial, (by rw [e5530, ew5518] <;> exact (eq32 _ _).mpr (by omega)), (by rw [e5531, ew5519] <;> exact (eq32 _ _).mpr (by omega)), (by rw [e5532, ew5520] <;> exact (eq32 _ _).mpr (by omega))⟩⟩, _, rfl, by omega, by omega, by (try rw [e5534]); omega⟩
      · refine WQ_iconst (3) (3) dX3_faultOfNumber_70 rfl rfl (fun v5543 hv5543 => ?_)
        refine WP_goto 75 dX3_faultOfNumber_71 rfl ?_
        exact WP_iret dX3_faultOfNumber_75 rfl ⟨⟨hI5528, rfl, ⟨trivial, (by rw [e5530, ew5518] <;> exact (eq32 _ _).mpr (by omega)), (by rw [e5531, ew5519] <;> exact (eq32 _ _).mpr (by omega)), (by rw [e5532, ew5520] <;> exact (eq32 _ _).mpr (by omega))⟩⟩, _, rfl, by omega, by omega, by (try rw [e5534]); omega⟩
    · refine WQ_iconst (2) (2) dX3_faultOfNumber_27 rfl rfl (fun v5544 hv5544 => ?_)
      obtain ⟨w5545, ew5545⟩ : ∃ w : Int32, I (ad g 4) 1 = w := ⟨_, rfl⟩
      have bw5545 := BT_get hI.1 4 0 5 (0) (0) (1000) (by decide) 1 (by decide) (by decide)
      rw [ew5545] at bw5545
      exact WP_iret dX3_faultOfNumber_28 rfl ⟨⟨hI, rfl, ⟨trivial, rfl, rfl, rfl⟩⟩, _, rfl, by omega, by omega, by (try rw [ew5545]); omega⟩
set_option maxHeartbeats 4000000 in
set_option maxRecDepth 100000 in
theorem sx_part_6_3_2 {g : GG} {n : Int} {L : Int32} (hy : LyX g)  {I : pI} {J : pJ} {R : pR} (hr : RfX g R) (hI : XI g n L I) (pa : Int32) (cz : Int32) (ix : Int32) (pa_lo : 69 ≤ pa.toInt) (pa_hi : pa.toInt ≤ 69) (cz_lo : 3 ≤ cz.toInt) (cz_hi : cz.toInt ≤ 3) (ix_lo : 2 ≤ ix.toInt) (ix_hi : ix.toInt ≤ 2) : SP g mX3_faultOfNumber [.ref (ad g 3), .int pa, .int cz, .int ix, .ref (ad g 6)] I J R (fun r I' J' R' => (XI g n L I' ∧ R' = R ∧ True ∧ I' (ad g 4) 0 = I (ad g 4) 0 ∧ I' (ad g 4) 1 = I (ad g 4) 1 ∧ I' (ad g 6) 1 = I (ad g 6) 1 ∧ I' (ad g 6) 2 = I (ad g 6) 2) ∧ ∃ v : Int32, r = some (.int v) ∧ 0 ≤ v.toInt ∧ v.toInt ≤ 5 ∧ (v.toInt = 0 → (I' (ad g 4) 2).toInt ≤ 20)) := by
  refine SP_of ⟨by decide, rfl⟩ (Nat.le_of_ble_eq_true rfl) ?_
  have e5546 : I (ad g 1) 1 = L := hI.2
  have b5547 := BT_get hI.1 1 1 2 (0) (0) (900) (by decide) 1 (by decide) (by decide)
  rw [e5546] at b5547
  obtain ⟨w5548, ew5548⟩ : ∃ w : Int32, I (ad g 4) 0 = w := ⟨_, rfl⟩
  have bw5548 := BT_get hI.1 4 0 5 (0) (0) (1000) (by decide) 0 (by decide) (by decide)
  rw [ew5548] at bw5548
  obtain ⟨w5549, ew5549⟩ : ∃ w : Int32, I (ad g 4) 1 = w := ⟨_, rfl⟩
  have bw5549 := BT_get hI.1 4 0 5 (0) (0) (1000) (by decide) 1 (by decide) (by decide)
  rw [ew5549] at bw5549
  obtain ⟨w5550, ew5550⟩ : ∃ w : Int32, I (ad g 6) 1 = w := ⟨_, rfl⟩
  have bw5550 := BT_get hI.1 6 1 2 (0) (0) (4) (by decide) 1 (by decide) (by decide)
  rw [ew5550] at bw5550
  obtain ⟨w5551, ew5551⟩ : ∃ w : Int32, I (ad g 6) 2 = w := ⟨_, rfl⟩
  have bw5551 := BT_get hI.1 6 2 3 (0) (0) (3) (by decide) 2 (by decide) (by decide)
  rw [ew5551] at bw5551
  refine WP_aload_n dX3_faultOfNumber_0 rfl ?_
  refine WP_getr dX3_faultOfNumber_1 fX3_15 rfl (lyx_is hy 3 3 rfl) (rfx hr 3 2 1 (by decide)) ?_
  refine WQ_getiu dX3_faultOfNumber_4 fX3_118 rfl (lyx_is hy 1 5 rfl) (fun v5552 ev5552 => ?_)
  refine WP_istore (ls' := [(0, _), (1, _), (2, _), (3, _), (4, _), (5, _)]) dX3_faultOfNumber_7 (by decide) rfl ?_
  refine WP_iload dX3_faultOfNumber_9 rfl ?_
  refine WP_iload_n dX3_faultOfNumber_11 rfl ?_
  refine WP_callS1 dX3_faultOfNumber_12 ⟨⟨⟨by decide, by decide⟩, zX3_leastOf⟩, lX3_121, tX3_leastOf⟩ (sx_leastOf hy hr hI pa ) (Nat.le_of_ble_eq_true rfl) ?_
  intro r Ia Ja Ra hq
  obtain ⟨⟨ea, eb, ec⟩, v5553, rfl, av5553, bv5553⟩ := hq
  show WP _ _ _ _ (.int _ :: _) _ _ _ _
  rw [ea, eb, ec]
  clear ea eb ec Ia Ja Ra
  refine WQ_icmp_lt 27 dX3_faultOfNumber_15 rfl (fun c5553 => ?_) (fun c5553 => ?_)
  · refine WQ_iconst (2) (2) dX3_faultOfNumber_27 rfl rfl (fun v5555 hv5555 => ?_)
    obtain ⟨w5556, ew5556⟩ : ∃ w : Int32, I (ad g 4) 2 = w := ⟨_, rfl⟩
    have bw5556 := BT_get hI.1 4 0 5 (0) (0) (1000) (by decide) 2 (by decide) (by decide)
    rw [ew5556] at bw5556
    exact WP_iret dX3_faultOfNumber_28 rfl ⟨⟨hI, rfl, ⟨trivial, rfl, rfl, rfl, rfl⟩⟩, _, rfl, by omega, by omega, by (try rw [ew5556]); omega⟩
  · refine WP_iload dX3_faultOfNumber_18 rfl ?_
    refine WP_iload_n dX3_faultOfNumber_20 rfl ?_
    refine WP_callS1 dX3_faultOfNumber_21 ⟨⟨⟨by decide, by decide⟩, zX3_mostOf⟩, lX3_125, tX3_mostOf⟩ (sx_mostOf hy hr hI pa ) (Nat.le_of_ble_eq_true rfl) ?_
    intro r Ia Ja Ra hq
    obtain ⟨⟨ea, eb, ec⟩, v5557, rfl, av5557, bv5557, cv5557⟩ := hq
    show WP _ _ _ _ (.int _ :: _) _ _ _ _
    rw [ea, eb, ec]
    clear ea eb ec Ia Ja Ra
    refine WQ_icmp_le 29 dX3_faultOfNumber_24 rfl (fun c5557 => ?_) (fun c5557 => ?_)
    · refine WP_aload_n dX3_faultOfNumber_29 rfl ?_
      refine WP_getr dX3_faultOfNumber_30 fX3_9 rfl (lyx_is hy 3 3 rfl) (rfx hr 3 3 4 (by decide)) ?_
      refine WP_iload_n dX3_faultOfNumber_33 rfl ?_
      refine WP_iload dX3_faultOfNumber_34 rfl ?_
      refine WQ_iast dX3_faultOfNumber_36 (lyx_is hy 4 13 rfl) (lyx_n hy 4 5 rfl) (by omega) (by omega) (fun I5559 fI5559 => ?_)
      have eI5559 := fI5559
      rw [cl (x := ix) (n := 2) (by omega)] at eI5559
      clear fI5559
      have hI5559 : XI g n L I5559 := by rw [eI5559]; exact (xi_f hy hI (c := 4) (0) (0) (1000) (by decide) (Or.inl (by decide)) (by decide) (by omega) (by omega))
      have e5560 : I5559 (ad g 1) 1 = L := by rw [eI5559, pp_ne _ _ (Or.inl (lyx_ne hy (by decide) (by decide) (by decide)))]; exact e5546
      have e5561 : I5559 (ad g 4) 0 = w5548 := by rw [eI5559, pp_ne _ _ (Or.inr (by decide))]; exact ew5548
      have e5562 : I5559 (ad g 4) 1 = w5549 := by rw [eI5559, pp_ne _ _ (Or.inr (by decide))]; exact ew5549
      have e5563 : I5559 (ad g 6) 1 = w5550 := by rw [eI5559, pp_ne _ _ (Or.inl (lyx_ne hy (by decide) (by decide) (by decide)))]; exact ew5550
      have e5564 : I5559 (ad g 6) 2 = w5551 := by rw [eI5559, pp_ne _ _ (Or.inl (lyx_ne hy (by decide) (by decide) (by decide)))]; exact ew5551
      have e5565 : I5559 (ad g 1) 4 = v5552 := by rw [eI5559, pp_ne _ _ (Or.inl (lyx_ne hy (by decide) (by decide) (by decide)))]; exact ev5552
      have e5566 : I5559 (ad g 4) 2 = v5552 := by rw [eI5559, pp_self]
      clear eI5559
      refine WP_iload_n dX3_faultOfNumber_37 rfl ?_
      refine WQ_bipush (68) (68) dX3_faultOfNumber_38 rfl rfl (fun v5567 hv5567 => ?_)
      refine WQ_icmp_eq 45 dX3_faultOfNumber_40 rfl (fun c5567 => False.elim (by omega)) (fun c5567 => ?_)
      refine WQ_iconst (0) (0) dX3_faultOfNumber_43 rfl rfl (fun v5569 hv5569 => ?_)
      exact WP_iret dX3_faultOfNumber_44 rfl ⟨⟨hI5559, rfl, ⟨trivial, (by rw [e5561, ew5548] <;> exact (eq32 _ _).mpr (by omega)), (by rw [e5562, ew5549] <;> exact (eq32 _ _).mpr (by omega)), (by rw [e5563, ew5550] <;> exact (eq32 _ _).mpr (by omega)), (by rw [e5564, ew5551] <;> exact (eq32 _ _).mpr (by omega))⟩⟩, _, rfl, by omega, by omega, by (try rw [e5566]); omega⟩
    · refine WQ_iconst (2) (2) dX3_faultOfNumber_27 rfl rfl (fun v5570 hv5570 => ?_)
      obtain ⟨w5571, ew5571⟩ : ∃ w : Int32, I (ad g 4) 2 = w := ⟨_, rfl⟩
      have bw5571 := BT_get hI.1 4 0 5 (0) (0) (1000) (by decide) 2 (by decide) (by decide)
      rw [ew5571] at bw5571
      exact WP_iret dX3_faultOfNumber_28 rfl ⟨⟨hI, rfl, ⟨trivial, rfl, rfl, rfl, rfl⟩⟩, _, rfl, by omega, by omega, by (try rw [ew5571]); omega⟩
set_option maxHeartbeats 4000000 in
set_option maxRecDepth 100000 in
theorem sx_part_6_4_0 {g : GG} {n : Int} {L : Int32} (hy : LyX g)  {I : pI} {J : pJ} {R : pR} (hr : RfX g R) (hI : XI g n L I) (pa : Int32) (cz : Int32) (ix : Int32) (pa_lo : 116 ≤ pa.toInt) (pa_hi : pa.toInt ≤ 116) (cz_lo : 4 ≤ cz.toInt) (cz_hi : cz.toInt ≤ 4) (ix_lo : 0 ≤ ix.toInt) (ix_hi : ix.toInt ≤ 0) : SP g mX3_faultOfName [.ref (ad g 3), .int pa, .int cz, .int ix, .ref (ad g 6)] I J R (fun r I' J' R' => (XI g n L I' ∧ R' = R ∧ True ∧ I' (ad g 6) 1 = I (ad g 6) 1 ∧ I' (ad g 6) 2 = I (ad g 6) 2) ∧ ∃ v : Int32, r = some (.int v) ∧ 0 ≤ v.toInt ∧ v.toInt ≤ 5 ∧ (v.toInt = 0 → (I' (ad g 4) 0).toInt ≤ 2)) := by
  refine SP_of ⟨by decide, rfl⟩ (Nat.le_of_ble_eq_true rfl) ?_
  have e5572 : I (ad g 1) 1 = L := hI.2
  have b5573 := BT_get hI.1 1 1 2 (0) (0) (900) (by decide) 1 (by decide) (by decide)
  rw [e5572] at b5573
  obtain ⟨w5574, ew5574⟩ : ∃ w : Int32, I (ad g 6) 1 = w := ⟨_, rfl⟩
  have bw5574 := BT_get hI.1 6 1 2 (0) (0) (4) (by decide) 1 (by decide) (by decide)
  rw [ew5574] at bw5574
  obtain ⟨w5575, ew5575⟩ : ∃ w : Int32, I (ad g 6) 2 = w := ⟨_, rfl⟩
  have bw5575 := BT_get hI.1 6 2 3 (0) (0) (3) (by decide) 2 (by decide) (by decide)
  rw [ew5575] at bw5575
  refine WP_iload_n dX3_faultOfName_0 rfl ?_
  refine WQ_bipush (115) (115) dX3_faultOfName_1 rfl rfl (fun v5576 hv5576 => ?_)
  refine WQ_icmp_eq 12 dX3_faultOfName_3 rfl (fun c5576 => False.elim (by omega)) (fun c5576 => ?_)
  refine WP_iload_n dX3_faultOfName_6 rfl ?_
  refine WQ_bipush (110) (110) dX3_faultOfName_7 rfl rfl (fun v5578 hv5578 => ?_)
  refine WQ_icmp_ne 16 dX3_faultOfName_9 rfl (fun c5578 => ?_) (fun c5578 => False.elim (by omega))
  refine WQ_iconst (0) (0) dX3_faultOfName_16 rfl rfl (fun v5580 hv5580 => ?_)
  refine WP_istore (ls' := [(0, _), (1, _), (2, _), (3, _), (4, _), (5, _)]) dX3_faultOfName_17 (by decide) rfl ?_
  refine WP_iload dX3_faultOfName_19 rfl ?_
  refine WQ_if_eq 39 dX3_faultOfName_21 rfl (fun c5580 => ?_) (fun c5580 => False.elim (by omega))
  refine WP_aload dX3_faultOfName_39 rfl ?_
  refine WP_aload_n dX3_faultOfName_41 rfl ?_
  refine WP_getr dX3_faultOfName_42 fX3_15 rfl (lyx_is hy 3 3 rfl) (rfx hr 3 2 1 (by decide)) ?_
  refine WQ_getl dX3_faultOfName_45 fX3_80 rfl (lyx_is hy 1 5 rfl) (fun l5582 el5582 => ?_)
  refine WP_callV1 (k := 7) dX3_faultOfName_48 ⟨⟨⟨by decide, by decide⟩, zX7_thingNamed⟩, lX3_107, by decide, rfl, vX7_thingNamed.1, vX7_thingNamed.2⟩ (lyx_is hy 6 7 rfl) (sx_thingNamed_6 hy hr hI l5582 ) (Nat.le_of_ble_eq_true rfl) ?_
  intro r Ia Ja Ra hq
  obtain ⟨⟨ea, eb, ec⟩, v5583, rfl, av5583, bv5583⟩ := hq
  show WP _ _ _ _ (.int _ :: _) _ _ _ _
  rw [ea, eb, ec]
  clear ea eb ec Ia Ja Ra
  refine WP_istore (ls' := [(0, _), (1, _), (2, _), (3, _), (4, _), (5, _), (6, _)]) dX3_faultOfName_51 (by decide) rfl ?_
  refine WP_iload_n dX3_faultOfName_53 rfl ?_
  refine WQ_bipush (110) (110) dX3_faultOfName_54 rfl rfl (fun v5584 hv5584 => ?_)
  refine WQ_icmp_eq 65 dX3_faultOfName_56 rfl (fun c5584 => False.elim (by omega)) (fun c5584 => ?_)
  refine WP_iload_n dX3_faultOfName_59 rfl ?_
  refine WQ_bipush (109) (109) dX3_faultOfName_60 rfl rfl (fun v5586 hv5586 => ?_)
  refine WQ_icmp_ne 98 dX3_faultOfName_62 rfl (fun c5586 => ?_) (fun c5586 => False.elim (by omega))
  refine WP_iload dX3_faultOfName_98 rfl ?_
  refine WQ_iconst (-1) (-1) dX3_faultOfName_100 rfl rfl (fun v5588 hv5588 => ?_)
  refine WQ_icmp_ne 106 dX3_faultOfName_101 rfl (fun c5588 => ?_) (fun c5588 => ?_)
  · refine WP_aload_n dX3_faultOfName_106 rfl ?_
    refine WP_getr dX3_faultOfName_107 fX3_9 rfl (lyx_is hy 3 3 rfl) (rfx hr 3 3 4 (by decide)) ?_
    refine WP_iload_n dX3_faultOfName_110 rfl ?_
    refine WP_iload dX3_faultOfName_111 rfl ?_
    refine WQ_iast dX3_faultOfName_113 (lyx_is hy 4 13 rfl) (lyx_n hy 4 5 rfl) (by omega) (by omega) (fun I5590 fI5590 => ?_)
    have eI5590 := fI5590
    rw [cl (x := ix) (n := 0) (by omega)] at eI5590
    clear fI5590
    have hI5590 : XI g n L I5590 := by rw [eI5590]; exact (xi_f hy hI (c := 4) (0) (0) (1000) (by decide) (Or.inl (by decide)) (by decide) (by omega) (by omega))
    have e5591 : I5590 (ad g 1) 1 = L := by rw [eI5590, pp_ne _ _ (Or.inl (lyx_ne hy (by decide) (by decide) (by decide)))]; exact e5572
    have e5592 : I5590 (ad g 6) 1 = w5574 := by rw [eI5590, pp_ne _ _ (Or.inl (lyx_ne hy (by decide) (by decide) (by decide)))]; exact ew5574
    have e5593 : I5590 (ad g 6) 2 = w5575 := by rw [eI5590, pp_ne _ _ (Or.inl (lyx_ne hy (by decide) (by decide) (by decide)))]; exact ew5575
    have e5594 : I5590 (ad g 4) 0 = v5583 := by rw [eI5590, pp_self]
    clear eI5590
    refine WP_iload_n dX3_faultOfName_114 rfl ?_
    refine WQ_bipush (7) (7) dX3_faultOfName_115 rfl rfl (fun v5595 hv5595 => ?_)
    refine WQ_icmp_ne 137 dX3_faultOfName_117 rfl (fun c5595 => ?_) (fun c5595 => False.elim (by omega))
    refine WQ_iconst (0) (0) dX3_faultOfName_137 rfl rfl (fun v5597 hv5597 => ?_)
    exact WP_iret dX3_faultOfName_138 rfl ⟨⟨hI5590, rfl, ⟨trivial, (by rw [e5592, ew5574] <;> exact (eq32 _ _).mpr (by omega)), (by rw [e5593, ew5575] <;> exact (eq32 _ _).mpr (by omega))⟩⟩, _, rfl, by omega, by omega, by (try rw [e5594]); omega⟩
  · refine WQ_iconst (5) (5) dX3_faultOfName_104 rfl rfl (fun v5598 hv5598 => ?_)
    obtain ⟨w5599, ew5599⟩ : ∃ w : Int32, I (ad g 4) 0 = w := ⟨_, rfl⟩
    have bw5599 := BT_get hI.1 4 0 5 (0) (0) (1000) (by decide) 0 (by decide) (by decide)
    rw [ew5599] at bw5599
    exact WP_iret dX3_faultOfName_105 rfl ⟨⟨hI, rfl, ⟨trivial, rfl, rfl⟩⟩, _, rfl, by omega, by omega, by (try rw [ew5599]); omega⟩
set_option maxHeartbeats 4000000 in
set_option maxRecDepth 100000 in
theorem sx_part_6_4_1 {g : GG} {n : Int} {L : Int32} (hy : LyX g)  {I : pI} {J : pJ} {R : pR} (hr : RfX g R) (hI : XI g n L I) (pa : Int32) (cz : Int32) (ix : Int32) (pa_lo : 68 ≤ pa.toInt) (pa_hi : pa.toInt ≤ 68) (cz_lo : 4 ≤ cz.toInt) (cz_hi : cz.toInt ≤ 4) (ix_lo : 1 ≤ ix.toInt) (ix_hi : ix.toInt ≤ 1) (hb : (I (ad g 4) 0).toInt ≤ 3) : SP g mX3_faultOfNumber [.ref (ad g 3), .int pa, .int cz, .int ix, .ref (ad g 6)] I J R (fun r I' J' R' => (XI g n L I' ∧ R' = R ∧ True ∧ I' (ad g 4) 0 = I (ad g 4) 0 ∧ I' (ad g 6) 1 = I (ad g 6) 1 ∧ I' (ad g 6) 2 = I (ad g 6) 2) ∧ ∃ v : Int32, r = some (.int v) ∧ 0 ≤ v.toInt ∧ v.toInt ≤ 5 ∧ (v.toInt = 0 → (I' (ad g 4) 1).toInt ≤ 6)) := by
  refine SP_of ⟨by decide, rfl⟩ (Nat.le_of_ble_eq_true rfl) ?_
  have e5600 : I (ad g 1) 1 = L := hI.2
  have b5601 := BT_get hI.1 1 1 2 (0) (0) (900) (by decide) 1 (by decide) (by decide)
  rw [e5600] at b5601
  obtain ⟨w5602, ew5602⟩ : ∃ w : Int32, I (ad g 4) 0 = w := ⟨_, rfl⟩
  have bw5602 := BT_get hI.1 4 0 5 (0) (0) (1000) (by decide) 0 (by decide) (by decide)
  rw [ew5602] at bw5602
  obtain ⟨w5603, ew5603⟩ : ∃ w : Int32, I (ad g 6) 1 = w := ⟨_, rfl⟩
  have bw5603 := BT_get hI.1 6 1 2 (0) (0) (4) (by decide) 1 (by decide) (by decide)
  rw [ew5603] at bw5603
  obtain ⟨w5604, ew5604⟩ : ∃ w : Int32, I (ad g 6) 2 = w := ⟨_, rfl⟩
  have bw5604 := BT_get hI.1 6 2 3 (0) (0) (3) (by decide) 2 (by decide) (by decide)
  rw [ew5604] at bw5604
  rw [ew5602] at hb
  refine WP_aload_n dX3_faultOfNumber_0 rfl ?_
  refine WP_getr dX3_faultOfNumber_1 fX3_15 rfl (lyx_is hy 3 3 rfl) (rfx hr 3 2 1 (by decide)) ?_
  refine WQ_getiu dX3_faultOfNumber_4 fX3_118 rfl (lyx_is hy 1 5 rfl) (fun v5605 ev5605 => ?_)
  refine WP_istore (ls' := [(0, _), (1, _), (2, _), (3, _), (4, _), (5, _)]) dX3_faultOfNumber_7 (by decide) rfl ?_
  refine WP_iload dX3_faultOfNumber_9 rfl ?_
  refine WP_iload_n dX3_faultOfNumber_11 rfl ?_
  refine WP_callS1 dX3_faultOfNumber_12 ⟨⟨⟨by decide, by decide⟩, zX3_leastOf⟩, lX3_121, tX3_leastOf⟩ (sx_leastOf hy hr hI pa ) (Nat.le_of_ble_eq_true rfl) ?_
  intro r Ia Ja Ra hq
  obtain ⟨⟨ea, eb, ec⟩, v5606, rfl, av5606, bv5606⟩ := hq
  show WP _ _ _ _ (.int _ :: _) _ _ _ _
  rw [ea, eb, ec]
  clear ea eb ec Ia Ja Ra
  refine WQ_icmp_lt 27 dX3_faultOfNumber_15 rfl (fun c5606 => ?_) (fun c5606 => ?_)
  · refine WQ_iconst (2) (2) dX3_faultOfNumber_27 rfl rfl (fun v5608 hv5608 => ?_)
    obtain ⟨w5609, ew5609⟩ : ∃ w : Int32, I (ad g 4) 1 = w := ⟨_, rfl⟩
    have bw5609 := BT_get hI.1 4 0 5 (0) (0) (1000) (by decide) 1 (by decide) (by decide)
    rw [ew5609] at bw5609
    exact WP_iret dX3_faultOfNumber_28 rfl ⟨⟨hI, rfl, ⟨trivial, rfl, rfl, rfl⟩⟩, _, rfl, by omega, by omega, by (try rw [ew5609]); omega⟩
  · refine WP_iload dX3_faultOfNumber_18 rfl ?_
    refine WP_iload_n dX3_faultOfNumber_20 rfl ?_
    refine WP_callS1 dX3_faultOfNumber_21 ⟨⟨⟨by decide, by decide⟩, zX3_mostOf⟩, lX3_125, tX3_mostOf⟩ (sx_mostOf hy hr hI pa ) (Nat.le_of_ble_eq_true rfl) ?_
    intro r Ia Ja Ra hq
    obtain ⟨⟨ea, eb, ec⟩, v5610, rfl, av5610, bv5610, cv5610⟩ := hq
    show WP _ _ _ _ (.int _ :: _) _ _ _ _
    rw [ea, eb, ec]
    clear ea eb ec Ia Ja Ra
    refine WQ_icmp_le 29 dX3_faultOfNumber_24 rfl (fun c5610 => ?_) (fun c5610 => ?_)
    · refine WP_aload_n dX3_faultOfNumber_29 rfl ?_
      refine WP_getr dX3_faultOfNumber_30 fX3_9 rfl (lyx_is hy 3 3 rfl) (rfx hr 3 3 4 (by decide)) ?_
      refine WP_iload_n dX3_faultOfNumber_33 rfl ?_
      refine WP_iload dX3_faultOfNumber_34 rfl ?_
      refine WQ_iast dX3_faultOfNumber_36 (lyx_is hy 4 13 rfl) (lyx_n hy 4 5 rfl) (by omega) (by omega) (fun I5612 fI5612 => ?_)
      have eI5612 := fI5612
      rw [cl (x := ix) (n := 1) (by omega)] at eI5612
      clear fI5612
      have hI5612 : XI g n L I5612 := by rw [eI5612]; exact (xi_f hy hI (c := 4) (0) (0) (1000) (by decide) (Or.inl (by decide)) (by decide) (by omega) (by omega))
      have e5613 : I5612 (ad g 1) 1 = L := by rw [eI5612, pp_ne _ _ (Or.inl (lyx_ne hy (by decide) (by decide) (by decide)))]; exact e5600
      have e5614 : I5612 (ad g 4) 0 = w5602 := by rw [eI5612, pp_ne _ _ (Or.inr (by decide))]; exact ew5602
      have e5615 : I5612 (ad g 6) 1 = w5603 := by rw [eI5612, pp_ne _ _ (Or.inl (lyx_ne hy (by decide) (by decide) (by decide)))]; exact ew5603
      have e5616 : I5612 (ad g 6) 2 = w5604 := by rw [eI5612, pp_ne _ _ (Or.inl (lyx_ne hy (by decide) (by decide) (by decide)))]; exact ew5604
      have e5617 : I5612 (ad g 1) 4 = v5605 := by rw [eI5612, pp_ne _ _ (Or.inl (lyx_ne hy (by decide) (by decide) (by decide)))]; exact ev5605
      have e5618 : I5612 (ad g 4) 1 = v5605 := by rw [eI5612, pp_self]
      clear eI5612
      refine WP_iload_n dX3_faultOfNumber_37 rfl ?_
      refine WQ_bipush (68) (68) dX3_faultOfNumber_38 rfl rfl (fun v5619 hv5619 => ?_)
      refine WQ_icmp_eq 45 dX3_faultOfNumber_40 rfl (fun c5619 => ?_) (fun c5619 => False.elim (by omega))
      refine WP_aload dX3_faultOfNumber_45 rfl ?_
      refine WP_iload_n dX3_faultOfNumber_47 rfl ?_
      refine WP_iload_n dX3_faultOfNumber_48 rfl ?_
      refine WQ_if_ne 56 dX3_faultOfNumber_49 rfl (fun c5620 => ?_) (fun c5620 => False.elim (by omega))
      refine WP_aload_n dX3_faultOfNumber_56 rfl ?_
      refine WP_getr dX3_faultOfNumber_57 fX3_9 rfl (lyx_is hy 3 3 rfl) (rfx hr 3 3 4 (by decide)) ?_
      refine WQ_iconst (0) (0) dX3_faultOfNumber_60 rfl rfl (fun v5622 hv5622 => ?_)
      refine WQ_ialdm (z := 0) dX3_faultOfNumber_61 (lyx_is hy 4 13 rfl) (lyx_n hy 4 5 rfl) hv5622 (by decide) e5614 ?_
      refine WP_iload dX3_faultOfNumber_62 rfl ?_
      refine WP_callV3 (k := 7) dX3_faultOfNumber_64 ⟨⟨⟨by decide, by decide⟩, zX7_isTold⟩, lX3_114, by decide, rfl, vX7_isTold.1, vX7_isTold.2⟩ (lyx_is hy 6 7 rfl) (sx_isTold_6 hy hr hI5612 cz w5602 v5605 (by omega) (by omega) (by omega) (by omega) ) (Nat.le_of_ble_eq_true rfl) ?_
      intro r Ia Ja Ra hq
      obtain ⟨⟨ea, eb, ec⟩, v5624, rfl, av5624, bv5624⟩ := hq
      show WP _ _ _ _ (.int _ :: _) _ _ _ _
      rw [ea, eb, ec]
      clear ea eb ec Ia Ja Ra
      refine WQ_if_eq 74 dX3_faultOfNumber_67 rfl (fun c5624 => ?_) (fun c5624 => ?_)
      · refine WQ_iconst (0) (0) dX3_faultOfNumber_74 rfl rfl (fun v5626 hv5626 => ?_)
        exact WP_iret dX3_faultOfNumber_75 rfl ⟨⟨hI5612, rfl, ⟨trivial, (by rw [e5614, ew5602] <;> exact (eq32 _ _).mpr (by omega)), (by rw [e5615, ew5603] <;> exact (eq32 _ _).mpr (by omega)), (by rw [e5616, ew5604] <;> exact (eq32 _ _).mpr (by omega))⟩⟩, _, rfl, by omega, by omega, by (try rw [e5618]); omega⟩
      · refine WQ_iconst (3) (3) dX3_faultOfNumber_70 rfl rfl (fun v5627 hv5627 => ?_)
        refine WP_goto 75 dX3_faultOfNumber_71 rfl ?_
        exact WP_iret dX3_faultOfNumber_75 rfl ⟨⟨hI5612, rfl, ⟨trivial, (by rw [e5614, ew5602] <;> exact (eq32 _ _).mpr (by omega)), (by rw [e5615, ew5603] <;> exact (eq32 _ _).mpr (by omega)), (by rw [e5616, ew5604] <;> exact (eq32 _ _).mpr (by omega))⟩⟩, _, rfl, by omega, by omega, by (try rw [e5618]); omega⟩
    · refine WQ_iconst (2) (2) dX3_faultOfNumber_27 rfl rfl (fun v5628 hv5628 => ?_)
      obtain ⟨w5629, ew5629⟩ : ∃ w : Int32, I (ad g 4) 1 = w := ⟨_, rfl⟩
      have bw5629 := BT_get hI.1 4 0 5 (0) (0) (1000) (by decide) 1 (by decide) (by decide)
      rw [ew5629] at bw5629
      exact WP_iret dX3_faultOfNumber_28 rfl ⟨⟨hI, rfl, ⟨trivial, rfl, rfl, rfl⟩⟩, _, rfl, by omega, by omega, by (try rw [ew5629]); omega⟩
set_option maxHeartbeats 4000000 in
set_option maxRecDepth 100000 in
theorem sx_part_6_4_2 {g : GG} {n : Int} {L : Int32} (hy : LyX g)  {I : pI} {J : pJ} {R : pR} (hr : RfX g R) (hI : XI g n L I) (pa : Int32) (cz : Int32) (ix : Int32) (pa_lo : 69 ≤ pa.toInt) (pa_hi : pa.toInt ≤ 69) (cz_lo : 4 ≤ cz.toInt) (cz_hi : cz.toInt ≤ 4) (ix_lo : 2 ≤ ix.toInt) (ix_hi : ix.toInt ≤ 2) : SP g mX3_faultOfNumber [.ref (ad g 3), .int pa, .int cz, .int ix, .ref (ad g 6)] I J R (fun r I' J' R' => (XI g n L I' ∧ R' = R ∧ True ∧ I' (ad g 4) 0 = I (ad g 4) 0 ∧ I' (ad g 4) 1 = I (ad g 4) 1 ∧ I' (ad g 6) 1 = I (ad g 6) 1 ∧ I' (ad g 6) 2 = I (ad g 6) 2) ∧ ∃ v : Int32, r = some (.int v) ∧ 0 ≤ v.toInt ∧ v.toInt ≤ 5 ∧ (v.toInt = 0 → (I' (ad g 4) 2).toInt ≤ 20)) := by
  refine SP_of ⟨by decide, rfl⟩ (Nat.le_of_ble_eq_true rfl) ?_
  have e5630 : I (ad g 1) 1 = L := hI.2
  have b5631 := BT_get hI.1 1 1 2 (0) (0) (900) (by decide) 1 (by decide) (by decide)
  rw [e5630] at b5631
  obtain ⟨w5632, ew5632⟩ : ∃ w : Int32, I (ad g 4) 0 = w := ⟨_, rfl⟩
  have bw5632 := BT_get hI.1 4 0 5 (0) (0) (1000) (by decide) 0 (by decide) (by decide)
  rw [ew5632] at bw5632
  obtain ⟨w5633, ew5633⟩ : ∃ w : Int32, I (ad g 4) 1 = w := ⟨_, rfl⟩
  have bw5633 := BT_get hI.1 4 0 5 (0) (0) (1000) (by decide) 1 (by decide) (by decide)
  rw [ew5633] at bw5633
  obtain ⟨w5634, ew5634⟩ : ∃ w : Int32, I (ad g 6) 1 = w := ⟨_, rfl⟩
  have bw5634 := BT_get hI.1 6 1 2 (0) (0) (4) (by decide) 1 (by decide) (by decide)
  rw [ew5634] at bw5634
  obtain ⟨w5635, ew5635⟩ : ∃ w : Int32, I (ad g 6) 2 = w := ⟨_, rfl⟩
  have bw5635 := BT_get hI.1 6 2 3 (0) (0) (3) (by decide) 2 (by decide) (by decide)
  rw [ew5635] at bw5635
  refine WP_aload_n dX3_faultOfNumber_0 rfl ?_
  refine WP_getr dX3_faultOfNumber_1 fX3_15 rfl (lyx_is hy 3 3 rfl) (rfx hr 3 2 1 (by decide)) ?_
  refine WQ_getiu dX3_faultOfNumber_4 fX3_118 rfl (lyx_is hy 1 5 rfl) (fun v5636 ev5636 => ?_)
  refine WP_istore (ls' := [(0, _), (1, _), (2, _), (3, _), (4, _), (5, _)]) dX3_faultOfNumber_7 (by decide) rfl ?_
  refine WP_iload dX3_faultOfNumber_9 rfl ?_
  refine WP_iload_n dX3_faultOfNumber_11 rfl ?_
  refine WP_callS1 dX3_faultOfNumber_12 ⟨⟨⟨by decide, by decide⟩, zX3_leastOf⟩, lX3_121, tX3_leastOf⟩ (sx_leastOf hy hr hI pa ) (Nat.le_of_ble_eq_true rfl) ?_
  intro r Ia Ja Ra hq
  obtain ⟨⟨ea, eb, ec⟩, v5637, rfl, av5637, bv5637⟩ := hq
  show WP _ _ _ _ (.int _ :: _) _ _ _ _
  rw [ea, eb, ec]
  clear ea eb ec Ia Ja Ra
  refine WQ_icmp_lt 27 dX3_faultOfNumber_15 rfl (fun c5637 => ?_) (fun c5637 => ?_)
  · refine WQ_iconst (2) (2) dX3_faultOfNumber_27 rfl rfl (fun v5639 hv5639 => ?_)
    obtain ⟨w5640, ew5640⟩ : ∃ w : Int32, I (ad g 4) 2 = w := ⟨_, rfl⟩
    have bw5640 := BT_get hI.1 4 0 5 (0) (0) (1000) (by decide) 2 (by decide) (by decide)
    rw [ew5640] at bw5640
    exact WP_iret dX3_faultOfNumber_28 rfl ⟨⟨hI, rfl, ⟨trivial, rfl, rfl, rfl, rfl⟩⟩, _, rfl, by omega, by omega, by (try rw [ew5640]); omega⟩
  · refine WP_iload dX3_faultOfNumber_18 rfl ?_
    refine WP_iload_n dX3_faultOfNumber_20 rfl ?_
    refine WP_callS1 dX3_faultOfNumber_21 ⟨⟨⟨by decide, by decide⟩, zX3_mostOf⟩, lX3_125, tX3_mostOf⟩ (sx_mostOf hy hr hI pa ) (Nat.le_of_ble_eq_true rfl) ?_
    intro r Ia Ja Ra hq
    obtain ⟨⟨ea, eb, ec⟩, v5641, rfl, av5641, bv5641, cv5641⟩ := hq
    show WP _ _ _ _ (.int _ :: _) _ _ _ _
    rw [ea, eb, ec]
    clear ea eb ec Ia Ja Ra
    refine WQ_icmp_le 29 dX3_faultOfNumber_24 rfl (fun c5641 => ?_) (fun c5641 => ?_)
    · refine WP_aload_n dX3_faultOfNumber_29 rfl ?_
      refine WP_getr dX3_faultOfNumber_30 fX3_9 rfl (lyx_is hy 3 3 rfl) (rfx hr 3 3 4 (by decide)) ?_
      refine WP_iload_n dX3_faultOfNumber_33 rfl ?_
      refine WP_iload dX3_faultOfNumber_34 rfl ?_
      refine WQ_iast dX3_faultOfNumber_36 (lyx_is hy 4 13 rfl) (lyx_n hy 4 5 rfl) (by omega) (by omega) (fun I5643 fI5643 => ?_)
      have eI5643 := fI5643
      rw [cl (x := ix) (n := 2) (by omega)] at eI5643
      clear fI5643
      have hI5643 : XI g n L I5643 := by rw [eI5643]; exact (xi_f hy hI (c := 4) (0) (0) (1000) (by decide) (Or.inl (by decide)) (by decide) (by omega) (by omega))
      have e5644 : I5643 (ad g 1) 1 = L := by rw [eI5643, pp_ne _ _ (Or.inl (lyx_ne hy (by decide) (by decide) (by decide)))]; exact e5630
      have e5645 : I5643 (ad g 4) 0 = w5632 := by rw [eI5643, pp_ne _ _ (Or.inr (by decide))]; exact ew5632
      have e5646 : I5643 (ad g 4) 1 = w5633 := by rw [eI5643, pp_ne _ _ (Or.inr (by decide))]; exact ew5633
      have e5647 : I5643 (ad g 6) 1 = w5634 := by rw [eI5643, pp_ne _ _ (Or.inl (lyx_ne hy (by decide) (by decide) (by decide)))]; exact ew5634
      have e5648 : I5643 (ad g 6) 2 = w5635 := by rw [eI5643, pp_ne _ _ (Or.inl (lyx_ne hy (by decide) (by decide) (by decide)))]; exact ew5635
      have e5649 : I5643 (ad g 1) 4 = v5636 := by rw [eI5643, pp_ne _ _ (Or.inl (lyx_ne hy (by decide) (by decide) (by decide)))]; exact ev5636
      have e5650 : I5643 (ad g 4) 2 = v5636 := by rw [eI5643, pp_self]
      clear eI5643
      refine WP_iload_n dX3_faultOfNumber_37 rfl ?_
      refine WQ_bipush (68) (68) dX3_faultOfNumber_38 rfl rfl (fun v5651 hv5651 => ?_)
      refine WQ_icmp_eq 45 dX3_faultOfNumber_40 rfl (fun c5651 => False.elim (by omega)) (fun c5651 => ?_)
      refine WQ_iconst (0) (0) dX3_faultOfNumber_43 rfl rfl (fun v5653 hv5653 => ?_)
      exact WP_iret dX3_faultOfNumber_44 rfl ⟨⟨hI5643, rfl, ⟨trivial, (by rw [e5645, ew5632] <;> exact (eq32 _ _).mpr (by omega)), (by rw [e5646, ew5633] <;> exact (eq32 _ _).mpr (by omega)), (by rw [e5647, ew5634] <;> exact (eq32 _ _).mpr (by omega)), (by rw [e5648, ew5635] <;> exact (eq32 _ _).mpr (by omega))⟩⟩, _, rfl, by omega, by omega, by (try rw [e5650]); omega⟩
    · refine WQ_iconst (2) (2) dX3_faultOfNumber_27 rfl rfl (fun v5654 hv5654 => ?_)
      obtain ⟨w5655, ew5655⟩ : ∃ w : Int32, I (ad g 4) 2 = w := ⟨_, rfl⟩
      have bw5655 := BT_get hI.1 4 0 5 (0) (0) (1000) (by decide) 2 (by decide) (by decide)
      rw [ew5655] at bw5655
      exact WP_iret dX3_faultOfNumber_28 rfl ⟨⟨hI, rfl, ⟨trivial, rfl, rfl, rfl, rfl⟩⟩, _, rfl, by omega, by omega, by (try rw [ew5655]); omega⟩
set_option maxHeartbeats 4000000 in
set_option maxRecDepth 100000 in
theorem sx_part_6_5_0 {g : GG} {n : Int} {L : Int32} (hy : LyX g)  {I : pI} {J : pJ} {R : pR} (hr : RfX g R) (hI : XI g n L I) (pa : Int32) (cz : Int32) (ix : Int32) (pa_lo : 116 ≤ pa.toInt) (pa_hi : pa.toInt ≤ 116) (cz_lo : 5 ≤ cz.toInt) (cz_hi : cz.toInt ≤ 5) (ix_lo : 0 ≤ ix.toInt) (ix_hi : ix.toInt ≤ 0) : SP g mX3_faultOfName [.ref (ad g 3), .int pa, .int cz, .int ix, .ref (ad g 6)] I J R (fun r I' J' R' => (XI g n L I' ∧ R' = R ∧ True ∧ I' (ad g 6) 1 = I (ad g 6) 1 ∧ I' (ad g 6) 2 = I (ad g 6) 2) ∧ ∃ v : Int32, r = some (.int v) ∧ 0 ≤ v.toInt ∧ v.toInt ≤ 5 ∧ (v.toInt = 0 → (I' (ad g 4) 0).toInt ≤ 2)) := by
  refine SP_of ⟨by decide, rfl⟩ (Nat.le_of_ble_eq_true rfl) ?_
  have e5656 : I (ad g 1) 1 = L := hI.2
  have b5657 := BT_get hI.1 1 1 2 (0) (0) (900) (by decide) 1 (by decide) (by decide)
  rw [e5656] at b5657
  obtain ⟨w5658, ew5658⟩ : ∃ w : Int32, I (ad g 6) 1 = w := ⟨_, rfl⟩
  have bw5658 := BT_get hI.1 6 1 2 (0) (0) (4) (by decide) 1 (by decide) (by decide)
  rw [ew5658] at bw5658
  obtain ⟨w5659, ew5659⟩ : ∃ w : Int32, I (ad g 6) 2 = w := ⟨_, rfl⟩
  have bw5659 := BT_get hI.1 6 2 3 (0) (0) (3) (by decide) 2 (by decide) (by decide)
  rw [ew5659] at bw5659
  refine WP_iload_n dX3_faultOfName_0 rfl ?_
  refine WQ_bipush (115) (115) dX3_faultOfName_1 rfl rfl (fun v5660 hv5660 => ?_)
  refine WQ_icmp_eq 12 dX3_faultOfName_3 rfl (fun c5660 => False.elim (by omega)) (fun c5660 => ?_)
  refine WP_iload_n dX3_faultOfName_6 rfl ?_
  refine WQ_bipush (110) (110) dX3_faultOfName_7 rfl rfl (fun v5662 hv5662 => ?_)
  refine WQ_icmp_ne 16 dX3_faultOfName_9 rfl (fun c5662 => ?_) (fun c5662 => False.elim (by omega))
  refine WQ_iconst (0) (0) dX3_faultOfName_16 rfl rfl (fun v5664 hv5664 => ?_)
  refine WP_istore (ls' := [(0, _), (1, _), (2, _), (3, _), (4, _), (5, _)]) dX3_faultOfName_17 (by decide) rfl ?_
  refine WP_iload dX3_faultOfName_19 rfl ?_
  refine WQ_if_eq 39 dX3_faultOfName_21 rfl (fun c5664 => ?_) (fun c5664 => False.elim (by omega))
  refine WP_aload dX3_faultOfName_39 rfl ?_
  refine WP_aload_n dX3_faultOfName_41 rfl ?_
  refine WP_getr dX3_faultOfName_42 fX3_15 rfl (lyx_is hy 3 3 rfl) (rfx hr 3 2 1 (by decide)) ?_
  refine WQ_getl dX3_faultOfName_45 fX3_80 rfl (lyx_is hy 1 5 rfl) (fun l5666 el5666 => ?_)
  refine WP_callV1 (k := 7) dX3_faultOfName_48 ⟨⟨⟨by decide, by decide⟩, zX7_thingNamed⟩, lX3_107, by decide, rfl, vX7_thingNamed.1, vX7_thingNamed.2⟩ (lyx_is hy 6 7 rfl) (sx_thingNamed_6 hy hr hI l5666 ) (Nat.le_of_ble_eq_true rfl) ?_
  intro r Ia Ja Ra hq
  obtain ⟨⟨ea, eb, ec⟩, v5667, rfl, av5667, bv5667⟩ := hq
  show WP _ _ _ _ (.int _ :: _) _ _ _ _
  rw [ea, eb, ec]
  clear ea eb ec Ia Ja Ra
  refine WP_istore (ls' := [(0, _), (1, _), (2, _), (3, _), (4, _), (5, _), (6, _)]) dX3_faultOfName_51 (by decide) rfl ?_
  refine WP_iload_n dX3_faultOfName_53 rfl ?_
  refine WQ_bipush (110) (110) dX3_faultOfName_54 rfl rfl (fun v5668 hv5668 => ?_)
  refine WQ_icmp_eq 65 dX3_faultOfName_56 rfl (fun c5668 => False.elim (by omega)) (fun c5668 => ?_)
  refine WP_iload_n dX3_faultOfName_59 rfl ?_
  refine WQ_bipush (109) (109) dX3_faultOfName_60 rfl rfl (fun v5670 hv5670 => ?_)
  refine WQ_icmp_ne 98 dX3_faultOfName_62 rfl (fun c5670 => ?_) (fun c5670 => False.elim (by omega))
  refine WP_iload dX3_faultOfName_98 rfl ?_
  refine WQ_iconst (-1) (-1) dX3_faultOfName_100 rfl rfl (fun v5672 hv5672 => ?_)
  refine WQ_icmp_ne 106 dX3_faultOfName_101 rfl (fun c5672 => ?_) (fun c5672 => ?_)
  · refine WP_aload_n dX3_faultOfName_106 rfl ?_
    refine WP_getr dX3_faultOfName_107 fX3_9 rfl (lyx_is hy 3 3 rfl) (rfx hr 3 3 4 (by decide)) ?_
    refine WP_iload_n dX3_faultOfName_110 rfl ?_
    refine WP_iload dX3_faultOfName_111 rfl ?_
    refine WQ_iast dX3_faultOfName_113 (lyx_is hy 4 13 rfl) (lyx_n hy 4 5 rfl) (by omega) (by omega) (fun I5674 fI5674 => ?_)
    have eI5674 := fI5674
    rw [cl (x := ix) (n := 0) (by omega)] at eI5674
    clear fI5674
    have hI5674 : XI g n L I5674 := by rw [eI5674]; exact (xi_f hy hI (c := 4) (0) (0) (1000) (by decide) (Or.inl (by decide)) (by decide) (by omega) (by omega))
    have e5675 : I5674 (ad g 1) 1 = L := by rw [eI5674, pp_ne _ _ (Or.inl (lyx_ne hy (by decide) (by decide) (by decide)))]; exact e5656
    have e5676 : I5674 (ad g 6) 1 = w5658 := by rw [eI5674, pp_ne _ _ (Or.inl (lyx_ne hy (by decide) (by decide) (by decide)))]; exact ew5658
    have e5677 : I5674 (ad g 6) 2 = w5659 := by rw [eI5674, pp_ne _ _ (Or.inl (lyx_ne hy (by decide) (by decide) (by decide)))]; exact ew5659
    have e5678 : I5674 (ad g 4) 0 = v5667 := by rw [eI5674, pp_self]
    clear eI5674
    refine WP_iload_n dX3_faultOfName_114 rfl ?_
    refine WQ_bipush (7) (7) dX3_faultOfName_115 rfl rfl (fun v5679 hv5679 => ?_)
    refine WQ_icmp_ne 137 dX3_faultOfName_117 rfl (fun c5679 => ?_) (fun c5679 => False.elim (by omega))
    refine WQ_iconst (0) (0) dX3_faultOfName_137 rfl rfl (fun v5681 hv5681 => ?_)
    exact WP_iret dX3_faultOfName_138 rfl ⟨⟨hI5674, rfl, ⟨trivial, (by rw [e5676, ew5658] <;> exact (eq32 _ _).mpr (by omega)), (by rw [e5677, ew5659] <;> exact (eq32 _ _).mpr (by omega))⟩⟩, _, rfl, by omega, by omega, by (try rw [e5678]); omega⟩
  · refine WQ_iconst (5) (5) dX3_faultOfName_104 rfl rfl (fun v5682 hv5682 => ?_)
    obtain ⟨w5683, ew5683⟩ : ∃ w : Int32, I (ad g 4) 0 = w := ⟨_, rfl⟩
    have bw5683 := BT_get hI.1 4 0 5 (0) (0) (1000) (by decide) 0 (by decide) (by decide)
    rw [ew5683] at bw5683
    exact WP_iret dX3_faultOfName_105 rfl ⟨⟨hI, rfl, ⟨trivial, rfl, rfl⟩⟩, _, rfl, by omega, by omega, by (try rw [ew5683]); omega⟩
set_option maxHeartbeats 4000000 in
set_option maxRecDepth 100000 in
theorem sx_part_6_5_1 {g : GG} {n : Int} {L : Int32} (hy : LyX g)  {I : pI} {J : pJ} {R : pR} (hr : RfX g R) (hI : XI g n L I) (pa : Int32) (cz : Int32) (ix : Int32) (pa_lo : 68 ≤ pa.toInt) (pa_hi : pa.toInt ≤ 68) (cz_lo : 5 ≤ cz.toInt) (cz_hi : cz.toInt ≤ 5) (ix_lo : 1 ≤ ix.toInt) (ix_hi : ix.toInt ≤ 1) (hb : (I (ad g 4) 0).toInt ≤ 3) : SP g mX3_faultOfNumber [.ref (ad g 3), .int pa, .int cz, .int ix, .ref (ad g 6)] I J R (fun r I' J' R' => (XI g n L I' ∧ R' = R ∧ True ∧ I' (ad g 4) 0 = I (ad g 4) 0 ∧ I' (ad g 6) 1 = I (ad g 6) 1 ∧ I' (ad g 6) 2 = I (ad g 6) 2) ∧ ∃ v : Int32, r = some (.int v) ∧ 0 ≤ v.toInt ∧ v.toInt ≤ 5 ∧ (v.toInt = 0 → (I' (ad g 4) 1).toInt ≤ 6)) := by
  refine SP_of ⟨by decide, rfl⟩ (Nat.le_of_ble_eq_true rfl) ?_
  have e5684 : I (ad g 1) 1 = L := hI.2
  have b5685 := BT_get hI.1 1 1 2 (0) (0) (900) (by decide) 1 (by decide) (by decide)
  rw [e5684] at b5685
  obtain ⟨w5686, ew5686⟩ : ∃ w : Int32, I (ad g 4) 0 = w := ⟨_, rfl⟩
  have bw5686 := BT_get hI.1 4 0 5 (0) (0) (1000) (by decide) 0 (by decide) (by decide)
  rw [ew5686] at bw5686
  obtain ⟨w5687, ew5687⟩ : ∃ w : Int32, I (ad g 6) 1 = w := ⟨_, rfl⟩
  have bw5687 := BT_get hI.1 6 1 2 (0) (0) (4) (by decide) 1 (by decide) (by decide)
  rw [ew5687] at bw5687
  obtain ⟨w5688, ew5688⟩ : ∃ w : Int32, I (ad g 6) 2 = w := ⟨_, rfl⟩
  have bw5688 := BT_get hI.1 6 2 3 (0) (0) (3) (by decide) 2 (by decide) (by decide)
  rw [ew5688] at bw5688
  rw [ew5686] at hb
  refine WP_aload_n dX3_faultOfNumber_0 rfl ?_
  refine WP_getr dX3_faultOfNumber_1 fX3_15 rfl (lyx_is hy 3 3 rfl) (rfx hr 3 2 1 (by decide)) ?_
  refine WQ_getiu dX3_faultOfNumber_4 fX3_118 rfl (lyx_is hy 1 5 rfl) (fun v5689 ev5689 => ?_)
  refine WP_istore (ls' := [(0, _), (1, _), (2, _), (3, _), (4, _), (5, _)]) dX3_faultOfNumber_7 (by decide) rfl ?_
  refine WP_iload dX3_faultOfNumber_9 rfl ?_
  refine WP_iload_n dX3_faultOfNumber_11 rfl ?_
  refine WP_callS1 dX3_faultOfNumber_12 ⟨⟨⟨by decide, by decide⟩, zX3_leastOf⟩, lX3_121, tX3_leastOf⟩ (sx_leastOf hy hr hI pa ) (Nat.le_of_ble_eq_true rfl) ?_
  intro r Ia Ja Ra hq
  obtain ⟨⟨ea, eb, ec⟩, v5690, rfl, av5690, bv5690⟩ := hq
  show WP _ _ _ _ (.int _ :: _) _ _ _ _
  rw [ea, eb, ec]
  clear ea eb ec Ia Ja Ra
  refine WQ_icmp_lt 27 dX3_faultOfNumber_15 rfl (fun c5690 => ?_) (fun c5690 => ?_)
  · refine WQ_iconst (2) (2) dX3_faultOfNumber_27 rfl rfl (fun v5692 hv5692 => ?_)
    obtain ⟨w5693, ew5693⟩ : ∃ w : Int32, I (ad g 4) 1 = w := ⟨_, rfl⟩
    have bw5693 := BT_get hI.1 4 0 5 (0) (0) (1000) (by decide) 1 (by decide) (by decide)
    rw [ew5693] at bw5693
    exact WP_iret dX3_faultOfNumber_28 rfl ⟨⟨hI, rfl, ⟨trivial, rfl, rfl, rfl⟩⟩, _, rfl, by omega, by omega, by (try rw [ew5693]); omega⟩
  · refine WP_iload dX3_faultOfNumber_18 rfl ?_
    refine WP_iload_n dX3_faultOfNumber_20 rfl ?_
    refine WP_callS1 dX3_faultOfNumber_21 ⟨⟨⟨by decide, by decide⟩, zX3_mostOf⟩, lX3_125, tX3_mostOf⟩ (sx_mostOf hy hr hI pa ) (Nat.le_of_ble_eq_true rfl) ?_
    intro r Ia Ja Ra hq
    obtain ⟨⟨ea, eb, ec⟩, v5694, rfl, av5694, bv5694, cv5694⟩ := hq
    show WP _ _ _ _ (.int _ :: _) _ _ _ _
    rw [ea, eb, ec]
    clear ea eb ec Ia Ja Ra
    refine WQ_icmp_le 29 dX3_faultOfNumber_24 rfl (fun c5694 => ?_) (fun c5694 => ?_)
    · refine WP_aload_n dX3_faultOfNumber_29 rfl ?_
      refine WP_getr dX3_faultOfNumber_30 fX3_9 rfl (lyx_is hy 3 3 rfl) (rfx hr 3 3 4 (by decide)) ?_
      refine WP_iload_n dX3_faultOfNumber_33 rfl ?_
      refine WP_iload dX3_faultOfNumber_34 rfl ?_
      refine WQ_iast dX3_faultOfNumber_36 (lyx_is hy 4 13 rfl) (lyx_n hy 4 5 rfl) (by omega) (by omega) (fun I5696 fI5696 => ?_)
      have eI5696 := fI5696
      rw [cl (x := ix) (n := 1) (by omega)] at eI5696
      clear fI5696
      have hI5696 : XI g n L I5696 := by rw [eI5696]; exact (xi_f hy hI (c := 4) (0) (0) (1000) (by decide) (Or.inl (by decide)) (by decide) (by omega) (by omega))
      have e5697 : I5696 (ad g 1) 1 = L := by rw [eI5696, pp_ne _ _ (Or.inl (lyx_ne hy (by decide) (by decide) (by decide)))]; exact e5684
      have e5698 : I5696 (ad g 4) 0 = w5686 := by rw [eI5696, pp_ne _ _ (Or.inr (by decide))]; exact ew5686
      have e5699 : I5696 (ad g 6) 1 = w5687 := by rw [eI5696, pp_ne _ _ (Or.inl (lyx_ne hy (by decide) (by decide) (by decide)))]; exact ew5687
      have e5700 : I5696 (ad g 6) 2 = w5688 := by rw [eI5696, pp_ne _ _ (Or.inl (lyx_ne hy (by decide) (by decide) (by decide)))]; exact ew5688
      have e5701 : I5696 (ad g 1) 4 = v5689 := by rw [eI5696, pp_ne _ _ (Or.inl (lyx_ne hy (by decide) (by decide) (by decide)))]; exact ev5689
      have e5702 : I5696 (ad g 4) 1 = v5689 := by rw [eI5696, pp_self]
      clear eI5696
      refine WP_iload_n dX3_faultOfNumber_37 rfl ?_
      refine WQ_bipush (68) (68) dX3_faultOfNumber_38 rfl rfl (fun v5703 hv5703 => ?_)
      refine WQ_icmp_eq 45 dX3_faultOfNumber_40 rfl (fun c5703 => ?_) (fun c5703 => False.elim (by omega))
      refine WP_aload dX3_faultOfNumber_45 rfl ?_
      refine WP_iload_n dX3_faultOfNumber_47 rfl ?_
      refine WP_iload_n dX3_faultOfNumber_48 rfl ?_
      refine WQ_if_ne 56 dX3_faultOfNumber_49 rfl (fun c5704 => ?_) (fun c5704 => False.elim (by omega))
      refine WP_aload_n dX3_faultOfNumber_56 rfl ?_
      refine WP_getr dX3_faultOfNumber_57 fX3_9 rfl (lyx_is hy 3 3 rfl) (rfx hr 3 3 4 (by decide)) ?_
      refine WQ_iconst (0) (0) dX3_faultOfNumber_60 rfl rfl (fun v5706 hv5706 => ?_)
      refine WQ_ialdm (z := 0) dX3_faultOfNumber_61 (lyx_is hy 4 13 rfl) (lyx_n hy 4 5 rfl) hv5706 (by decide) e5698 ?_
      refine WP_iload dX3_faultOfNumber_62 rfl ?_
      refine WP_callV3 (k := 7) dX3_faultOfNumber_64 ⟨⟨⟨by decide, by decide⟩, zX7_isTold⟩, lX3_114, by decide, rfl, vX7_isTold.1, vX7_isTold.2⟩ (lyx_is hy 6 7 rfl) (sx_isTold_6 hy hr hI5696 cz w5686 v5689 (by omega) (by omega) (by omega) (by omega) ) (Nat.le_of_ble_eq_true rfl) ?_
      intro r Ia Ja Ra hq
      obtain ⟨⟨ea, eb, ec⟩, v5708, rfl, av5708, bv5708⟩ := hq
      show WP _ _ _ _ (.int _ :: _) _ _ _ _
      rw [ea, eb, ec]
      clear ea eb ec Ia Ja Ra
      refine WQ_if_eq 74 dX3_faultOfNumber_67 rfl (fun c5708 => ?_) (fun c5708 => ?_)
      · refine WQ_iconst (0) (0) dX3_faultOfNumber_74 rfl rfl (fun v5710 hv5710 => ?_)
        exact WP_iret dX3_faultOfNumber_75 rfl ⟨⟨hI5696, rfl, ⟨trivial, (by rw [e5698, ew5686] <;> exact (eq32 _ _).mpr (by omega)), (by rw [e5699, ew5687] <;> exact (eq32 _ _).mpr (by omega)), (by rw [e5700, ew5688] <;> exact (eq32 _ _).mpr (by omega))⟩⟩, _, rfl, by omega, by omega, by (try rw [e5702]); omega⟩
      · refine WQ_iconst (3) (3) dX3_faultOfNumber_70 rfl rfl (fun v5711 hv5711 => ?_)
        refine WP_goto 75 dX3_faultOfNumber_71 rfl ?_
        exact WP_iret dX3_faultOfNumber_75 rfl ⟨⟨hI5696, rfl, ⟨trivial, (by rw [e5698, ew5686] <;> exact (eq32 _ _).mpr (by omega)), (by rw [e5699, ew5687] <;> exact (eq32 _ _).mpr (by omega)), (by rw [e5700, ew5688] <;> exact (eq32 _ _).mpr (by omega))⟩⟩, _, rfl, by omega, by omega, by (try rw [e5702]); omega⟩
    · refine WQ_iconst (2) (2) dX3_faultOfNumber_27 rfl rfl (fun v5712 hv5712 => ?_)
      obtain ⟨w5713, ew5713⟩ : ∃ w : Int32, I (ad g 4) 1 = w := ⟨_, rfl⟩
      have bw5713 := BT_get hI.1 4 0 5 (0) (0) (1000) (by decide) 1 (by decide) (by decide)
      rw [ew5713] at bw5713
      exact WP_iret dX3_faultOfNumber_28 rfl ⟨⟨hI, rfl, ⟨trivial, rfl, rfl, rfl⟩⟩, _, rfl, by omega, by omega, by (try rw [ew5713]); omega⟩
set_option maxHeartbeats 4000000 in
set_option maxRecDepth 100000 in
theorem sx_part_6_5_2 {g : GG} {n : Int} {L : Int32} (hy : LyX g)  {I : pI} {J : pJ} {R : pR} (hr : RfX g R) (hI : XI g n L I) (pa : Int32) (cz : Int32) (ix : Int32) (pa_lo : 77 ≤ pa.toInt) (pa_hi : pa.toInt ≤ 77) (cz_lo : 5 ≤ cz.toInt) (cz_hi : cz.toInt ≤ 5) (ix_lo : 2 ≤ ix.toInt) (ix_hi : ix.toInt ≤ 2) : SP g mX3_faultOfNumber [.ref (ad g 3), .int pa, .int cz, .int ix, .ref (ad g 6)] I J R (fun r I' J' R' => (XI g n L I' ∧ R' = R ∧ True ∧ I' (ad g 4) 0 = I (ad g 4) 0 ∧ I' (ad g 4) 1 = I (ad g 4) 1 ∧ I' (ad g 6) 1 = I (ad g 6) 1 ∧ I' (ad g 6) 2 = I (ad g 6) 2) ∧ ∃ v : Int32, r = some (.int v) ∧ 0 ≤ v.toInt ∧ v.toInt ≤ 5 ∧ (v.toInt = 0 → (I' (ad g 4) 2).toInt ≤ 999)) := by
  refine SP_of ⟨by decide, rfl⟩ (Nat.le_of_ble_eq_true rfl) ?_
  have e5714 : I (ad g 1) 1 = L := hI.2
  have b5715 := BT_get hI.1 1 1 2 (0) (0) (900) (by decide) 1 (by decide) (by decide)
  rw [e5714] at b5715
  obtain ⟨w5716, ew5716⟩ : ∃ w : Int32, I (ad g 4) 0 = w := ⟨_, rfl⟩
  have bw5716 := BT_get hI.1 4 0 5 (0) (0) (1000) (by decide) 0 (by decide) (by decide)
  rw [ew5716] at bw5716
  obtain ⟨w5717, ew5717⟩ : ∃ w : Int32, I (ad g 4) 1 = w := ⟨_, rfl⟩
  have bw5717 := BT_get hI.1 4 0 5 (0) (0) (1000) (by decide) 1 (by decide) (by decide)
  rw [ew5717] at bw5717
  obtain ⟨w5718, ew5718⟩ : ∃ w : Int32, I (ad g 6) 1 = w := ⟨_, rfl⟩
  have bw5718 := BT_get hI.1 6 1 2 (0) (0) (4) (by decide) 1 (by decide) (by decide)
  rw [ew5718] at bw5718
  obtain ⟨w5719, ew5719⟩ : ∃ w : Int32, I (ad g 6) 2 = w := ⟨_, rfl⟩
  have bw5719 := BT_get hI.1 6 2 3 (0) (0) (3) (by decide) 2 (by decide) (by decide)
  rw [ew5719] at bw5719
  refine WP_aload_n dX3_faultOfNumber_0 rfl ?_
  refine WP_getr dX3_faultOfNumber_1 fX3_15 rfl (lyx_is hy 3 3 rfl) (rfx hr 3 2 1 (by decide)) ?_
  refine WQ_getiu dX3_faultOfNumber_4 fX3_118 rfl (lyx_is hy 1 5 rfl) (fun v5720 ev5720 => ?_)
  refine WP_istore (ls' := [(0, _), (1, _), (2, _), (3, _), (4, _), (5, _)]) dX3_faultOfNumber_7 (by decide) rfl ?_
  refine WP_iload dX3_faultOfNumber_9 rfl ?_
  refine WP_iload_n dX3_faultOfNumber_11 rfl ?_
  refine WP_callS1 dX3_faultOfNumber_12 ⟨⟨⟨by decide, by decide⟩, zX3_leastOf⟩, lX3_121, tX3_leastOf⟩ (sx_leastOf hy hr hI pa ) (Nat.le_of_ble_eq_true rfl) ?_
  intro r Ia Ja Ra hq
  obtain ⟨⟨ea, eb, ec⟩, v5721, rfl, av5721, bv5721⟩ := hq
  show WP _ _ _ _ (.int _ :: _) _ _ _ _
  rw [ea, eb, ec]
  clear ea eb ec Ia Ja Ra
  refine WQ_icmp_lt 27 dX3_faultOfNumber_15 rfl (fun c5721 => ?_) (fun c5721 => ?_)
  · refine WQ_iconst (2) (2) dX3_faultOfNumber_27 rfl rfl (fun v5723 hv5723 => ?_)
    obtain ⟨w5724, ew5724⟩ : ∃ w : Int32, I (ad g 4) 2 = w := ⟨_, rfl⟩
    have bw5724 := BT_get hI.1 4 0 5 (0) (0) (1000) (by decide) 2 (by decide) (by decide)
    rw [ew5724] at bw5724
    exact WP_iret dX3_faultOfNumber_28 rfl ⟨⟨hI, rfl, ⟨trivial, rfl, rfl, rfl, rfl⟩⟩, _, rfl, by omega, by omega, by (try rw [ew5724]); omega⟩
  · refine WP_iload dX3_faultOfNumber_18 rfl ?_
    refine WP_iload_n dX3_faultOfNumber_20 rfl ?_
    refine WP_callS1 dX3_faultOfNumber_21 ⟨⟨⟨by decide, by decide⟩, zX3_mostOf⟩, lX3_125, tX3_mostOf⟩ (sx_mostOf hy hr hI pa ) (Nat.le_of_ble_eq_true rfl) ?_
    intro r Ia Ja Ra hq
    obtain ⟨⟨ea, eb, ec⟩, v5725, rfl, av5725, bv5725, cv5725⟩ := hq
    show WP _ _ _ _ (.int _ :: _) _ _ _ _
    rw [ea, eb, ec]
    clear ea eb ec Ia Ja Ra
    refine WQ_icmp_le 29 dX3_faultOfNumber_24 rfl (fun c5725 => ?_) (fun c5725 => ?_)
    · refine WP_aload_n dX3_faultOfNumber_29 rfl ?_
      refine WP_getr dX3_faultOfNumber_30 fX3_9 rfl (lyx_is hy 3 3 rfl) (rfx hr 3 3 4 (by decide)) ?_
      refine WP_iload_n dX3_faultOfNumber_33 rfl ?_
      refine WP_iload dX3_faultOfNumber_34 rfl ?_
      refine WQ_iast dX3_faultOfNumber_36 (lyx_is hy 4 13 rfl) (lyx_n hy 4 5 rfl) (by omega) (by omega) (fun I5727 fI5727 => ?_)
      have eI5727 := fI5727
      rw [cl (x := ix) (n := 2) (by omega)] at eI5727
      clear fI5727
      have hI5727 : XI g n L I5727 := by rw [eI5727]; exact (xi_f hy hI (c := 4) (0) (0) (1000) (by decide) (Or.inl (by decide)) (by decide) (by omega) (by omega))
      have e5728 : I5727 (ad g 1) 1 = L := by rw [eI5727, pp_ne _ _ (Or.inl (lyx_ne hy (by decide) (by decide) (by decide)))]; exact e5714
      have e5729 : I5727 (ad g 4) 0 = w5716 := by rw [eI5727, pp_ne _ _ (Or.inr (by decide))]; exact ew5716
      have e5730 : I5727 (ad g 4) 1 = w5717 := by rw [eI5727, pp_ne _ _ (Or.inr (by decide))]; exact ew5717
      have e5731 : I5727 (ad g 6) 1 = w5718 := by rw [eI5727, pp_ne _ _ (Or.inl (lyx_ne hy (by decide) (by decide) (by decide)))]; exact ew5718
      have e5732 : I5727 (ad g 6) 2 = w5719 := by rw [eI5727, pp_ne _ _ (Or.inl (lyx_ne hy (by decide) (by decide) (by decide)))]; exact ew5719
      have e5733 : I5727 (ad g 1) 4 = v5720 := by rw [eI5727, pp_ne _ _ (Or.inl (lyx_ne hy (by decide) (by decide) (by decide)))]; exact ev5720
      have e5734 : I5727 (ad g 4) 2 = v5720 := by rw [eI5727, pp_self]
      clear eI5727
      refine WP_iload_n dX3_faultOfNumber_37 rfl ?_
      refine WQ_bipush (68) (68) dX3_faultOfNumber_38 rfl rfl (fun v5735 hv5735 => ?_)
      refine WQ_icmp_eq 45 dX3_faultOfNumber_40 rfl (fun c5735 => False.elim (by omega)) (fun c5735 => ?_)
      refine WQ_iconst (0) (0) dX3_faultOfNumber_43 rfl rfl (fun v5737 hv5737 => ?_)
      exact WP_iret dX3_faultOfNumber_44 rfl ⟨⟨hI5727, rfl, ⟨trivial, (by rw [e5729, ew5716] <;> exact (eq32 _ _).mpr (by omega)), (by rw [e5730, ew5717] <;> exact (eq32 _ _).mpr (by omega)), (by rw [e5731, ew5718] <;> exact (eq32 _ _).mpr (by omega)), (by rw [e5732, ew5719] <;> exact (eq32 _ _).mpr (by omega))⟩⟩, _, rfl, by omega, by omega, by (try rw [e5734]); omega⟩
    · refine WQ_iconst (2) (2) dX3_faultOfNumber_27 rfl rfl (fun v5738 hv5738 => ?_)
      obtain ⟨w5739, ew5739⟩ : ∃ w : Int32, I (ad g 4) 2 = w := ⟨_, rfl⟩
      have bw5739 := BT_get hI.1 4 0 5 (0) (0) (1000) (by decide) 2 (by decide) (by decide)
      rw [ew5739] at bw5739
      exact WP_iret dX3_faultOfNumber_28 rfl ⟨⟨hI, rfl, ⟨trivial, rfl, rfl, rfl, rfl⟩⟩, _, rfl, by omega, by omega, by (try rw [ew5739]); omega⟩
set_option maxHeartbeats 4000000 in
set_option maxRecDepth 100000 in
theorem sx_part_6_6_0 {g : GG} {n : Int} {L : Int32} (hy : LyX g)  {I : pI} {J : pJ} {R : pR} (hr : RfX g R) (hI : XI g n L I) (pa : Int32) (cz : Int32) (ix : Int32) (pa_lo : 115 ≤ pa.toInt) (pa_hi : pa.toInt ≤ 115) (cz_lo : 6 ≤ cz.toInt) (cz_hi : cz.toInt ≤ 6) (ix_lo : 0 ≤ ix.toInt) (ix_hi : ix.toInt ≤ 0) : SP g mX3_faultOfName [.ref (ad g 3), .int pa, .int cz, .int ix, .ref (ad g 6)] I J R (fun r I' J' R' => (XI g n L I' ∧ R' = R ∧ True ∧ I' (ad g 6) 1 = I (ad g 6) 1 ∧ I' (ad g 6) 2 = I (ad g 6) 2) ∧ ∃ v : Int32, r = some (.int v) ∧ 0 ≤ v.toInt ∧ v.toInt ≤ 5 ∧ (v.toInt = 0 → (I' (ad g 4) 0).toInt ≤ 3)) := by
  refine SP_of ⟨by decide, rfl⟩ (Nat.le_of_ble_eq_true rfl) ?_
  have e5740 : I (ad g 1) 1 = L := hI.2
  have b5741 := BT_get hI.1 1 1 2 (0) (0) (900) (by decide) 1 (by decide) (by decide)
  rw [e5740] at b5741
  obtain ⟨w5742, ew5742⟩ : ∃ w : Int32, I (ad g 6) 1 = w := ⟨_, rfl⟩
  have bw5742 := BT_get hI.1 6 1 2 (0) (0) (4) (by decide) 1 (by decide) (by decide)
  rw [ew5742] at bw5742
  obtain ⟨w5743, ew5743⟩ : ∃ w : Int32, I (ad g 6) 2 = w := ⟨_, rfl⟩
  have bw5743 := BT_get hI.1 6 2 3 (0) (0) (3) (by decide) 2 (by decide) (by decide)
  rw [ew5743] at bw5743
  refine WP_iload_n dX3_faultOfName_0 rfl ?_
  refine WQ_bipush (115) (115) dX3_faultOfName_1 rfl rfl (fun v5744 hv5744 => ?_)
  refine WQ_icmp_eq 12 dX3_faultOfName_3 rfl (fun c5744 => ?_) (fun c5744 => False.elim (by omega))
  refine WQ_iconst (1) (1) dX3_faultOfName_12 rfl rfl (fun v5746 hv5746 => ?_)
  refine WP_goto 17 dX3_faultOfName_13 rfl ?_
  refine WP_istore (ls' := [(0, _), (1, _), (2, _), (3, _), (4, _), (5, _)]) dX3_faultOfName_17 (by decide) rfl ?_
  refine WP_iload dX3_faultOfName_19 rfl ?_
  refine WQ_if_eq 39 dX3_faultOfName_21 rfl (fun c5746 => False.elim (by omega)) (fun c5746 => ?_)
  refine WP_aload dX3_faultOfName_24 rfl ?_
  refine WP_aload_n dX3_faultOfName_26 rfl ?_
  refine WP_getr dX3_faultOfName_27 fX3_15 rfl (lyx_is hy 3 3 rfl) (rfx hr 3 2 1 (by decide)) ?_
  refine WQ_getl dX3_faultOfName_30 fX3_80 rfl (lyx_is hy 1 5 rfl) (fun l5748 el5748 => ?_)
  refine WP_callV1 (k := 7) dX3_faultOfName_33 ⟨⟨⟨by decide, by decide⟩, zX7_sortNamed⟩, lX3_103, by decide, rfl, vX7_sortNamed.1, vX7_sortNamed.2⟩ (lyx_is hy 6 7 rfl) (sx_sortNamed_6 hy hr hI l5748 ) (Nat.le_of_ble_eq_true rfl) ?_
  intro r Ia Ja Ra hq
  obtain ⟨⟨ea, eb, ec⟩, v5749, rfl, av5749, bv5749⟩ := hq
  show WP _ _ _ _ (.int _ :: _) _ _ _ _
  rw [ea, eb, ec]
  clear ea eb ec Ia Ja Ra
  refine WP_goto 51 dX3_faultOfName_36 rfl ?_
  refine WP_istore (ls' := [(0, _), (1, _), (2, _), (3, _), (4, _), (5, _), (6, _)]) dX3_faultOfName_51 (by decide) rfl ?_
  refine WP_iload_n dX3_faultOfName_53 rfl ?_
  refine WQ_bipush (110) (110) dX3_faultOfName_54 rfl rfl (fun v5750 hv5750 => ?_)
  refine WQ_icmp_eq 65 dX3_faultOfName_56 rfl (fun c5750 => False.elim (by omega)) (fun c5750 => ?_)
  refine WP_iload_n dX3_faultOfName_59 rfl ?_
  refine WQ_bipush (109) (109) dX3_faultOfName_60 rfl rfl (fun v5752 hv5752 => ?_)
  refine WQ_icmp_ne 98 dX3_faultOfName_62 rfl (fun c5752 => ?_) (fun c5752 => False.elim (by omega))
  refine WP_iload dX3_faultOfName_98 rfl ?_
  refine WQ_iconst (-1) (-1) dX3_faultOfName_100 rfl rfl (fun v5754 hv5754 => ?_)
  refine WQ_icmp_ne 106 dX3_faultOfName_101 rfl (fun c5754 => ?_) (fun c5754 => ?_)
  · refine WP_aload_n dX3_faultOfName_106 rfl ?_
    refine WP_getr dX3_faultOfName_107 fX3_9 rfl (lyx_is hy 3 3 rfl) (rfx hr 3 3 4 (by decide)) ?_
    refine WP_iload_n dX3_faultOfName_110 rfl ?_
    refine WP_iload dX3_faultOfName_111 rfl ?_
    refine WQ_iast dX3_faultOfName_113 (lyx_is hy 4 13 rfl) (lyx_n hy 4 5 rfl) (by omega) (by omega) (fun I5756 fI5756 => ?_)
    have eI5756 := fI5756
    rw [cl (x := ix) (n := 0) (by omega)] at eI5756
    clear fI5756
    have hI5756 : XI g n L I5756 := by rw [eI5756]; exact (xi_f hy hI (c := 4) (0) (0) (1000) (by decide) (Or.inl (by decide)) (by decide) (by omega) (by omega))
    have e5757 : I5756 (ad g 1) 1 = L := by rw [eI5756, pp_ne _ _ (Or.inl (lyx_ne hy (by decide) (by decide) (by decide)))]; exact e5740
    have e5758 : I5756 (ad g 6) 1 = w5742 := by rw [eI5756, pp_ne _ _ (Or.inl (lyx_ne hy (by decide) (by decide) (by decide)))]; exact ew5742
    have e5759 : I5756 (ad g 6) 2 = w5743 := by rw [eI5756, pp_ne _ _ (Or.inl (lyx_ne hy (by decide) (by decide) (by decide)))]; exact ew5743
    have e5760 : I5756 (ad g 4) 0 = v5749 := by rw [eI5756, pp_self]
    clear eI5756
    refine WP_iload_n dX3_faultOfName_114 rfl ?_
    refine WQ_bipush (7) (7) dX3_faultOfName_115 rfl rfl (fun v5761 hv5761 => ?_)
    refine WQ_icmp_ne 137 dX3_faultOfName_117 rfl (fun c5761 => ?_) (fun c5761 => False.elim (by omega))
    refine WQ_iconst (0) (0) dX3_faultOfName_137 rfl rfl (fun v5763 hv5763 => ?_)
    exact WP_iret dX3_faultOfName_138 rfl ⟨⟨hI5756, rfl, ⟨trivial, (by rw [e5758, ew5742] <;> exact (eq32 _ _).mpr (by omega)), (by rw [e5759, ew5743] <;> exact (eq32 _ _).mpr (by omega))⟩⟩, _, rfl, by omega, by omega, by (try rw [e5760]); omega⟩
  · refine WQ_iconst (5) (5) dX3_faultOfName_104 rfl rfl (fun v5764 hv5764 => ?_)
    obtain ⟨w5765, ew5765⟩ : ∃ w : Int32, I (ad g 4) 0 = w := ⟨_, rfl⟩
    have bw5765 := BT_get hI.1 4 0 5 (0) (0) (1000) (by decide) 0 (by decide) (by decide)
    rw [ew5765] at bw5765
    exact WP_iret dX3_faultOfName_105 rfl ⟨⟨hI, rfl, ⟨trivial, rfl, rfl⟩⟩, _, rfl, by omega, by omega, by (try rw [ew5765]); omega⟩
set_option maxHeartbeats 4000000 in
set_option maxRecDepth 100000 in
theorem sx_part_6_6_1 {g : GG} {n : Int} {L : Int32} (hy : LyX g)  {I : pI} {J : pJ} {R : pR} (hr : RfX g R) (hI : XI g n L I) (pa : Int32) (cz : Int32) (ix : Int32) (pa_lo : 116 ≤ pa.toInt) (pa_hi : pa.toInt ≤ 116) (cz_lo : 6 ≤ cz.toInt) (cz_hi : cz.toInt ≤ 6) (ix_lo : 1 ≤ ix.toInt) (ix_hi : ix.toInt ≤ 1) : SP g mX3_faultOfName [.ref (ad g 3), .int pa, .int cz, .int ix, .ref (ad g 6)] I J R (fun r I' J' R' => (XI g n L I' ∧ R' = R ∧ True ∧ I' (ad g 4) 0 = I (ad g 4) 0 ∧ I' (ad g 6) 1 = I (ad g 6) 1 ∧ I' (ad g 6) 2 = I (ad g 6) 2) ∧ ∃ v : Int32, r = some (.int v) ∧ 0 ≤ v.toInt ∧ v.toInt ≤ 5 ∧ (v.toInt = 0 → (I' (ad g 4) 1).toInt ≤ 2)) := by
  refine SP_of ⟨by decide, rfl⟩ (Nat.le_of_ble_eq_true rfl) ?_
  have e5766 : I (ad g 1) 1 = L := hI.2
  have b5767 := BT_get hI.1 1 1 2 (0) (0) (900) (by decide) 1 (by decide) (by decide)
  rw [e5766] at b5767
  obtain ⟨w5768, ew5768⟩ : ∃ w : Int32, I (ad g 4) 0 = w := ⟨_, rfl⟩
  have bw5768 := BT_get hI.1 4 0 5 (0) (0) (1000) (by decide) 0 (by decide) (by decide)
  rw [ew5768] at bw5768
  obtain ⟨w5769, ew5769⟩ : ∃ w : Int32, I (ad g 6) 1 = w := ⟨_, rfl⟩
  have bw5769 := BT_get hI.1 6 1 2 (0) (0) (4) (by decide) 1 (by decide) (by decide)
  rw [ew5769] at bw5769
  obtain ⟨w5770, ew5770⟩ : ∃ w : Int32, I (ad g 6) 2 = w := ⟨_, rfl⟩
  have bw5770 := BT_get hI.1 6 2 3 (0) (0) (3) (by decide) 2 (by decide) (by decide)
  rw [ew5770] at bw5770
  refine WP_iload_n dX3_faultOfName_0 rfl ?_
  refine WQ_bipush (115) (115) dX3_faultOfName_1 rfl rfl (fun v5771 hv5771 => ?_)
  refine WQ_icmp_eq 12 dX3_faultOfName_3 rfl (fun c5771 => False.elim (by omega)) (fun c5771 => ?_)
  refine WP_iload_n dX3_faultOfName_6 rfl ?_
  refine WQ_bipush (110) (110) dX3_faultOfName_7 rfl rfl (fun v5773 hv5773 => ?_)
  refine WQ_icmp_ne 16 dX3_faultOfName_9 rfl (fun c5773 => ?_) (fun c5773 => False.elim (by omega))
  refine WQ_iconst (0) (0) dX3_faultOfName_16 rfl rfl (fun v5775 hv5775 => ?_)
  refine WP_istore (ls' := [(0, _), (1, _), (2, _), (3, _), (4, _), (5, _)]) dX3_faultOfName_17 (by decide) rfl ?_
  refine WP_iload dX3_faultOfName_19 rfl ?_
  refine WQ_if_eq 39 dX3_faultOfName_21 rfl (fun c5775 => ?_) (fun c5775 => False.elim (by omega))
  refine WP_aload dX3_faultOfName_39 rfl ?_
  refine WP_aload_n dX3_faultOfName_41 rfl ?_
  refine WP_getr dX3_faultOfName_42 fX3_15 rfl (lyx_is hy 3 3 rfl) (rfx hr 3 2 1 (by decide)) ?_
  refine WQ_getl dX3_faultOfName_45 fX3_80 rfl (lyx_is hy 1 5 rfl) (fun l5777 el5777 => ?_)
  refine WP_callV1 (k := 7) dX3_faultOfName_48 ⟨⟨⟨by decide, by decide⟩, zX7_thingNamed⟩, lX3_107, by decide, rfl, vX7_thingNamed.1, vX7_thingNamed.2⟩ (lyx_is hy 6 7 rfl) (sx_thingNamed_6 hy hr hI l5777 ) (Nat.le_of_ble_eq_true rfl) ?_
  intro r Ia Ja Ra hq
  obtain ⟨⟨ea, eb, ec⟩, v5778, rfl, av5778, bv5778⟩ := hq
  show WP _ _ _ _ (.int _ :: _) _ _ _ _
  rw [ea, eb, ec]
  clear ea eb ec Ia Ja Ra
  refine WP_istore (ls' := [(0, _), (1, _), (2, _), (3, _), (4, _), (5, _), (6, _)]) dX3_faultOfName_51 (by decide) rfl ?_
  refine WP_iload_n dX3_faultOfName_53 rfl ?_
  refine WQ_bipush (110) (110) dX3_faultOfName_54 rfl rfl (fun v5779 hv5779 => ?_)
  refine WQ_icmp_eq 65 dX3_faultOfName_56 rfl (fun c5779 => False.elim (by omega)) (fun c5779 => ?_)
  refine WP_iload_n dX3_faultOfName_59 rfl ?_
  refine WQ_bipush (109) (109) dX3_faultOfName_60 rfl rfl (fun v5781 hv5781 => ?_)
  refine WQ_icmp_ne 98 dX3_faultOfName_62 rfl (fun c5781 => ?_) (fun c5781 => False.elim (by omega))
  refine WP_iload dX3_faultOfName_98 rfl ?_
  refine WQ_iconst (-1) (-1) dX3_faultOfName_100 rfl rfl (fun v5783 hv5783 => ?_)
  refine WQ_icmp_ne 106 dX3_faultOfName_101 rfl (fun c5783 => ?_) (fun c5783 => ?_)
  · refine WP_aload_n dX3_faultOfName_106 rfl ?_
    refine WP_getr dX3_faultOfName_107 fX3_9 rfl (lyx_is hy 3 3 rfl) (rfx hr 3 3 4 (by decide)) ?_
    refine WP_iload_n dX3_faultOfName_110 rfl ?_
    refine WP_iload dX3_faultOfName_111 rfl ?_
    refine WQ_iast dX3_faultOfName_113 (lyx_is hy 4 13 rfl) (lyx_n hy 4 5 rfl) (by omega) (by omega) (fun I5785 fI5785 => ?_)
    have eI5785 := fI5785
    rw [cl (x := ix) (n := 1) (by omega)] at eI5785
    clear fI5785
    have hI5785 : XI g n L I5785 := by rw [eI5785]; exact (xi_f hy hI (c := 4) (0) (0) (1000) (by decide) (Or.inl (by decide)) (by decide) (by omega) (by omega))
    have e5786 : I5785 (ad g 1) 1 = L := by rw [eI5785, pp_ne _ _ (Or.inl (lyx_ne hy (by decide) (by decide) (by decide)))]; exact e5766
    have e5787 : I5785 (ad g 4) 0 = w5768 := by rw [eI5785, pp_ne _ _ (Or.inr (by decide))]; exact ew5768
    have e5788 : I5785 (ad g 6) 1 = w5769 := by rw [eI5785, pp_ne _ _ (Or.inl (lyx_ne hy (by decide) (by decide) (by decide)))]; exact ew5769
    have e5789 : I5785 (ad g 6) 2 = w5770 := by rw [eI5785, pp_ne _ _ (Or.inl (lyx_ne hy (by decide) (by decide) (by decide)))]; exact ew5770
    have e5790 : I5785 (ad g 4) 1 = v5778 := by rw [eI5785, pp_self]
    clear eI5785
    refine WP_iload_n dX3_faultOfName_114 rfl ?_
    refine WQ_bipush (7) (7) dX3_faultOfName_115 rfl rfl (fun v5791 hv5791 => ?_)
    refine WQ_icmp_ne 137 dX3_faultOfName_117 rfl (fun c5791 => ?_) (fun c5791 => False.elim (by omega))
    refine WQ_iconst (0) (0) dX3_faultOfName_137 rfl rfl (fun v5793 hv5793 => ?_)
    exact WP_iret dX3_faultOfName_138 rfl ⟨⟨hI5785, rfl, ⟨trivial, (by rw [e5787, ew5768] <;> exact (eq32 _ _).mpr (by omega)), (by rw [e5788, ew5769] <;> exact (eq32 _ _).mpr (by omega)), (by rw [e5789, ew5770] <;> exact (eq32 _ _).mpr (by omega))⟩⟩, _, rfl, by omega, by omega, by (try rw [e5790]); omega⟩
  · refine WQ_iconst (5) (5) dX3_faultOfName_104 rfl rfl (fun v5794 hv5794 => ?_)
    obtain ⟨w5795, ew5795⟩ : ∃ w : Int32, I (ad g 4) 1 = w := ⟨_, rfl⟩
    have bw5795 := BT_get hI.1 4 0 5 (0) (0) (1000) (by decide) 1 (by decide) (by decide)
    rw [ew5795] at bw5795
    exact WP_iret dX3_faultOfName_105 rfl ⟨⟨hI, rfl, ⟨trivial, rfl, rfl, rfl⟩⟩, _, rfl, by omega, by omega, by (try rw [ew5795]); omega⟩
set_option maxHeartbeats 4000000 in
set_option maxRecDepth 100000 in
theorem sx_part_6_6_2 {g : GG} {n : Int} {L : Int32} (hy : LyX g)  {I : pI} {J : pJ} {R : pR} (hr : RfX g R) (hI : XI g n L I) (pa : Int32) (cz : Int32) (ix : Int32) (pa_lo : 68 ≤ pa.toInt) (pa_hi : pa.toInt ≤ 68) (cz_lo : 6 ≤ cz.toInt) (cz_hi : cz.toInt ≤ 6) (ix_lo : 2 ≤ ix.toInt) (ix_hi : ix.toInt ≤ 2) (hb : (I (ad g 4) 0).toInt ≤ 3) : SP g mX3_faultOfNumber [.ref (ad g 3), .int pa, .int cz, .int ix, .ref (ad g 6)] I J R (fun r I' J' R' => (XI g n L I' ∧ R' = R ∧ True ∧ I' (ad g 4) 0 = I (ad g 4) 0 ∧ I' (ad g 4) 1 = I (ad g 4) 1 ∧ I' (ad g 6) 1 = I (ad g 6) 1 ∧ I' (ad g 6) 2 = I (ad g 6) 2) ∧ ∃ v : Int32, r = some (.int v) ∧ 0 ≤ v.toInt ∧ v.toInt ≤ 5 ∧ (v.toInt = 0 → (I' (ad g 4) 2).toInt ≤ 6)) := by
  refine SP_of ⟨by decide, rfl⟩ (Nat.le_of_ble_eq_true rfl) ?_
  have e5796 : I (ad g 1) 1 = L := hI.2
  have b5797 := BT_get hI.1 1 1 2 (0) (0) (900) (by decide) 1 (by decide) (by decide)
  rw [e5796] at b5797
  obtain ⟨w5798, ew5798⟩ : ∃ w : Int32, I (ad g 4) 0 = w := ⟨_, rfl⟩
  have bw5798 := BT_get hI.1 4 0 5 (0) (0) (1000) (by decide) 0 (by decide) (by decide)
  rw [ew5798] at bw5798
  obtain ⟨w5799, ew5799⟩ : ∃ w : Int32, I (ad g 4) 1 = w := ⟨_, rfl⟩
  have bw5799 := BT_get hI.1 4 0 5 (0) (0) (1000) (by decide) 1 (by decide) (by decide)
  rw [ew5799] at bw5799
  obtain ⟨w5800, ew5800⟩ : ∃ w : Int32, I (ad g 6) 1 = w := ⟨_, rfl⟩
  have bw5800 := BT_get hI.1 6 1 2 (0) (0) (4) (by decide) 1 (by decide) (by decide)
  rw [ew5800] at bw5800
  obtain ⟨w5801, ew5801⟩ : ∃ w : Int32, I (ad g 6) 2 = w := ⟨_, rfl⟩
  have bw5801 := BT_get hI.1 6 2 3 (0) (0) (3) (by decide) 2 (by decide) (by decide)
  rw [ew5801] at bw5801
  rw [ew5798] at hb
  refine WP_aload_n dX3_faultOfNumber_0 rfl ?_
  refine WP_getr dX3_faultOfNumber_1 fX3_15 rfl (lyx_is hy 3 3 rfl) (rfx hr 3 2 1 (by decide)) ?_
  refine WQ_getiu dX3_faultOfNumber_4 fX3_118 rfl (lyx_is hy 1 5 rfl) (fun v5802 ev5802 => ?_)
  refine WP_istore (ls' := [(0, _), (1, _), (2, _), (3, _), (4, _), (5, _)]) dX3_faultOfNumber_7 (by decide) rfl ?_
  refine WP_iload dX3_faultOfNumber_9 rfl ?_
  refine WP_iload_n dX3_faultOfNumber_11 rfl ?_
  refine WP_callS1 dX3_faultOfNumber_12 ⟨⟨⟨by decide, by decide⟩, zX3_leastOf⟩, lX3_121, tX3_leastOf⟩ (sx_leastOf hy hr hI pa ) (Nat.le_of_ble_eq_true rfl) ?_
  intro r Ia Ja Ra hq
  obtain ⟨⟨ea, eb, ec⟩, v5803, rfl, av5803, bv5803⟩ := hq
  show WP _ _ _ _ (.int _ :: _) _ _ _ _
  rw [ea, eb, ec]
  clear ea eb ec Ia Ja Ra
  refine WQ_icmp_lt 27 dX3_faultOfNumber_15 rfl (fun c5803 => ?_) (fun c5803 => ?_)
  · refine WQ_iconst (2) (2) dX3_faultOfNumber_27 rfl rfl (fun v5805 hv5805 => ?_)
    obtain ⟨w5806, ew5806⟩ : ∃ w : Int32, I (ad g 4) 2 = w := ⟨_, rfl⟩
    have bw5806 := BT_get hI.1 4 0 5 (0) (0) (1000) (by decide) 2 (by decide) (by decide)
    rw [ew5806] at bw5806
    exact WP_iret dX3_faultOfNumber_28 rfl ⟨⟨hI, rfl, ⟨trivial, rfl, rfl, rfl, rfl⟩⟩, _, rfl, by omega, by omega, by (try rw [ew5806]); omega⟩
  · refine WP_iload dX3_faultOfNumber_18 rfl ?_
    refine WP_iload_n dX3_faultOfNumber_20 rfl ?_
    refine WP_callS1 dX3_faultOfNumber_21 ⟨⟨⟨by decide, by decide⟩, zX3_mostOf⟩, lX3_125, tX3_mostOf⟩ (sx_mostOf hy hr hI pa ) (Nat.le_of_ble_eq_true rfl) ?_
    intro r Ia Ja Ra hq
    obtain ⟨⟨ea, eb, ec⟩, v5807, rfl, av5807, bv5807, cv5807⟩ := hq
    show WP _ _ _ _ (.int _ :: _) _ _ _ _
    rw [ea, eb, ec]
    clear ea eb ec Ia Ja Ra
    refine WQ_icmp_le 29 dX3_faultOfNumber_24 rfl (fun c5807 => ?_) (fun c5807 => ?_)
    · refine WP_aload_n dX3_faultOfNumber_29 rfl ?_
      refine WP_getr dX3_faultOfNumber_30 fX3_9 rfl (lyx_is hy 3 3 rfl) (rfx hr 3 3 4 (by decide)) ?_
      refine WP_iload_n dX3_faultOfNumber_33 rfl ?_
      refine WP_iload dX3_faultOfNumber_34 rfl ?_
      refine WQ_iast dX3_faultOfNumber_36 (lyx_is hy 4 13 rfl) (lyx_n hy 4 5 rfl) (by omega) (by omega) (fun I5809 fI5809 => ?_)
      have eI5809 := fI5809
      rw [cl (x := ix) (n := 2) (by omega)] at eI5809
      clear fI5809
      have hI5809 : XI g n L I5809 := by rw [eI5809]; exact (xi_f hy hI (c := 4) (0) (0) (1000) (by decide) (Or.inl (by decide)) (by decide) (by omega) (by omega))
      have e5810 : I5809 (ad g 1) 1 = L := by rw [eI5809, pp_ne _ _ (Or.inl (lyx_ne hy (by decide) (by decide) (by decide)))]; exact e5796
      have e5811 : I5809 (ad g 4) 0 = w5798 := by rw [eI5809, pp_ne _ _ (Or.inr (by decide))]; exact ew5798
      have e5812 : I5809 (ad g 4) 1 = w5799 := by rw [eI5809, pp_ne _ _ (Or.inr (by decide))]; exact ew5799
      have e5813 : I5809 (ad g 6) 1 = w5800 := by rw [eI5809, pp_ne _ _ (Or.inl (lyx_ne hy (by decide) (by decide) (by decide)))]; exact ew5800
      have e5814 : I5809 (ad g 6) 2 = w5801 := by rw [eI5809, pp_ne _ _ (Or.inl (lyx_ne hy (by decide) (by decide) (by decide)))]; exact ew5801
      have e5815 : I5809 (ad g 1) 4 = v5802 := by rw [eI5809, pp_ne _ _ (Or.inl (lyx_ne hy (by decide) (by decide) (by decide)))]; exact ev5802
      have e5816 : I5809 (ad g 4) 2 = v5802 := by rw [eI5809, pp_self]
      clear eI5809
      refine WP_iload_n dX3_faultOfNumber_37 rfl ?_
      refine WQ_bipush (68) (68) dX3_faultOfNumber_38 rfl rfl (fun v5817 hv5817 => ?_)
      refine WQ_icmp_eq 45 dX3_faultOfNumber_40 rfl (fun c5817 => ?_) (fun c5817 => False.elim (by omega))
      refine WP_aload dX3_faultOfNumber_45 rfl ?_
      refine WP_iload_n dX3_faultOfNumber_47 rfl ?_
      refine WP_iload_n dX3_faultOfNumber_48 rfl ?_
      refine WQ_if_ne 56 dX3_faultOfNumber_49 rfl (fun c5818 => ?_) (fun c5818 => False.elim (by omega))
      refine WP_aload_n dX3_faultOfNumber_56 rfl ?_
      refine WP_getr dX3_faultOfNumber_57 fX3_9 rfl (lyx_is hy 3 3 rfl) (rfx hr 3 3 4 (by decide)) ?_
      refine WQ_iconst (0) (0) dX3_faultOfNumber_60 rfl rfl (fun v5820 hv5820 => ?_)
      refine WQ_ialdm (z := 0) dX3_faultOfNumber_61 (lyx_is hy 4 13 rfl) (lyx_n hy 4 5 rfl) hv5820 (by decide) e5811 ?_
      refine WP_iload dX3_faultOfNumber_62 rfl ?_
      refine WP_callV3 (k := 7) dX3_faultOfNumber_64 ⟨⟨⟨by decide, by decide⟩, zX7_isTold⟩, lX3_114, by decide, rfl, vX7_isTold.1, vX7_isTold.2⟩ (lyx_is hy 6 7 rfl) (sx_isTold_6 hy hr hI5809 cz w5798 v5802 (by omega) (by omega) (by omega) (by omega) ) (Nat.le_of_ble_eq_true rfl) ?_
      intro r Ia Ja Ra hq
      obtain ⟨⟨ea, eb, ec⟩, v5822, rfl, av5822, bv5822⟩ := hq
      show WP _ _ _ _ (.int _ :: _) _ _ _ _
      rw [ea, eb, ec]
      clear ea eb ec Ia Ja Ra
      refine WQ_if_eq 74 dX3_faultOfNumber_67 rfl (fun c5822 => ?_) (fun c5822 => ?_)
      · refine WQ_iconst (0) (0) dX3_faultOfNumber_74 rfl rfl (fun v5824 hv5824 => ?_)
        exact WP_iret dX3_faultOfNumber_75 rfl ⟨⟨hI5809, rfl, ⟨trivial, (by rw [e5811, ew5798] <;> exact (eq32 _ _).mpr (by omega)), (by rw [e5812, ew5799] <;> exact (eq32 _ _).mpr (by omega)), (by rw [e5813, ew5800] <;> exact (eq32 _ _).mpr (by omega)), (by rw [e5814, ew5801] <;> exact (eq32 _ _).mpr (by omega))⟩⟩, _, rfl, by omega, by omega, by (try rw [e5816]); omega⟩
      · refine WQ_iconst (3) (3) dX3_faultOfNumber_70 rfl rfl (fun v5825 hv5825 => ?_)
        refine WP_goto 75 dX3_faultOfNumber_71 rfl ?_
        exact WP_iret dX3_faultOfNumber_75 rfl ⟨⟨hI5809, rfl, ⟨trivial, (by rw [e5811, ew5798] <;> exact (eq32 _ _).mpr (by omega)), (by rw [e5812, ew5799] <;> exact (eq32 _ _).mpr (by omega)), (by rw [e5813, ew5800] <;> exact (eq32 _ _).mpr (by omega)), (by rw [e5814, ew5801] <;> exact (eq32 _ _).mpr (by omega))⟩⟩, _, rfl, by omega, by omega, by (try rw [e5816]); omega⟩
    · refine WQ_iconst (2) (2) dX3_faultOfNumber_27 rfl rfl (fun v5826 hv5826 => ?_)
      obtain ⟨w5827, ew5827⟩ : ∃ w : Int32, I (ad g 4) 2 = w := ⟨_, rfl⟩
      have bw5827 := BT_get hI.1 4 0 5 (0) (0) (1000) (by decide) 2 (by decide) (by decide)
      rw [ew5827] at bw5827
      exact WP_iret dX3_faultOfNumber_28 rfl ⟨⟨hI, rfl, ⟨trivial, rfl, rfl, rfl, rfl⟩⟩, _, rfl, by omega, by omega, by (try rw [ew5827]); omega⟩
set_option maxHeartbeats 4000000 in
set_option maxRecDepth 100000 in
theorem sx_part_6_6_3 {g : GG} {n : Int} {L : Int32} (hy : LyX g)  {I : pI} {J : pJ} {R : pR} (hr : RfX g R) (hI : XI g n L I) (pa : Int32) (cz : Int32) (ix : Int32) (pa_lo : 85 ≤ pa.toInt) (pa_hi : pa.toInt ≤ 85) (cz_lo : 6 ≤ cz.toInt) (cz_hi : cz.toInt ≤ 6) (ix_lo : 3 ≤ ix.toInt) (ix_hi : ix.toInt ≤ 3) : SP g mX3_faultOfNumber [.ref (ad g 3), .int pa, .int cz, .int ix, .ref (ad g 6)] I J R (fun r I' J' R' => (XI g n L I' ∧ R' = R ∧ True ∧ I' (ad g 4) 0 = I (ad g 4) 0 ∧ I' (ad g 4) 1 = I (ad g 4) 1 ∧ I' (ad g 4) 2 = I (ad g 4) 2 ∧ I' (ad g 6) 1 = I (ad g 6) 1 ∧ I' (ad g 6) 2 = I (ad g 6) 2) ∧ ∃ v : Int32, r = some (.int v) ∧ 0 ≤ v.toInt ∧ v.toInt ≤ 5 ∧ (v.toInt = 0 → (I' (ad g 4) 3).toInt ≤ 3)) := by
  refine SP_of ⟨by decide, rfl⟩ (Nat.le_of_ble_eq_true rfl) ?_
  have e5828 : I (ad g 1) 1 = L := hI.2
  have b5829 := BT_get hI.1 1 1 2 (0) (0) (900) (by decide) 1 (by decide) (by decide)
  rw [e5828] at b5829
  obtain ⟨w5830, ew5830⟩ : ∃ w : Int32, I (ad g 4) 0 = w := ⟨_, rfl⟩
  have bw5830 := BT_get hI.1 4 0 5 (0) (0) (1000) (by decide) 0 (by decide) (by decide)
  rw [ew5830] at bw5830
  obtain ⟨w5831, ew5831⟩ : ∃ w : Int32, I (ad g 4) 1 = w := ⟨_, rfl⟩
  have bw5831 := BT_get hI.1 4 0 5 (0) (0) (1000) (by decide) 1 (by decide) (by decide)
  rw [ew5831] at bw5831
  obtain ⟨w5832, ew5832⟩ : ∃ w : Int32, I (ad g 4) 2 = w := ⟨_, rfl⟩
  have bw5832 := BT_get hI.1 4 0 5 (0) (0) (1000) (by decide) 2 (by decide) (by decide)
  rw [ew5832] at bw5832
  obtain ⟨w5833, ew5833⟩ : ∃ w : Int32, I (ad g 6) 1 = w := ⟨_, rfl⟩
  have bw5833 := BT_get hI.1 6 1 2 (0) (0) (4) (by decide) 1 (by decide) (by decide)
  rw [ew5833] at bw5833
  obtain ⟨w5834, ew5834⟩ : ∃ w : Int32, I (ad g 6) 2 = w := ⟨_, rfl⟩
  have bw5834 := BT_get hI.1 6 2 3 (0) (0) (3) (by decide) 2 (by decide) (by decide)
  rw [ew5834] at bw5834
  refine WP_aload_n dX3_faultOfNumber_0 rfl ?_
  refine WP_getr dX3_faultOfNumber_1 fX3_15 rfl (lyx_is hy 3 3 rfl) (rfx hr 3 2 1 (by decide)) ?_
  refine WQ_getiu dX3_faultOfNumber_4 fX3_118 rfl (lyx_is hy 1 5 rfl) (fun v5835 ev5835 => ?_)
  refine WP_istore (ls' := [(0, _), (1, _), (2, _), (3, _), (4, _), (5, _)]) dX3_faultOfNumber_7 (by decide) rfl ?_
  refine WP_iload dX3_faultOfNumber_9 rfl ?_
  refine WP_iload_n dX3_faultOfNumber_11 rfl ?_
  refine WP_callS1 dX3_faultOfNumber_12 ⟨⟨⟨by decide, by decide⟩, zX3_leastOf⟩, lX3_121, tX3_leastOf⟩ (sx_leastOf hy hr hI pa ) (Nat.le_of_ble_eq_true rfl) ?_
  intro r Ia Ja Ra hq
  obtain ⟨⟨ea, eb, ec⟩, v5836, rfl, av5836, bv5836⟩ := hq
  show WP _ _ _ _ (.int _ :: _) _ _ _ _
  rw [ea, eb, ec]
  clear ea eb ec Ia Ja Ra
  refine WQ_icmp_lt 27 dX3_faultOfNumber_15 rfl (fun c5836 => ?_) (fun c5836 => ?_)
  · refine WQ_iconst (2) (2) dX3_faultOfNumber_27 rfl rfl (fun v5838 hv5838 => ?_)
    obtain ⟨w5839, ew5839⟩ : ∃ w : Int32, I (ad g 4) 3 = w := ⟨_, rfl⟩
    have bw5839 := BT_get hI.1 4 0 5 (0) (0) (1000) (by decide) 3 (by decide) (by decide)
    rw [ew5839] at bw5839
    exact WP_iret dX3_faultOfNumber_28 rfl ⟨⟨hI, rfl, ⟨trivial, rfl, rfl, rfl, rfl, rfl⟩⟩, _, rfl, by omega, by omega, by (try rw [ew5839]); omega⟩
  · refine WP_iload dX3_faultOfNumber_18 rfl ?_
    refine WP_iload_n dX3_faultOfNumber_20 rfl ?_
    refine WP_callS1 dX3_faultOfNumber_21 ⟨⟨⟨by decide, by decide⟩, zX3_mostOf⟩, lX3_125, tX3_mostOf⟩ (sx_mostOf hy hr hI pa ) (Nat.le_of_ble_eq_true rfl) ?_
    intro r Ia Ja Ra hq
    obtain ⟨⟨ea, eb, ec⟩, v5840, rfl, av5840, bv5840, cv5840⟩ := hq
    show WP _ _ _ _ (.int _ :: _) _ _ _ _
    rw [ea, eb, ec]
    clear ea eb ec Ia Ja Ra
    refine WQ_icmp_le 29 dX3_faultOfNumber_24 rfl (fun c5840 => ?_) (fun c5840 => ?_)
    · refine WP_aload_n dX3_faultOfNumber_29 rfl ?_
      refine WP_getr dX3_faultOfNumber_30 fX3_9 rfl (lyx_is hy 3 3 rfl) (rfx hr 3 3 4 (by decide)) ?_
      refine WP_iload_n dX3_faultOfNumber_33 rfl ?_
      refine WP_iload dX3_faultOfNumber_34 rfl ?_
      refine WQ_iast dX3_faultOfNumber_36 (lyx_is hy 4 13 rfl) (lyx_n hy 4 5 rfl) (by omega) (by omega) (fun I5842 fI5842 => ?_)
      have eI5842 := fI5842
      rw [cl (x := ix) (n := 3) (by omega)] at eI5842
      clear fI5842
      have hI5842 : XI g n L I5842 := by rw [eI5842]; exact (xi_f hy hI (c := 4) (0) (0) (1000) (by decide) (Or.inl (by decide)) (by decide) (by omega) (by omega))
      have e5843 : I5842 (ad g 1) 1 = L := by rw [eI5842, pp_ne _ _ (Or.inl (lyx_ne hy (by decide) (by decide) (by decide)))]; exact e5828
      have e5844 : I5842 (ad g 4) 0 = w5830 := by rw [eI5842, pp_ne _ _ (Or.inr (by decide))]; exact ew5830
      have e5845 : I5842 (ad g 4) 1 = w5831 := by rw [eI5842, pp_ne _ _ (Or.inr (by decide))]; exact ew5831
      have e5846 : I5842 (ad g 4) 2 = w5832 := by rw [eI5842, pp_ne _ _ (Or.inr (by decide))]; exact ew5832
      have e5847 : I5842 (ad g 6) 1 = w5833 := by rw [eI5842, pp_ne _ _ (Or.inl (lyx_ne hy (by decide) (by decide) (by decide)))]; exact ew5833
      have e5848 : I5842 (ad g 6) 2 = w5834 := by rw [eI5842, pp_ne _ _ (Or.inl (lyx_ne hy (by decide) (by decide) (by decide)))]; exact ew5834
      have e5849 : I5842 (ad g 1) 4 = v5835 := by rw [eI5842, pp_ne _ _ (Or.inl (lyx_ne hy (by decide) (by decide) (by decide)))]; exact ev5835
      have e5850 : I5842 (ad g 4) 3 = v5835 := by rw [eI5842, pp_self]
      clear eI5842
      refine WP_iload_n dX3_faultOfNumber_37 rfl ?_
      refine WQ_bipush (68) (68) dX3_faultOfNumber_38 rfl rfl (fun v5851 hv5851 => ?_)
      refine WQ_icmp_eq 45 dX3_faultOfNumber_40 rfl (fun c5851 => False.elim (by omega)) (fun c5851 => ?_)
      refine WQ_iconst (0) (0) dX3_faultOfNumber_43 rfl rfl (fun v5853 hv5853 => ?_)
      exact WP_iret dX3_faultOfNumber_44 rfl ⟨⟨hI5842, rfl, ⟨trivial, (by rw [e5844, ew5830] <;> exact (eq32 _ _).mpr (by omega)), (by rw [e5845, ew5831] <;> exact (eq32 _ _).mpr (by omega)), (by rw [e5846, ew5832] <;> exact (eq32 _ _).mpr (by omega)), (by rw [e5847, ew5833] <;> exact (eq32 _ _).mpr (by omega)), (by rw [e5848, ew5834] <;> exact (eq32 _ _).mpr (by omega))⟩⟩, _, rfl, by omega, by omega, by (try rw [e5850]); omega⟩
    · refine WQ_iconst (2) (2) dX3_faultOfNumber_27 rfl rfl (fun v5854 hv5854 => ?_)
      obtain ⟨w5855, ew5855⟩ : ∃ w : Int32, I (ad g 4) 3 = w := ⟨_, rfl⟩
      have bw5855 := BT_get hI.1 4 0 5 (0) (0) (1000) (by decide) 3 (by decide) (by decide)
      rw [ew5855] at bw5855
      exact WP_iret dX3_faultOfNumber_28 rfl ⟨⟨hI, rfl, ⟨trivial, rfl, rfl, rfl, rfl, rfl⟩⟩, _, rfl, by omega, by omega, by (try rw [ew5855]); omega⟩
set_option maxHeartbeats 4000000 in
set_option maxRecDepth 100000 in
theorem sx_part_6_6_4 {g : GG} {n : Int} {L : Int32} (hy : LyX g)  {I : pI} {J : pJ} {R : pR} (hr : RfX g R) (hI : XI g n L I) (pa : Int32) (cz : Int32) (ix : Int32) (pa_lo : 86 ≤ pa.toInt) (pa_hi : pa.toInt ≤ 86) (cz_lo : 6 ≤ cz.toInt) (cz_hi : cz.toInt ≤ 6) (ix_lo : 4 ≤ ix.toInt) (ix_hi : ix.toInt ≤ 4) : SP g mX3_faultOfNumber [.ref (ad g 3), .int pa, .int cz, .int ix, .ref (ad g 6)] I J R (fun r I' J' R' => (XI g n L I' ∧ R' = R ∧ True ∧ I' (ad g 4) 0 = I (ad g 4) 0 ∧ I' (ad g 4) 1 = I (ad g 4) 1 ∧ I' (ad g 4) 2 = I (ad g 4) 2 ∧ I' (ad g 4) 3 = I (ad g 4) 3 ∧ I' (ad g 6) 1 = I (ad g 6) 1 ∧ I' (ad g 6) 2 = I (ad g 6) 2) ∧ ∃ v : Int32, r = some (.int v) ∧ 0 ≤ v.toInt ∧ v.toInt ≤ 5 ∧ (v.toInt = 0 → (I' (ad g 4) 4).toInt ≤ 99)) := by
  refine SP_of ⟨by decide, rfl⟩ (Nat.le_of_ble_eq_true rfl) ?_
  have e5856 : I (ad g 1) 1 = L := hI.2
  have b5857 := BT_get hI.1 1 1 2 (0) (0) (900) (by decide) 1 (by decide) (by decide)
  rw [e5856] at b5857
  obtain ⟨w5858, ew5858⟩ : ∃ w : Int32, I (ad g 4) 0 = w := ⟨_, rfl⟩
  have bw5858 := BT_get hI.1 4 0 5 (0) (0) (1000) (by decide) 0 (by decide) (by decide)
  rw [ew5858] at bw5858
  obtain ⟨w5859, ew5859⟩ : ∃ w : Int32, I (ad g 4) 1 = w := ⟨_, rfl⟩
  have bw5859 := BT_get hI.1 4 0 5 (0) (0) (1000) (by decide) 1 (by decide) (by decide)
  rw [ew5859] at bw5859
  obtain ⟨w5860, ew5860⟩ : ∃ w : Int32, I (ad g 4) 2 = w := ⟨_, rfl⟩
  have bw5860 := BT_get hI.1 4 0 5 (0) (0) (1000) (by decide) 2 (by decide) (by decide)
  rw [ew5860] at bw5860
  obtain ⟨w5861, ew5861⟩ : ∃ w : Int32, I (ad g 4) 3 = w := ⟨_, rfl⟩
  have bw5861 := BT_get hI.1 4 0 5 (0) (0) (1000) (by decide) 3 (by decide) (by decide)
  rw [ew5861] at bw5861
  obtain ⟨w5862, ew5862⟩ : ∃ w : Int32, I (ad g 6) 1 = w := ⟨_, rfl⟩
  have bw5862 := BT_get hI.1 6 1 2 (0) (0) (4) (by decide) 1 (by decide) (by decide)
  rw [ew5862] at bw5862
  obtain ⟨w5863, ew5863⟩ : ∃ w : Int32, I (ad g 6) 2 = w := ⟨_, rfl⟩
  have bw5863 := BT_get hI.1 6 2 3 (0) (0) (3) (by decide) 2 (by decide) (by decide)
  rw [ew5863] at bw5863
  refine WP_aload_n dX3_faultOfNumber_0 rfl ?_
  refine WP_getr dX3_faultOfNumber_1 fX3_15 rfl (lyx_is hy 3 3 rfl) (rfx hr 3 2 1 (by decide)) ?_
  refine WQ_getiu dX3_faultOfNumber_4 fX3_118 rfl (lyx_is hy 1 5 rfl) (fun v5864 ev5864 => ?_)
  refine WP_istore (ls' := [(0, _), (1, _), (2, _), (3, _), (4, _), (5, _)]) dX3_faultOfNumber_7 (by decide) rfl ?_
  refine WP_iload dX3_faultOfNumber_9 rfl ?_
  refine WP_iload_n dX3_faultOfNumber_11 rfl ?_
  refine WP_callS1 dX3_faultOfNumber_12 ⟨⟨⟨by decide, by decide⟩, zX3_leastOf⟩, lX3_121, tX3_leastOf⟩ (sx_leastOf hy hr hI pa ) (Nat.le_of_ble_eq_true rfl) ?_
  intro r Ia Ja Ra hq
  obtain ⟨⟨ea, eb, ec⟩, v5865, rfl, av5865, bv5865⟩ := hq
  show WP _ _ _ _ (.int _ :: _) _ _ _ _
  rw [ea, eb, ec]
  clear ea eb ec Ia Ja Ra
  refine WQ_icmp_lt 27 dX3_faultOfNumber_15 rfl (fun c5865 => ?_) (fun c5865 => ?_)
  · refine WQ_iconst (2) (2) dX3_faultOfNumber_27 rfl rfl (fun v5867 hv5867 => ?_)
    obtain ⟨w5868, ew5868⟩ : ∃ w : Int32, I (ad g 4) 4 = w := ⟨_, rfl⟩
    have bw5868 := BT_get hI.1 4 0 5 (0) (0) (1000) (by decide) 4 (by decide) (by decide)
    rw [ew5868] at bw5868
    exact WP_iret dX3_faultOfNumber_28 rfl ⟨⟨hI, rfl, ⟨trivial, rfl, rfl, rfl, rfl, rfl, rfl⟩⟩, _, rfl, by omega, by omega, by (try rw [ew5868]); omega⟩
  · refine WP_iload dX3_faultOfNumber_18 rfl ?_
    refine WP_iload_n dX3_faultOfNumber_20 rfl ?_
    refine WP_callS1 dX3_faultOfNumber_21 ⟨⟨⟨by decide, by decide⟩, zX3_mostOf⟩, lX3_125, tX3_mostOf⟩ (sx_mostOf hy hr hI pa ) (Nat.le_of_ble_eq_true rfl) ?_
    intro r Ia Ja Ra hq
    obtain ⟨⟨ea, eb, ec⟩, v5869, rfl, av5869, bv5869, cv5869⟩ := hq
    show WP _ _ _ _ (.int _ :: _) _ _ _ _
    rw [ea, eb, ec]
    clear ea eb ec Ia Ja Ra
    refine WQ_icmp_le 29 dX3_faultOfNumber_24 rfl (fun c5869 => ?_) (fun c5869 => ?_)
    · refine WP_aload_n dX3_faultOfNumber_29 rfl ?_
      refine WP_getr dX3_faultOfNumber_30 fX3_9 rfl (lyx_is hy 3 3 rfl) (rfx hr 3 3 4 (by decide)) ?_
      refine WP_iload_n dX3_faultOfNumber_33 rfl ?_
      refine WP_iload dX3_faultOfNumber_34 rfl ?_
      refine WQ_iast dX3_faultOfNumber_36 (lyx_is hy 4 13 rfl) (lyx_n hy 4 5 rfl) (by omega) (by omega) (fun I5871 fI5871 => ?_)
      have eI5871 := fI5871
      rw [cl (x := ix) (n := 4) (by omega)] at eI5871
      clear fI5871
      have hI5871 : XI g n L I5871 := by rw [eI5871]; exact (xi_f hy hI (c := 4) (0) (0) (1000) (by decide) (Or.inl (by decide)) (by decide) (by omega) (by omega))
      have e5872 : I5871 (ad g 1) 1 = L := by rw [eI5871, pp_ne _ _ (Or.inl (lyx_ne hy (by decide) (by decide) (by decide)))]; exact e5856
      have e5873 : I5871 (ad g 4) 0 = w5858 := by rw [eI5871, pp_ne _ _ (Or.inr (by decide))]; exact ew5858
      have e5874 : I5871 (ad g 4) 1 = w5859 := by rw [eI5871, pp_ne _ _ (Or.inr (by decide))]; exact ew5859
      have e5875 : I5871 (ad g 4) 2 = w5860 := by rw [eI5871, pp_ne _ _ (Or.inr (by decide))]; exact ew5860
      have e5876 : I5871 (ad g 4) 3 = w5861 := by rw [eI5871, pp_ne _ _ (Or.inr (by decide))]; exact ew5861
      have e5877 : I5871 (ad g 6) 1 = w5862 := by rw [eI5871, pp_ne _ _ (Or.inl (lyx_ne hy (by decide) (by decide) (by decide)))]; exact ew5862
      have e5878 : I5871 (ad g 6) 2 = w5863 := by rw [eI5871, pp_ne _ _ (Or.inl (lyx_ne hy (by decide) (by decide) (by decide)))]; exact ew5863
      have e5879 : I5871 (ad g 1) 4 = v5864 := by rw [eI5871, pp_ne _ _ (Or.inl (lyx_ne hy (by decide) (by decide) (by decide)))]; exact ev5864
      have e5880 : I5871 (ad g 4) 4 = v5864 := by rw [eI5871, pp_self]
      clear eI5871
      refine WP_iload_n dX3_faultOfNumber_37 rfl ?_
      refine WQ_bipush (68) (68) dX3_faultOfNumber_38 rfl rfl (fun v5881 hv5881 => ?_)
      refine WQ_icmp_eq 45 dX3_faultOfNumber_40 rfl (fun c5881 => False.elim (by omega)) (fun c5881 => ?_)
      refine WQ_iconst (0) (0) dX3_faultOfNumber_43 rfl rfl (fun v5883 hv5883 => ?_)
      exact WP_iret dX3_faultOfNumber_44 rfl ⟨⟨hI5871, rfl, ⟨trivial, (by rw [e5873, ew5858] <;> exact (eq32 _ _).mpr (by omega)), (by rw [e5874, ew5859] <;> exact (eq32 _ _).mpr (by omega)), (by rw [e5875, ew5860] <;> exact (eq32 _ _).mpr (by omega)), (by rw [e5876, ew5861] <;> exact (eq32 _ _).mpr (by omega)), (by rw [e5877, ew5862] <;> exact (eq32 _ _).mpr (by omega)), (by rw [e5878, ew5863] <;> exact (eq32 _ _).mpr (by omega))⟩⟩, _, rfl, by omega, by omega, by (try rw [e5880]); omega⟩
    · refine WQ_iconst (2) (2) dX3_faultOfNumber_27 rfl rfl (fun v5884 hv5884 => ?_)
      obtain ⟨w5885, ew5885⟩ : ∃ w : Int32, I (ad g 4) 4 = w := ⟨_, rfl⟩
      have bw5885 := BT_get hI.1 4 0 5 (0) (0) (1000) (by decide) 4 (by decide) (by decide)
      rw [ew5885] at bw5885
      exact WP_iret dX3_faultOfNumber_28 rfl ⟨⟨hI, rfl, ⟨trivial, rfl, rfl, rfl, rfl, rfl, rfl⟩⟩, _, rfl, by omega, by omega, by (try rw [ew5885]); omega⟩
set_option maxHeartbeats 4000000 in
set_option maxRecDepth 100000 in
theorem sx_part_6_7_0 {g : GG} {n : Int} {L : Int32} (hy : LyX g)  {I : pI} {J : pJ} {R : pR} (hr : RfX g R) (hI : XI g n L I) (pa : Int32) (cz : Int32) (ix : Int32) (pa_lo : 115 ≤ pa.toInt) (pa_hi : pa.toInt ≤ 115) (cz_lo : 7 ≤ cz.toInt) (cz_hi : cz.toInt ≤ 7) (ix_lo : 0 ≤ ix.toInt) (ix_hi : ix.toInt ≤ 0) : SP g mX3_faultOfName [.ref (ad g 3), .int pa, .int cz, .int ix, .ref (ad g 6)] I J R (fun r I' J' R' => (XI g n L I' ∧ R' = R ∧ True ∧ I' (ad g 6) 1 = I (ad g 6) 1 ∧ I' (ad g 6) 2 = I (ad g 6) 2) ∧ ∃ v : Int32, r = some (.int v) ∧ 0 ≤ v.toInt ∧ v.toInt ≤ 5 ∧ (v.toInt = 0 → (I' (ad g 4) 0).toInt ≤ 3)) := by
  refine SP_of ⟨by decide, rfl⟩ (Nat.le_of_ble_eq_true rfl) ?_
  have e5886 : I (ad g 1) 1 = L := hI.2
  have b5887 := BT_get hI.1 1 1 2 (0) (0) (900) (by decide) 1 (by decide) (by decide)
  rw [e5886] at b5887
  obtain ⟨w5888, ew5888⟩ : ∃ w : Int32, I (ad g 6) 1 = w := ⟨_, rfl⟩
  have bw5888 := BT_get hI.1 6 1 2 (0) (0) (4) (by decide) 1 (by decide) (by decide)
  rw [ew5888] at bw5888
  obtain ⟨w5889, ew5889⟩ : ∃ w : Int32, I (ad g 6) 2 = w := ⟨_, rfl⟩
  have bw5889 := BT_get hI.1 6 2 3 (0) (0) (3) (by decide) 2 (by decide) (by decide)
  rw [ew5889] at bw5889
  refine WP_iload_n dX3_faultOfName_0 rfl ?_
  refine WQ_bipush (115) (115) dX3_faultOfName_1 rfl rfl (fun v5890 hv5890 => ?_)
  refine WQ_icmp_eq 12 dX3_faultOfName_3 rfl (fun c5890 => ?_) (fun c5890 => False.elim (by omega))
  refine WQ_iconst (1) (1) dX3_faultOfName_12 rfl rfl (fun v5892 hv5892 => ?_)
  refine WP_goto 17 dX3_faultOfName_13 rfl ?_
  refine WP_istore (ls' := [(0, _), (1, _), (2, _), (3, _), (4, _), (5, _)]) dX3_faultOfName_17 (by decide) rfl ?_
  refine WP_iload dX3_faultOfName_19 rfl ?_
  refine WQ_if_eq 39 dX3_faultOfName_21 rfl (fun c5892 => False.elim (by omega)) (fun c5892 => ?_)
  refine WP_aload dX3_faultOfName_24 rfl ?_
  refine WP_aload_n dX3_faultOfName_26 rfl ?_
  refine WP_getr dX3_faultOfName_27 fX3_15 rfl (lyx_is hy 3 3 rfl) (rfx hr 3 2 1 (by decide)) ?_
  refine WQ_getl dX3_faultOfName_30 fX3_80 rfl (lyx_is hy 1 5 rfl) (fun l5894 el5894 => ?_)
  refine WP_callV1 (k := 7) dX3_faultOfName_33 ⟨⟨⟨by decide, by decide⟩, zX7_sortNamed⟩, lX3_103, by decide, rfl, vX7_sortNamed.1, vX7_sortNamed.2⟩ (lyx_is hy 6 7 rfl) (sx_sortNamed_6 hy hr hI l5894 ) (Nat.le_of_ble_eq_true rfl) ?_
  intro r Ia Ja Ra hq
  obtain ⟨⟨ea, eb, ec⟩, v5895, rfl, av5895, bv5895⟩ := hq
  show WP _ _ _ _ (.int _ :: _) _ _ _ _
  rw [ea, eb, ec]
  clear ea eb ec Ia Ja Ra
  refine WP_goto 51 dX3_faultOfName_36 rfl ?_
  refine WP_istore (ls' := [(0, _), (1, _), (2, _), (3, _), (4, _), (5, _), (6, _)]) dX3_faultOfName_51 (by decide) rfl ?_
  refine WP_iload_n dX3_faultOfName_53 rfl ?_
  refine WQ_bipush (110) (110) dX3_faultOfName_54 rfl rfl (fun v5896 hv5896 => ?_)
  refine WQ_icmp_eq 65 dX3_faultOfName_56 rfl (fun c5896 => False.elim (by omega)) (fun c5896 => ?_)
  refine WP_iload_n dX3_faultOfName_59 rfl ?_
  refine WQ_bipush (109) (109) dX3_faultOfName_60 rfl rfl (fun v5898 hv5898 => ?_)
  refine WQ_icmp_ne 98 dX3_faultOfName_62 rfl (fun c5898 => ?_) (fun c5898 => False.elim (by omega))
  refine WP_iload dX3_faultOfName_98 rfl ?_
  refine WQ_iconst (-1) (-1) dX3_faultOfName_100 rfl rfl (fun v5900 hv5900 => ?_)
  refine WQ_icmp_ne 106 dX3_faultOfName_101 rfl (fun c5900 => ?_) (fun c5900 => ?_)
  · refine WP_aload_n dX3_faultOfName_106 rfl ?_
    refine WP_getr dX3_faultOfName_107 fX3_9 rfl (lyx_is hy 3 3 rfl) (rfx hr 3 3 4 (by decide)) ?_
    refine WP_iload_n dX3_faultOfName_110 rfl ?_
    refine WP_iload dX3_faultOfName_111 rfl ?_
    refine WQ_iast dX3_faultOfName_113 (lyx_is hy 4 13 rfl) (lyx_n hy 4 5 rfl) (by omega) (by omega) (fun I5902 fI5902 => ?_)
    have eI5902 := fI5902
    rw [cl (x := ix) (n := 0) (by omega)] at eI5902
    clear fI5902
    have hI5902 : XI g n L I5902 := by rw [eI5902]; exact (xi_f hy hI (c := 4) (0) (0) (1000) (by decide) (Or.inl (by decide)) (by decide) (by omega) (by omega))
    have e5903 : I5902 (ad g 1) 1 = L := by rw [eI5902, pp_ne _ _ (Or.inl (lyx_ne hy (by decide) (by decide) (by decide)))]; exact e5886
    have e5904 : I5902 (ad g 6) 1 = w5888 := by rw [eI5902, pp_ne _ _ (Or.inl (lyx_ne hy (by decide) (by decide) (by decide)))]; exact ew5888
    have e5905 : I5902 (ad g 6) 2 = w5889 := by rw [eI5902, pp_ne _ _ (Or.inl (lyx_ne hy (by decide) (by decide) (by decide)))]; exact ew5889
    have e5906 : I5902 (ad g 4) 0 = v5895 := by rw [eI5902, pp_self]
    clear eI5902
    refine WP_iload_n dX3_faultOfName_114 rfl ?_
    refine WQ_bipush (7) (7) dX3_faultOfName_115 rfl rfl (fun v5907 hv5907 => ?_)
    refine WQ_icmp_ne 137 dX3_faultOfName_117 rfl (fun c5907 => False.elim (by omega)) (fun c5907 => ?_)
    refine WP_aload dX3_faultOfName_120 rfl ?_
    refine WQ_bipush (7) (7) dX3_faultOfName_122 rfl rfl (fun v5909 hv5909 => ?_)
    refine WP_iload dX3_faultOfName_124 rfl ?_
    refine WQ_iconst (0) (0) dX3_faultOfName_126 rfl rfl (fun v5910 hv5910 => ?_)
    refine WP_callV3 (k := 7) dX3_faultOfName_127 ⟨⟨⟨by decide, by decide⟩, zX7_isTold⟩, lX3_114, by decide, rfl, vX7_isTold.1, vX7_isTold.2⟩ (lyx_is hy 6 7 rfl) (sx_isTold_6 hy hr hI5902 v5909 v5895 v5910 (by omega) (by omega) (by omega) (by omega) ) (Nat.le_of_ble_eq_true rfl) ?_
    intro r Ia Ja Ra hq
    obtain ⟨⟨ea, eb, ec⟩, v5911, rfl, av5911, bv5911⟩ := hq
    show WP _ _ _ _ (.int _ :: _) _ _ _ _
    rw [ea, eb, ec]
    clear ea eb ec Ia Ja Ra
    refine WQ_if_eq 137 dX3_faultOfName_130 rfl (fun c5911 => ?_) (fun c5911 => ?_)
    · refine WQ_iconst (0) (0) dX3_faultOfName_137 rfl rfl (fun v5913 hv5913 => ?_)
      exact WP_iret dX3_faultOfName_138 rfl ⟨⟨hI5902, rfl, ⟨trivial, (by rw [e5904, ew5888] <;> exact (eq32 _ _).mpr (by omega)), (by rw [e5905, ew5889] <;> exact (eq32 _ _).mpr (by omega))⟩⟩, _, rfl, by omega, by omega, by (try rw [e5906]); omega⟩
    · refine WQ_iconst (3) (3) dX3_faultOfName_133 rfl rfl (fun v5914 hv5914 => ?_)
      refine WP_goto 138 dX3_faultOfName_134 rfl ?_
      exact WP_iret dX3_faultOfName_138 rfl ⟨⟨hI5902, rfl, ⟨trivial, (by rw [e5904, ew5888] <;> exact (eq32 _ _).mpr (by omega)), (by rw [e5905, ew5889] <;> exact (eq32 _ _).mpr (by omega))⟩⟩, _, rfl, by omega, by omega, by (try rw [e5906]); omega⟩
  · refine WQ_iconst (5) (5) dX3_faultOfName_104 rfl rfl (fun v5915 hv5915 => ?_)
    obtain ⟨w5916, ew5916⟩ : ∃ w : Int32, I (ad g 4) 0 = w := ⟨_, rfl⟩
    have bw5916 := BT_get hI.1 4 0 5 (0) (0) (1000) (by decide) 0 (by decide) (by decide)
    rw [ew5916] at bw5916
    exact WP_iret dX3_faultOfName_105 rfl ⟨⟨hI, rfl, ⟨trivial, rfl, rfl⟩⟩, _, rfl, by omega, by omega, by (try rw [ew5916]); omega⟩
set_option maxHeartbeats 4000000 in
set_option maxRecDepth 100000 in
theorem sx_part_6_7_1 {g : GG} {n : Int} {L : Int32} (hy : LyX g)  {I : pI} {J : pJ} {R : pR} (hr : RfX g R) (hI : XI g n L I) (pa : Int32) (cz : Int32) (ix : Int32) (pa_lo : 73 ≤ pa.toInt) (pa_hi : pa.toInt ≤ 73) (cz_lo : 7 ≤ cz.toInt) (cz_hi : cz.toInt ≤ 7) (ix_lo : 1 ≤ ix.toInt) (ix_hi : ix.toInt ≤ 1) : SP g mX3_faultOfNumber [.ref (ad g 3), .int pa, .int cz, .int ix, .ref (ad g 6)] I J R (fun r I' J' R' => (XI g n L I' ∧ R' = R ∧ True ∧ I' (ad g 4) 0 = I (ad g 4) 0 ∧ I' (ad g 6) 1 = I (ad g 6) 1 ∧ I' (ad g 6) 2 = I (ad g 6) 2) ∧ ∃ v : Int32, r = some (.int v) ∧ 0 ≤ v.toInt ∧ v.toInt ≤ 5 ∧ (v.toInt = 0 → (I' (ad g 4) 1).toInt ≤ 127)) := by
  refine SP_of ⟨by decide, rfl⟩ (Nat.le_of_ble_eq_true rfl) ?_
  have e5917 : I (ad g 1) 1 = L := hI.2
  have b5918 := BT_get hI.1 1 1 2 (0) (0) (900) (by decide) 1 (by decide) (by decide)
  rw [e5917] at b5918
  obtain ⟨w5919, ew5919⟩ : ∃ w : Int32, I (ad g 4) 0 = w := ⟨_, rfl⟩
  have bw5919 := BT_get hI.1 4 0 5 (0) (0) (1000) (by decide) 0 (by decide) (by decide)
  rw [ew5919] at bw5919
  obtain ⟨w5920, ew5920⟩ : ∃ w : Int32, I (ad g 6) 1 = w := ⟨_, rfl⟩
  have bw5920 := BT_get hI.1 6 1 2 (0) (0) (4) (by decide) 1 (by decide) (by decide)
  rw [ew5920] at bw5920
  obtain ⟨w5921, ew5921⟩ : ∃ w : Int32, I (ad g 6) 2 = w := ⟨_, rfl⟩
  have bw5921 := BT_get hI.1 6 2 3 (0) (0) (3) (by decide) 2 (by decide) (by decide)
  rw [ew5921] at bw5921
  refine WP_aload_n dX3_faultOfNumber_0 rfl ?_
  refine WP_getr dX3_faultOfNumber_1 fX3_15 rfl (lyx_is hy 3 3 rfl) (rfx hr 3 2 1 (by decide)) ?_
  refine WQ_getiu dX3_faultOfNumber_4 fX3_118 rfl (lyx_is hy 1 5 rfl) (fun v5922 ev5922 => ?_)
  refine WP_istore (ls' := [(0, _), (1, _), (2, _), (3, _), (4, _), (5, _)]) dX3_faultOfNumber_7 (by decide) rfl ?_
  refine WP_iload dX3_faultOfNumber_9 rfl ?_
  refine WP_iload_n dX3_faultOfNumber_11 rfl ?_
  refine WP_callS1 dX3_faultOfNumber_12 ⟨⟨⟨by decide, by decide⟩, zX3_leastOf⟩, lX3_121, tX3_leastOf⟩ (sx_leastOf hy hr hI pa ) (Nat.le_of_ble_eq_true rfl) ?_
  intro r Ia Ja Ra hq
  obtain ⟨⟨ea, eb, ec⟩, v5923, rfl, av5923, bv5923⟩ := hq
  show WP _ _ _ _ (.int _ :: _) _ _ _ _
  rw [ea, eb, ec]
  clear ea eb ec Ia Ja Ra
  refine WQ_icmp_lt 27 dX3_faultOfNumber_15 rfl (fun c5923 => ?_) (fun c5923 => ?_)
  · refine WQ_iconst (2) (2) dX3_faultOfNumber_27 rfl rfl (fun v5925 hv5925 => ?_)
    obtain ⟨w5926, ew5926⟩ : ∃ w : Int32, I (ad g 4) 1 = w := ⟨_, rfl⟩
    have bw5926 := BT_get hI.1 4 0 5 (0) (0) (1000) (by decide) 1 (by decide) (by decide)
    rw [ew5926] at bw5926
    exact WP_iret dX3_faultOfNumber_28 rfl ⟨⟨hI, rfl, ⟨trivial, rfl, rfl, rfl⟩⟩, _, rfl, by omega, by omega, by (try rw [ew5926]); omega⟩
  · refine WP_iload dX3_faultOfNumber_18 rfl ?_
    refine WP_iload_n dX3_faultOfNumber_20 rfl ?_
    refine WP_callS1 dX3_faultOfNumber_21 ⟨⟨⟨by decide, by decide⟩, zX3_mostOf⟩, lX3_125, tX3_mostOf⟩ (sx_mostOf hy hr hI pa ) (Nat.le_of_ble_eq_true rfl) ?_
    intro r Ia Ja Ra hq
    obtain ⟨⟨ea, eb, ec⟩, v5927, rfl, av5927, bv5927, cv5927⟩ := hq
    show WP _ _ _ _ (.int _ :: _) _ _ _ _
    rw [ea, eb, ec]
    clear ea eb ec Ia Ja Ra
    refine WQ_icmp_le 29 dX3_faultOfNumber_24 rfl (fun c5927 => ?_) (fun c5927 => ?_)
    · refine WP_aload_n dX3_faultOfNumber_29 rfl ?_
      refine WP_getr dX3_faultOfNumber_30 fX3_9 rfl (lyx_is hy 3 3 rfl) (rfx hr 3 3 4 (by decide)) ?_
      refine WP_iload_n dX3_faultOfNumber_33 rfl ?_
      refine WP_iload dX3_faultOfNumber_34 rfl ?_
      refine WQ_iast dX3_faultOfNumber_36 (lyx_is hy 4 13 rfl) (lyx_n hy 4 5 rfl) (by omega) (by omega) (fun I5929 fI5929 => ?_)
      have eI5929 := fI5929
      rw [cl (x := ix) (n := 1) (by omega)] at eI5929
      clear fI5929
      have hI5929 : XI g n L I5929 := by rw [eI5929]; exact (xi_f hy hI (c := 4) (0) (0) (1000) (by decide) (Or.inl (by decide)) (by decide) (by omega) (by omega))
      have e5930 : I5929 (ad g 1) 1 = L := by rw [eI5929, pp_ne _ _ (Or.inl (lyx_ne hy (by decide) (by decide) (by decide)))]; exact e5917
      have e5931 : I5929 (ad g 4) 0 = w5919 := by rw [eI5929, pp_ne _ _ (Or.inr (by decide))]; exact ew5919
      have e5932 : I5929 (ad g 6) 1 = w5920 := by rw [eI5929, pp_ne _ _ (Or.inl (lyx_ne hy (by decide) (by decide) (by decide)))]; exact ew5920
      have e5933 : I5929 (ad g 6) 2 = w5921 := by rw [eI5929, pp_ne _ _ (Or.inl (lyx_ne hy (by decide) (by decide) (by decide)))]; exact ew5921
      have e5934 : I5929 (ad g 1) 4 = v5922 := by rw [eI5929, pp_ne _ _ (Or.inl (lyx_ne hy (by decide) (by decide) (by decide)))]; exact ev5922
      have e5935 : I5929 (ad g 4) 1 = v5922 := by rw [eI5929, pp_self]
      clear eI5929
      refine WP_iload_n dX3_faultOfNumber_37 rfl ?_
      refine WQ_bipush (68) (68) dX3_faultOfNumber_38 rfl rfl (fun v5936 hv5936 => ?_)
      refine WQ_icmp_eq 45 dX3_faultOfNumber_40 rfl (fun c5936 => False.elim (by omega)) (fun c5936 => ?_)
      refine WQ_iconst (0) (0) dX3_faultOfNumber_43 rfl rfl (fun v5938 hv5938 => ?_)
      exact WP_iret dX3_faultOfNumber_44 rfl ⟨⟨hI5929, rfl, ⟨trivial, (by rw [e5931, ew5919] <;> exact (eq32 _ _).mpr (by omega)), (by rw [e5932, ew5920] <;> exact (eq32 _ _).mpr (by omega)), (by rw [e5933, ew5921] <;> exact (eq32 _ _).mpr (by omega))⟩⟩, _, rfl, by omega, by omega, by (try rw [e5935]); omega⟩
    · refine WQ_iconst (2) (2) dX3_faultOfNumber_27 rfl rfl (fun v5939 hv5939 => ?_)
      obtain ⟨w5940, ew5940⟩ : ∃ w : Int32, I (ad g 4) 1 = w := ⟨_, rfl⟩
      have bw5940 := BT_get hI.1 4 0 5 (0) (0) (1000) (by decide) 1 (by decide) (by decide)
      rw [ew5940] at bw5940
      exact WP_iret dX3_faultOfNumber_28 rfl ⟨⟨hI, rfl, ⟨trivial, rfl, rfl, rfl⟩⟩, _, rfl, by omega, by omega, by (try rw [ew5940]); omega⟩
set_option maxHeartbeats 4000000 in
set_option maxRecDepth 100000 in
theorem sx_part_6_8_0 {g : GG} {n : Int} {L : Int32} (hy : LyX g)  {I : pI} {J : pJ} {R : pR} (hr : RfX g R) (hI : XI g n L I) (pa : Int32) (cz : Int32) (ix : Int32) (pa_lo : 115 ≤ pa.toInt) (pa_hi : pa.toInt ≤ 115) (cz_lo : 8 ≤ cz.toInt) (cz_hi : cz.toInt ≤ 8) (ix_lo : 0 ≤ ix.toInt) (ix_hi : ix.toInt ≤ 0) : SP g mX3_faultOfName [.ref (ad g 3), .int pa, .int cz, .int ix, .ref (ad g 6)] I J R (fun r I' J' R' => (XI g n L I' ∧ R' = R ∧ True ∧ I' (ad g 6) 1 = I (ad g 6) 1 ∧ I' (ad g 6) 2 = I (ad g 6) 2) ∧ ∃ v : Int32, r = some (.int v) ∧ 0 ≤ v.toInt ∧ v.toInt ≤ 5 ∧ (v.toInt = 0 → (I' (ad g 4) 0).toInt ≤ 3)) := by
  refine SP_of ⟨by decide, rfl⟩ (Nat.le_of_ble_eq_true rfl) ?_
  have e5941 : I (ad g 1) 1 = L := hI.2
  have b5942 := BT_get hI.1 1 1 2 (0) (0) (900) (by decide) 1 (by decide) (by decide)
  rw [e5941] at b5942
  obtain ⟨w5943, ew5943⟩ : ∃ w : Int32, I (ad g 6) 1 = w := ⟨_, rfl⟩
  have bw5943 := BT_get hI.1 6 1 2 (0) (0) (4) (by decide) 1 (by decide) (by decide)
  rw [ew5943] at bw5943
  obtain ⟨w5944, ew5944⟩ : ∃ w : Int32, I (ad g 6) 2 = w := ⟨_, rfl⟩
  have bw5944 := BT_get hI.1 6 2 3 (0) (0) (3) (by decide) 2 (by decide) (by decide)
  rw [ew5944] at bw5944
  refine WP_iload_n dX3_faultOfName_0 rfl ?_
  refine WQ_bipush (115) (115) dX3_faultOfName_1 rfl rfl (fun v5945 hv5945 => ?_)
  refine WQ_icmp_eq 12 dX3_faultOfName_3 rfl (fun c5945 => ?_) (fun c5945 => False.elim (by omega))
  refine WQ_iconst (1) (1) dX3_faultOfName_12 rfl rfl (fun v5947 hv5947 => ?_)
  refine WP_goto 17 dX3_faultOfName_13 rfl ?_
  refine WP_istore (ls' := [(0, _), (1, _), (2, _), (3, _), (4, _), (5, _)]) dX3_faultOfName_17 (by decide) rfl ?_
  refine WP_iload dX3_faultOfName_19 rfl ?_
  refine WQ_if_eq 39 dX3_faultOfName_21 rfl (fun c5947 => False.elim (by omega)) (fun c5947 => ?_)
  refine WP_aload dX3_faultOfName_24 rfl ?_
  refine WP_aload_n dX3_faultOfName_26 rfl ?_
  refine WP_getr dX3_faultOfName_27 fX3_15 rfl (lyx_is hy 3 3 rfl) (rfx hr 3 2 1 (by decide)) ?_
  refine WQ_getl dX3_faultOfName_30 fX3_80 rfl (lyx_is hy 1 5 rfl) (fun l5949 el5949 => ?_)
  refine WP_callV1 (k := 7) dX3_faultOfName_33 ⟨⟨⟨by decide, by decide⟩, zX7_sortNamed⟩, lX3_103, by decide, rfl, vX7_sortNamed.1, vX7_sortNamed.2⟩ (lyx_is hy 6 7 rfl) (sx_sortNamed_6 hy hr hI l5949 ) (Nat.le_of_ble_eq_true rfl) ?_
  intro r Ia Ja Ra hq
  obtain ⟨⟨ea, eb, ec⟩, v5950, rfl, av5950, bv5950⟩ := hq
  show WP _ _ _ _ (.int _ :: _) _ _ _ _
  rw [ea, eb, ec]
  clear ea eb ec Ia Ja Ra
  refine WP_goto 51 dX3_faultOfName_36 rfl ?_
  refine WP_istore (ls' := [(0, _), (1, _), (2, _), (3, _), (4, _), (5, _), (6, _)]) dX3_faultOfName_51 (by decide) rfl ?_
  refine WP_iload_n dX3_faultOfName_53 rfl ?_
  refine WQ_bipush (110) (110) dX3_faultOfName_54 rfl rfl (fun v5951 hv5951 => ?_)
  refine WQ_icmp_eq 65 dX3_faultOfName_56 rfl (fun c5951 => False.elim (by omega)) (fun c5951 => ?_)
  refine WP_iload_n dX3_faultOfName_59 rfl ?_
  refine WQ_bipush (109) (109) dX3_faultOfName_60 rfl rfl (fun v5953 hv5953 => ?_)
  refine WQ_icmp_ne 98 dX3_faultOfName_62 rfl (fun c5953 => ?_) (fun c5953 => False.elim (by omega))
  refine WP_iload dX3_faultOfName_98 rfl ?_
  refine WQ_iconst (-1) (-1) dX3_faultOfName_100 rfl rfl (fun v5955 hv5955 => ?_)
  refine WQ_icmp_ne 106 dX3_faultOfName_101 rfl (fun c5955 => ?_) (fun c5955 => ?_)
  · refine WP_aload_n dX3_faultOfName_106 rfl ?_
    refine WP_getr dX3_faultOfName_107 fX3_9 rfl (lyx_is hy 3 3 rfl) (rfx hr 3 3 4 (by decide)) ?_
    refine WP_iload_n dX3_faultOfName_110 rfl ?_
    refine WP_iload dX3_faultOfName_111 rfl ?_
    refine WQ_iast dX3_faultOfName_113 (lyx_is hy 4 13 rfl) (lyx_n hy 4 5 rfl) (by omega) (by omega) (fun I5957 fI5957 => ?_)
    have eI5957 := fI5957
    rw [cl (x := ix) (n := 0) (by omega)] at eI5957
    clear fI5957
    have hI5957 : XI g n L I5957 := by rw [eI5957]; exact (xi_f hy hI (c := 4) (0) (0) (1000) (by decide) (Or.inl (by decide)) (by decide) (by omega) (by omega))
    have e5958 : I5957 (ad g 1) 1 = L := by rw [eI5957, pp_ne _ _ (Or.inl (lyx_ne hy (by decide) (by decide) (by decide)))]; exact e5941
    have e5959 : I5957 (ad g 6) 1 = w5943 := by rw [eI5957, pp_ne _ _ (Or.inl (lyx_ne hy (by decide) (by decide) (by decide)))]; exact ew5943
    have e5960 : I5957 (ad g 6) 2 = w5944 := by rw [eI5957, pp_ne _ _ (Or.inl (lyx_ne hy (by decide) (by decide) (by decide)))]; exact ew5944
    have e5961 : I5957 (ad g 4) 0 = v5950 := by rw [eI5957, pp_self]
    clear eI5957
    refine WP_iload_n dX3_faultOfName_114 rfl ?_
    refine WQ_bipush (7) (7) dX3_faultOfName_115 rfl rfl (fun v5962 hv5962 => ?_)
    refine WQ_icmp_ne 137 dX3_faultOfName_117 rfl (fun c5962 => ?_) (fun c5962 => False.elim (by omega))
    refine WQ_iconst (0) (0) dX3_faultOfName_137 rfl rfl (fun v5964 hv5964 => ?_)
    exact WP_iret dX3_faultOfName_138 rfl ⟨⟨hI5957, rfl, ⟨trivial, (by rw [e5959, ew5943] <;> exact (eq32 _ _).mpr (by omega)), (by rw [e5960, ew5944] <;> exact (eq32 _ _).mpr (by omega))⟩⟩, _, rfl, by omega, by omega, by (try rw [e5961]); omega⟩
  · refine WQ_iconst (5) (5) dX3_faultOfName_104 rfl rfl (fun v5965 hv5965 => ?_)
    obtain ⟨w5966, ew5966⟩ : ∃ w : Int32, I (ad g 4) 0 = w := ⟨_, rfl⟩
    have bw5966 := BT_get hI.1 4 0 5 (0) (0) (1000) (by decide) 0 (by decide) (by decide)
    rw [ew5966] at bw5966
    exact WP_iret dX3_faultOfName_105 rfl ⟨⟨hI, rfl, ⟨trivial, rfl, rfl⟩⟩, _, rfl, by omega, by omega, by (try rw [ew5966]); omega⟩
set_option maxHeartbeats 4000000 in
set_option maxRecDepth 100000 in
theorem sx_part_6_9_0 {g : GG} {n : Int} {L : Int32} (hy : LyX g)  {I : pI} {J : pJ} {R : pR} (hr : RfX g R) (hI : XI g n L I) (pa : Int32) (cz : Int32) (ix : Int32) (pa_lo : 116 ≤ pa.toInt) (pa_hi : pa.toInt ≤ 116) (cz_lo : 9 ≤ cz.toInt) (cz_hi : cz.toInt ≤ 9) (ix_lo : 0 ≤ ix.toInt) (ix_hi : ix.toInt ≤ 0) : SP g mX3_faultOfName [.ref (ad g 3), .int pa, .int cz, .int ix, .ref (ad g 6)] I J R (fun r I' J' R' => (XI g n L I' ∧ R' = R ∧ True ∧ I' (ad g 6) 1 = I (ad g 6) 1 ∧ I' (ad g 6) 2 = I (ad g 6) 2) ∧ ∃ v : Int32, r = some (.int v) ∧ 0 ≤ v.toInt ∧ v.toInt ≤ 5 ∧ (v.toInt = 0 → (I' (ad g 4) 0).toInt ≤ 2)) := by
  refine SP_of ⟨by decide, rfl⟩ (Nat.le_of_ble_eq_true rfl) ?_
  have e5967 : I (ad g 1) 1 = L := hI.2
  have b5968 := BT_get hI.1 1 1 2 (0) (0) (900) (by decide) 1 (by decide) (by decide)
  rw [e5967] at b5968
  obtain ⟨w5969, ew5969⟩ : ∃ w : Int32, I (ad g 6) 1 = w := ⟨_, rfl⟩
  have bw5969 := BT_get hI.1 6 1 2 (0) (0) (4) (by decide) 1 (by decide) (by decide)
  rw [ew5969] at bw5969
  obtain ⟨w5970, ew5970⟩ : ∃ w : Int32, I (ad g 6) 2 = w := ⟨_, rfl⟩
  have bw5970 := BT_get hI.1 6 2 3 (0) (0) (3) (by decide) 2 (by decide) (by decide)
  rw [ew5970] at bw5970
  refine WP_iload_n dX3_faultOfName_0 rfl ?_
  refine WQ_bipush (115) (115) dX3_faultOfName_1 rfl rfl (fun v5971 hv5971 => ?_)
  refine WQ_icmp_eq 12 dX3_faultOfName_3 rfl (fun c5971 => False.elim (by omega)) (fun c5971 => ?_)
  refine WP_iload_n dX3_faultOfName_6 rfl ?_
  refine WQ_bipush (110) (110) dX3_faultOfName_7 rfl rfl (fun v5973 hv5973 => ?_)
  refine WQ_icmp_ne 16 dX3_faultOfName_9 rfl (fun c5973 => ?_) (fun c5973 => False.elim (by omega))
  refine WQ_iconst (0) (0) dX3_faultOfName_16 rfl rfl (fun v5975 hv5975 => ?_)
  refine WP_istore (ls' := [(0, _), (1, _), (2, _), (3, _), (4, _), (5, _)]) dX3_faultOfName_17 (by decide) rfl ?_
  refine WP_iload dX3_faultOfName_19 rfl ?_
  refine WQ_if_eq 39 dX3_faultOfName_21 rfl (fun c5975 => ?_) (fun c5975 => False.elim (by omega))
  refine WP_aload dX3_faultOfName_39 rfl ?_
  refine WP_aload_n dX3_faultOfName_41 rfl ?_
  refine WP_getr dX3_faultOfName_42 fX3_15 rfl (lyx_is hy 3 3 rfl) (rfx hr 3 2 1 (by decide)) ?_
  refine WQ_getl dX3_faultOfName_45 fX3_80 rfl (lyx_is hy 1 5 rfl) (fun l5977 el5977 => ?_)
  refine WP_callV1 (k := 7) dX3_faultOfName_48 ⟨⟨⟨by decide, by decide⟩, zX7_thingNamed⟩, lX3_107, by decide, rfl, vX7_thingNamed.1, vX7_thingNamed.2⟩ (lyx_is hy 6 7 rfl) (sx_thingNamed_6 hy hr hI l5977 ) (Nat.le_of_ble_eq_true rfl) ?_
  intro r Ia Ja Ra hq
  obtain ⟨⟨ea, eb, ec⟩, v5978, rfl, av5978, bv5978⟩ := hq
  show WP _ _ _ _ (.int _ :: _) _ _ _ _
  rw [ea, eb, ec]
  clear ea eb ec Ia Ja Ra
  refine WP_istore (ls' := [(0, _), (1, _), (2, _), (3, _), (4, _), (5, _), (6, _)]) dX3_faultOfName_51 (by decide) rfl ?_
  refine WP_iload_n dX3_faultOfName_53 rfl ?_
  refine WQ_bipush (110) (110) dX3_faultOfName_54 rfl rfl (fun v5979 hv5979 => ?_)
  refine WQ_icmp_eq 65 dX3_faultOfName_56 rfl (fun c5979 => False.elim (by omega)) (fun c5979 => ?_)
  refine WP_iload_n dX3_faultOfName_59 rfl ?_
  refine WQ_bipush (109) (109) dX3_faultOfName_60 rfl rfl (fun v5981 hv5981 => ?_)
  refine WQ_icmp_ne 98 dX3_faultOfName_62 rfl (fun c5981 => ?_) (fun c5981 => False.elim (by omega))
  refine WP_iload dX3_faultOfName_98 rfl ?_
  refine WQ_iconst (-1) (-1) dX3_faultOfName_100 rfl rfl (fun v5983 hv5983 => ?_)
  refine WQ_icmp_ne 106 dX3_faultOfName_101 rfl (fun c5983 => ?_) (fun c5983 => ?_)
  · refine WP_aload_n dX3_faultOfName_106 rfl ?_
    refine WP_getr dX3_faultOfName_107 fX3_9 rfl (lyx_is hy 3 3 rfl) (rfx hr 3 3 4 (by decide)) ?_
    refine WP_iload_n dX3_faultOfName_110 rfl ?_
    refine WP_iload dX3_faultOfName_111 rfl ?_
    refine WQ_iast dX3_faultOfName_113 (lyx_is hy 4 13 rfl) (lyx_n hy 4 5 rfl) (by omega) (by omega) (fun I5985 fI5985 => ?_)
    have eI5985 := fI5985
    rw [cl (x := ix) (n := 0) (by omega)] at eI5985
    clear fI5985
    have hI5985 : XI g n L I5985 := by rw [eI5985]; exact (xi_f hy hI (c := 4) (0) (0) (1000) (by decide) (Or.inl (by decide)) (by decide) (by omega) (by omega))
    have e5986 : I5985 (ad g 1) 1 = L := by rw [eI5985, pp_ne _ _ (Or.inl (lyx_ne hy (by decide) (by decide) (by decide)))]; exact e5967
    have e5987 : I5985 (ad g 6) 1 = w5969 := by rw [eI5985, pp_ne _ _ (Or.inl (lyx_ne hy (by decide) (by decide) (by decide)))]; exact ew5969
    have e5988 : I5985 (ad g 6) 2 = w5970 := by rw [eI5985, pp_ne _ _ (Or.inl (lyx_ne hy (by decide) (by decide) (by decide)))]; exact ew5970
    have e5989 : I5985 (ad g 4) 0 = v5978 := by rw [eI5985, pp_self]
    clear eI5985
    refine WP_iload_n dX3_faultOfName_114 rfl ?_
    refine WQ_bipush (7) (7) dX3_faultOfName_115 rfl rfl (fun v5990 hv5990 => ?_)
    refine WQ_icmp_ne 137 dX3_faultOfName_117 rfl (fun c5990 => ?_) (fun c5990 => False.elim (by omega))
    refine WQ_iconst (0) (0) dX3_faultOfName_137 rfl rfl (fun v5992 hv5992 => ?_)
    exact WP_iret dX3_faultOfName_138 rfl ⟨⟨hI5985, rfl, ⟨trivial, (by rw [e5987, ew5969] <;> exact (eq32 _ _).mpr (by omega)), (by rw [e5988, ew5970] <;> exact (eq32 _ _).mpr (by omega))⟩⟩, _, rfl, by omega, by omega, by (try rw [e5989]); omega⟩
  · refine WQ_iconst (5) (5) dX3_faultOfName_104 rfl rfl (fun v5993 hv5993 => ?_)
    obtain ⟨w5994, ew5994⟩ : ∃ w : Int32, I (ad g 4) 0 = w := ⟨_, rfl⟩
    have bw5994 := BT_get hI.1 4 0 5 (0) (0) (1000) (by decide) 0 (by decide) (by decide)
    rw [ew5994] at bw5994
    exact WP_iret dX3_faultOfName_105 rfl ⟨⟨hI, rfl, ⟨trivial, rfl, rfl⟩⟩, _, rfl, by omega, by omega, by (try rw [ew5994]); omega⟩
set_option maxHeartbeats 4000000 in
set_option maxRecDepth 100000 in
theorem sx_part_6_10_0 {g : GG} {n : Int} {L : Int32} (hy : LyX g)  {I : pI} {J : pJ} {R : pR} (hr : RfX g R) (hI : XI g n L I) (pa : Int32) (cz : Int32) (ix : Int32) (pa_lo : 115 ≤ pa.toInt) (pa_hi : pa.toInt ≤ 115) (cz_lo : 10 ≤ cz.toInt) (cz_hi : cz.toInt ≤ 10) (ix_lo : 0 ≤ ix.toInt) (ix_hi : ix.toInt ≤ 0) : SP g mX3_faultOfName [.ref (ad g 3), .int pa, .int cz, .int ix, .ref (ad g 6)] I J R (fun r I' J' R' => (XI g n L I' ∧ R' = R ∧ True ∧ I' (ad g 6) 1 = I (ad g 6) 1 ∧ I' (ad g 6) 2 = I (ad g 6) 2) ∧ ∃ v : Int32, r = some (.int v) ∧ 0 ≤ v.toInt ∧ v.toInt ≤ 5 ∧ (v.toInt = 0 → (I' (ad g 4) 0).toInt ≤ 3)) := by
  refine SP_of ⟨by decide, rfl⟩ (Nat.le_of_ble_eq_true rfl) ?_
  have e5995 : I (ad g 1) 1 = L := hI.2
  have b5996 := BT_get hI.1 1 1 2 (0) (0) (900) (by decide) 1 (by decide) (by decide)
  rw [e5995] at b5996
  obtain ⟨w5997, ew5997⟩ : ∃ w : Int32, I (ad g 6) 1 = w := ⟨_, rfl⟩
  have bw5997 := BT_get hI.1 6 1 2 (0) (0) (4) (by decide) 1 (by decide) (by decide)
  rw [ew5997] at bw5997
  obtain ⟨w5998, ew5998⟩ : ∃ w : Int32, I (ad g 6) 2 = w := ⟨_, rfl⟩
  have bw5998 := BT_get hI.1 6 2 3 (0) (0) (3) (by decide) 2 (by decide) (by decide)
  rw [ew5998] at bw5998
  refine WP_iload_n dX3_faultOfName_0 rfl ?_
  refine WQ_bipush (115) (115) dX3_faultOfName_1 rfl rfl (fun v5999 hv5999 => ?_)
  refine WQ_icmp_eq 12 dX3_faultOfName_3 rfl (fun c5999 => ?_) (fun c5999 => False.elim (by omega))
  refine WQ_iconst (1) (1) dX3_faultOfName_12 rfl rfl (fun v6001 hv6001 => ?_)
  refine WP_goto 17 dX3_faultOfName_13 rfl ?_
  refine WP_istore (ls' := [(0, _), (1, _), (2, _), (3, _), (4, _), (5, _)]) dX3_faultOfName_17 (by decide) rfl ?_
  refine WP_iload dX3_faultOfName_19 rfl ?_
  refine WQ_if_eq 39 dX3_faultOfName_21 rfl (fun c6001 => False.elim (by omega)) (fun c6001 => ?_)
  refine WP_aload dX3_faultOfName_24 rfl ?_
  refine WP_aload_n dX3_faultOfName_26 rfl ?_
  refine WP_getr dX3_faultOfName_27 fX3_15 rfl (lyx_is hy 3 3 rfl) (rfx hr 3 2 1 (by decide)) ?_
  refine WQ_getl dX3_faultOfName_30 fX3_80 rfl (lyx_is hy 1 5 rfl) (fun l6003 el6003 => ?_)
  refine WP_callV1 (k := 7) dX3_faultOfName_33 ⟨⟨⟨by decide, by decide⟩, zX7_sortNamed⟩, lX3_103, by decide, rfl, vX7_sortNamed.1, vX7_sortNamed.2⟩ (lyx_is hy 6 7 rfl) (sx_sortNamed_6 hy hr hI l6003 ) (Nat.le_of_ble_eq_true rfl) ?_
  intro r Ia Ja Ra hq
  obtain ⟨⟨ea, eb, ec⟩, v6004, rfl, av6004, bv6004⟩ := hq
  show WP _ _ _ _ (.int _ :: _) _ _ _ _
  rw [ea, eb, ec]
  clear ea eb ec Ia Ja Ra
  refine WP_goto 51 dX3_faultOfName_36 rfl ?_
  refine WP_istore (ls' := [(0, _), (1, _), (2, _), (3, _), (4, _), (5, _), (6, _)]) dX3_faultOfName_51 (by decide) rfl ?_
  refine WP_iload_n dX3_faultOfName_53 rfl ?_
  refine WQ_bipush (110) (110) dX3_faultOfName_54 rfl rfl (fun v6005 hv6005 => ?_)
  refine WQ_icmp_eq 65 dX3_faultOfName_56 rfl (fun c6005 => False.elim (by omega)) (fun c6005 => ?_)
  refine WP_iload_n dX3_faultOfName_59 rfl ?_
  refine WQ_bipush (109) (109) dX3_faultOfName_60 rfl rfl (fun v6007 hv6007 => ?_)
  refine WQ_icmp_ne 98 dX3_faultOfName_62 rfl (fun c6007 => ?_) (fun c6007 => False.elim (by omega))
  refine WP_iload dX3_faultOfName_98 rfl ?_
  refine WQ_iconst (-1) (-1) dX3_faultOfName_100 rfl rfl (fun v6009 hv6009 => ?_)
  refine WQ_icmp_ne 106 dX3_faultOfName_101 rfl (fun c6009 => ?_) (fun c6009 => ?_)
  · refine WP_aload_n dX3_faultOfName_106 rfl ?_
    refine WP_getr dX3_faultOfName_107 fX3_9 rfl (lyx_is hy 3 3 rfl) (rfx hr 3 3 4 (by decide)) ?_
    refine WP_iload_n dX3_faultOfName_110 rfl ?_
    refine WP_iload dX3_faultOfName_111 rfl ?_
    refine WQ_iast dX3_faultOfName_113 (lyx_is hy 4 13 rfl) (lyx_n hy 4 5 rfl) (by omega) (by omega) (fun I6011 fI6011 => ?_)
    have eI6011 := fI6011
    rw [cl (x := ix) (n := 0) (by omega)] at eI6011
    clear fI6011
    have hI6011 : XI g n L I6011 := by rw [eI6011]; exact (xi_f hy hI (c := 4) (0) (0) (1000) (by decide) (Or.inl (by decide)) (by decide) (by omega) (by omega))
    have e6012 : I6011 (ad g 1) 1 = L := by rw [eI6011, pp_ne _ _ (Or.inl (lyx_ne hy (by decide) (by decide) (by decide)))]; exact e5995
    have e6013 : I6011 (ad g 6) 1 = w5997 := by rw [eI6011, pp_ne _ _ (Or.inl (lyx_ne hy (by decide) (by decide) (by decide)))]; exact ew5997
    have e6014 : I6011 (ad g 6) 2 = w5998 := by rw [eI6011, pp_ne _ _ (Or.inl (lyx_ne hy (by decide) (by decide) (by decide)))]; exact ew5998
    have e6015 : I6011 (ad g 4) 0 = v6004 := by rw [eI6011, pp_self]
    clear eI6011
    refine WP_iload_n dX3_faultOfName_114 rfl ?_
    refine WQ_bipush (7) (7) dX3_faultOfName_115 rfl rfl (fun v6016 hv6016 => ?_)
    refine WQ_icmp_ne 137 dX3_faultOfName_117 rfl (fun c6016 => ?_) (fun c6016 => False.elim (by omega))
    refine WQ_iconst (0) (0) dX3_faultOfName_137 rfl rfl (fun v6018 hv6018 => ?_)
    exact WP_iret dX3_faultOfName_138 rfl ⟨⟨hI6011, rfl, ⟨trivial, (by rw [e6013, ew5997] <;> exact (eq32 _ _).mpr (by omega)), (by rw [e6014, ew5998] <;> exact (eq32 _ _).mpr (by omega))⟩⟩, _, rfl, by omega, by omega, by (try rw [e6015]); omega⟩
  · refine WQ_iconst (5) (5) dX3_faultOfName_104 rfl rfl (fun v6019 hv6019 => ?_)
    obtain ⟨w6020, ew6020⟩ : ∃ w : Int32, I (ad g 4) 0 = w := ⟨_, rfl⟩
    have bw6020 := BT_get hI.1 4 0 5 (0) (0) (1000) (by decide) 0 (by decide) (by decide)
    rw [ew6020] at bw6020
    exact WP_iret dX3_faultOfName_105 rfl ⟨⟨hI, rfl, ⟨trivial, rfl, rfl⟩⟩, _, rfl, by omega, by omega, by (try rw [ew6020]); omega⟩
set_option maxHeartbeats 4000000 in
set_option maxRecDepth 100000 in
theorem sx_part_6_10_1 {g : GG} {n : Int} {L : Int32} (hy : LyX g)  {I : pI} {J : pJ} {R : pR} (hr : RfX g R) (hI : XI g n L I) (pa : Int32) (cz : Int32) (ix : Int32) (pa_lo : 116 ≤ pa.toInt) (pa_hi : pa.toInt ≤ 116) (cz_lo : 10 ≤ cz.toInt) (cz_hi : cz.toInt ≤ 10) (ix_lo : 1 ≤ ix.toInt) (ix_hi : ix.toInt ≤ 1) : SP g mX3_faultOfName [.ref (ad g 3), .int pa, .int cz, .int ix, .ref (ad g 6)] I J R (fun r I' J' R' => (XI g n L I' ∧ R' = R ∧ True ∧ I' (ad g 4) 0 = I (ad g 4) 0 ∧ I' (ad g 6) 1 = I (ad g 6) 1 ∧ I' (ad g 6) 2 = I (ad g 6) 2) ∧ ∃ v : Int32, r = some (.int v) ∧ 0 ≤ v.toInt ∧ v.toInt ≤ 5 ∧ (v.toInt = 0 → (I' (ad g 4) 1).toInt ≤ 2)) := by
  refine SP_of ⟨by decide, rfl⟩ (Nat.le_of_ble_eq_true rfl) ?_
  have e6021 : I (ad g 1) 1 = L := hI.2
  have b6022 := BT_get hI.1 1 1 2 (0) (0) (900) (by decide) 1 (by decide) (by decide)
  rw [e6021] at b6022
  obtain ⟨w6023, ew6023⟩ : ∃ w : Int32, I (ad g 4) 0 = w := ⟨_, rfl⟩
  have bw6023 := BT_get hI.1 4 0 5 (0) (0) (1000) (by decide) 0 (by decide) (by decide)
  rw [ew6023] at bw6023
  obtain ⟨w6024, ew6024⟩ : ∃ w : Int32, I (ad g 6) 1 = w := ⟨_, rfl⟩
  have bw6024 := BT_get hI.1 6 1 2 (0) (0) (4) (by decide) 1 (by decide) (by decide)
  rw [ew6024] at bw6024
  obtain ⟨w6025, ew6025⟩ : ∃ w : Int32, I (ad g 6) 2 = w := ⟨_, rfl⟩
  have bw6025 := BT_get hI.1 6 2 3 (0) (0) (3) (by decide) 2 (by decide) (by decide)
  rw [ew6025] at bw6025
  refine WP_iload_n dX3_faultOfName_0 rfl ?_
  refine WQ_bipush (115) (115) dX3_faultOfName_1 rfl rfl (fun v6026 hv6026 => ?_)
  refine WQ_icmp_eq 12 dX3_faultOfName_3 rfl (fun c6026 => False.elim (by omega)) (fun c6026 => ?_)
  refine WP_iload_n dX3_faultOfName_6 rfl ?_
  refine WQ_bipush (110) (110) dX3_faultOfName_7 rfl rfl (fun v6028 hv6028 => ?_)
  refine WQ_icmp_ne 16 dX3_faultOfName_9 rfl (fun c6028 => ?_) (fun c6028 => False.elim (by omega))
  refine WQ_iconst (0) (0) dX3_faultOfName_16 rfl rfl (fun v6030 hv6030 => ?_)
  refine WP_istore (ls' := [(0, _), (1, _), (2, _), (3, _), (4, _), (5, _)]) dX3_faultOfName_17 (by decide) rfl ?_
  refine WP_iload dX3_faultOfName_19 rfl ?_
  refine WQ_if_eq 39 dX3_faultOfName_21 rfl (fun c6030 => ?_) (fun c6030 => False.elim (by omega))
  refine WP_aload dX3_faultOfName_39 rfl ?_
  refine WP_aload_n dX3_faultOfName_41 rfl ?_
  refine WP_getr dX3_faultOfName_42 fX3_15 rfl (lyx_is hy 3 3 rfl) (rfx hr 3 2 1 (by decide)) ?_
  refine WQ_getl dX3_faultOfName_45 fX3_80 rfl (lyx_is hy 1 5 rfl) (fun l6032 el6032 => ?_)
  refine WP_callV1 (k := 7) dX3_faultOfName_48 ⟨⟨⟨by decide, by decide⟩, zX7_thingNamed⟩, lX3_107, by decide, rfl, vX7_thingNamed.1, vX7_thingNamed.2⟩ (lyx_is hy 6 7 rfl) (sx_thingNamed_6 hy hr hI l6032 ) (Nat.le_of_ble_eq_true rfl) ?_
  intro r Ia Ja Ra hq
  obtain ⟨⟨ea, eb, ec⟩, v6033, rfl, av6033, bv6033⟩ := hq
  show WP _ _ _ _ (.int _ :: _) _ _ _ _
  rw [ea, eb, ec]
  clear ea eb ec Ia Ja Ra
  refine WP_istore (ls' := [(0, _), (1, _), (2, _), (3, _), (4, _), (5, _), (6, _)]) dX3_faultOfName_51 (by decide) rfl ?_
  refine WP_iload_n dX3_faultOfName_53 rfl ?_
  refine WQ_bipush (110) (110) dX3_faultOfName_54 rfl rfl (fun v6034 hv6034 => ?_)
  refine WQ_icmp_eq 65 dX3_faultOfName_56 rfl (fun c6034 => False.elim (by omega)) (fun c6034 => ?_)
  refine WP_iload_n dX3_faultOfName_59 rfl ?_
  refine WQ_bipush (109) (109) dX3_faultOfName_60 rfl rfl (fun v6036 hv6036 => ?_)
  refine WQ_icmp_ne 98 dX3_faultOfName_62 rfl (fun c6036 => ?_) (fun c6036 => False.elim (by omega))
  refine WP_iload dX3_faultOfName_98 rfl ?_
  refine WQ_iconst (-1) (-1) dX3_faultOfName_100 rfl rfl (fun v6038 hv6038 => ?_)
  refine WQ_icmp_ne 106 dX3_faultOfName_101 rfl (fun c6038 => ?_) (fun c6038 => ?_)
  · refine WP_aload_n dX3_faultOfName_106 rfl ?_
    refine WP_getr dX3_faultOfName_107 fX3_9 rfl (lyx_is hy 3 3 rfl) (rfx hr 3 3 4 (by decide)) ?_
    refine WP_iload_n dX3_faultOfName_110 rfl ?_
    refine WP_iload dX3_faultOfName_111 rfl ?_
    refine WQ_iast dX3_faultOfName_113 (lyx_is hy 4 13 rfl) (lyx_n hy 4 5 rfl) (by omega) (by omega) (fun I6040 fI6040 => ?_)
    have eI6040 := fI6040
    rw [cl (x := ix) (n := 1) (by omega)] at eI6040
    clear fI6040
    have hI6040 : XI g n L I6040 := by rw [eI6040]; exact (xi_f hy hI (c := 4) (0) (0) (1000) (by decide) (Or.inl (by decide)) (by decide) (by omega) (by omega))
    have e6041 : I6040 (ad g 1) 1 = L := by rw [eI6040, pp_ne _ _ (Or.inl (lyx_ne hy (by decide) (by decide) (by decide)))]; exact e6021
    have e6042 : I6040 (ad g 4) 0 = w6023 := by rw [eI6040, pp_ne _ _ (Or.inr (by decide))]; exact ew6023
    have e6043 : I6040 (ad g 6) 1 = w6024 := by rw [eI6040, pp_ne _ _ (Or.inl (lyx_ne hy (by decide) (by decide) (by decide)))]; exact ew6024
    have e6044 : I6040 (ad g 6) 2 = w6025 := by rw [eI6040, pp_ne _ _ (Or.inl (lyx_ne hy (by decide) (by decide) (by decide)))]; exact ew6025
    have e6045 : I6040 (ad g 4) 1 = v6033 := by rw [eI6040, pp_self]
    clear eI6040
    refine WP_iload_n dX3_faultOfName_114 rfl ?_
    refine WQ_bipush (7) (7) dX3_faultOfName_115 rfl rfl (fun v6046 hv6046 => ?_)
    refine WQ_icmp_ne 137 dX3_faultOfName_117 rfl (fun c6046 => ?_) (fun c6046 => False.elim (by omega))
    refine WQ_iconst (0) (0) dX3_faultOfName_137 rfl rfl (fun v6048 hv6048 => ?_)
    exact WP_iret dX3_faultOfName_138 rfl ⟨⟨hI6040, rfl, ⟨trivial, (by rw [e6042, ew6023] <;> exact (eq32 _ _).mpr (by omega)), (by rw [e6043, ew6024] <;> exact (eq32 _ _).mpr (by omega)), (by rw [e6044, ew6025] <;> exact (eq32 _ _).mpr (by omega))⟩⟩, _, rfl, by omega, by omega, by (try rw [e6045]); omega⟩
  · refine WQ_iconst (5) (5) dX3_faultOfName_104 rfl rfl (fun v6049 hv6049 => ?_)
    obtain ⟨w6050, ew6050⟩ : ∃ w : Int32, I (ad g 4) 1 = w := ⟨_, rfl⟩
    have bw6050 := BT_get hI.1 4 0 5 (0) (0) (1000) (by decide) 1 (by decide) (by decide)
    rw [ew6050] at bw6050
    exact WP_iret dX3_faultOfName_105 rfl ⟨⟨hI, rfl, ⟨trivial, rfl, rfl, rfl⟩⟩, _, rfl, by omega, by omega, by (try rw [ew6050]); omega⟩
set_option maxHeartbeats 4000000 in
set_option maxRecDepth 100000 in
theorem sx_part_6_10_2 {g : GG} {n : Int} {L : Int32} (hy : LyX g)  {I : pI} {J : pJ} {R : pR} (hr : RfX g R) (hI : XI g n L I) (pa : Int32) (cz : Int32) (ix : Int32) (pa_lo : 68 ≤ pa.toInt) (pa_hi : pa.toInt ≤ 68) (cz_lo : 10 ≤ cz.toInt) (cz_hi : cz.toInt ≤ 10) (ix_lo : 2 ≤ ix.toInt) (ix_hi : ix.toInt ≤ 2) (hb : (I (ad g 4) 0).toInt ≤ 3) : SP g mX3_faultOfNumber [.ref (ad g 3), .int pa, .int cz, .int ix, .ref (ad g 6)] I J R (fun r I' J' R' => (XI g n L I' ∧ R' = R ∧ True ∧ I' (ad g 4) 0 = I (ad g 4) 0 ∧ I' (ad g 4) 1 = I (ad g 4) 1 ∧ I' (ad g 6) 1 = I (ad g 6) 1 ∧ I' (ad g 6) 2 = I (ad g 6) 2) ∧ ∃ v : Int32, r = some (.int v) ∧ 0 ≤ v.toInt ∧ v.toInt ≤ 5 ∧ (v.toInt = 0 → (I' (ad g 4) 2).toInt ≤ 6)) := by
  refine SP_of ⟨by decide, rfl⟩ (Nat.le_of_ble_eq_true rfl) ?_
  have e6051 : I (ad g 1) 1 = L := hI.2
  have b6052 := BT_get hI.1 1 1 2 (0) (0) (900) (by decide) 1 (by decide) (by decide)
  rw [e6051] at b6052
  obtain ⟨w6053, ew6053⟩ : ∃ w : Int32, I (ad g 4) 0 = w := ⟨_, rfl⟩
  have bw6053 := BT_get hI.1 4 0 5 (0) (0) (1000) (by decide) 0 (by decide) (by decide)
  rw [ew6053] at bw6053
  obtain ⟨w6054, ew6054⟩ : ∃ w : Int32, I (ad g 4) 1 = w := ⟨_, rfl⟩
  have bw6054 := BT_get hI.1 4 0 5 (0) (0) (1000) (by decide) 1 (by decide) (by decide)
  rw [ew6054] at bw6054
  obtain ⟨w6055, ew6055⟩ : ∃ w : Int32, I (ad g 6) 1 = w := ⟨_, rfl⟩
  have bw6055 := BT_get hI.1 6 1 2 (0) (0) (4) (by decide) 1 (by decide) (by decide)
  rw [ew6055] at bw6055
  obtain ⟨w6056, ew6056⟩ : ∃ w : Int32, I (ad g 6) 2 = w := ⟨_, rfl⟩
  have bw6056 := BT_get hI.1 6 2 3 (0) (0) (3) (by decide) 2 (by decide) (by decide)
  rw [ew6056] at bw6056
  rw [ew6053] at hb
  refine WP_aload_n dX3_faultOfNumber_0 rfl ?_
  refine WP_getr dX3_faultOfNumber_1 fX3_15 rfl (lyx_is hy 3 3 rfl) (rfx hr 3 2 1 (by decide)) ?_
  refine WQ_getiu dX3_faultOfNumber_4 fX3_118 rfl (lyx_is hy 1 5 rfl) (fun v6057 ev6057 => ?_)
  refine WP_istore (ls' := [(0, _), (1, _), (2, _), (3, _), (4, _), (5, _)]) dX3_faultOfNumber_7 (by decide) rfl ?_
  refine WP_iload dX3_faultOfNumber_9 rfl ?_
  refine WP_iload_n dX3_faultOfNumber_11 rfl ?_
  refine WP_callS1 dX3_faultOfNumber_12 ⟨⟨⟨by decide, by decide⟩, zX3_leastOf⟩, lX3_121, tX3_leastOf⟩ (sx_leastOf hy hr hI pa ) (Nat.le_of_ble_eq_true rfl) ?_
  intro r Ia Ja Ra hq
  obtain ⟨⟨ea, eb, ec⟩, v6058, rfl, av6058, bv6058⟩ := hq
  show WP _ _ _ _ (.int _ :: _) _ _ _ _
  rw [ea, eb, ec]
  clear ea eb ec Ia Ja Ra
  refine WQ_icmp_lt 27 dX3_faultOfNumber_15 rfl (fun c6058 => ?_) (fun c6058 => ?_)
  · refine WQ_iconst (2) (2) dX3_faultOfNumber_27 rfl rfl (fun v6060 hv6060 => ?_)
    obtain ⟨w6061, ew6061⟩ : ∃ w : Int32, I (ad g 4) 2 = w := ⟨_, rfl⟩
    have bw6061 := BT_get hI.1 4 0 5 (0) (0) (1000) (by decide) 2 (by decide) (by decide)
    rw [ew6061] at bw6061
    exact WP_iret dX3_faultOfNumber_28 rfl ⟨⟨hI, rfl, ⟨trivial, rfl, rfl, rfl, rfl⟩⟩, _, rfl, by omega, by omega, by (try rw [ew6061]); omega⟩
  · refine WP_iload dX3_faultOfNumber_18 rfl ?_
    refine WP_iload_n dX3_faultOfNumber_20 rfl ?_
    refine WP_callS1 dX3_faultOfNumber_21 ⟨⟨⟨by decide, by decide⟩, zX3_mostOf⟩, lX3_125, tX3_mostOf⟩ (sx_mostOf hy hr hI pa ) (Nat.le_of_ble_eq_true rfl) ?_
    intro r Ia Ja Ra hq
    obtain ⟨⟨ea, eb, ec⟩, v6062, rfl, av6062, bv6062, cv6062⟩ := hq
    show WP _ _ _ _ (.int _ :: _) _ _ _ _
    rw [ea, eb, ec]
    clear ea eb ec Ia Ja Ra
    refine WQ_icmp_le 29 dX3_faultOfNumber_24 rfl (fun c6062 => ?_) (fun c6062 => ?_)
    · refine WP_aload_n dX3_faultOfNumber_29 rfl ?_
      refine WP_getr dX3_faultOfNumber_30 fX3_9 rfl (lyx_is hy 3 3 rfl) (rfx hr 3 3 4 (by decide)) ?_
      refine WP_iload_n dX3_faultOfNumber_33 rfl ?_
      refine WP_iload dX3_faultOfNumber_34 rfl ?_
      refine WQ_iast dX3_faultOfNumber_36 (lyx_is hy 4 13 rfl) (lyx_n hy 4 5 rfl) (by omega) (by omega) (fun I6064 fI6064 => ?_)
      have eI6064 := fI6064
      rw [cl (x := ix) (n := 2) (by omega)] at eI6064
      clear fI6064
      have hI6064 : XI g n L I6064 := by rw [eI6064]; exact (xi_f hy hI (c := 4) (0) (0) (1000) (by decide) (Or.inl (by decide)) (by decide) (by omega) (by omega))
      have e6065 : I6064 (ad g 1) 1 = L := by rw [eI6064, pp_ne _ _ (Or.inl (lyx_ne hy (by decide) (by decide) (by decide)))]; exact e6051
      have e6066 : I6064 (ad g 4) 0 = w6053 := by rw [eI6064, pp_ne _ _ (Or.inr (by decide))]; exact ew6053
      have e6067 : I6064 (ad g 4) 1 = w6054 := by rw [eI6064, pp_ne _ _ (Or.inr (by decide))]; exact ew6054
      have e6068 : I6064 (ad g 6) 1 = w6055 := by rw [eI6064, pp_ne _ _ (Or.inl (lyx_ne hy (by decide) (by decide) (by decide)))]; exact ew6055
      have e6069 : I6064 (ad g 6) 2 = w6056 := by rw [eI6064, pp_ne _ _ (Or.inl (lyx_ne hy (by decide) (by decide) (by decide)))]; exact ew6056
      have e6070 : I6064 (ad g 1) 4 = v6057 := by rw [eI6064, pp_ne _ _ (Or.inl (lyx_ne hy (by decide) (by decide) (by decide)))]; exact ev6057
      have e6071 : I6064 (ad g 4) 2 = v6057 := by rw [eI6064, pp_self]
      clear eI6064
      refine WP_iload_n dX3_faultOfNumber_37 rfl ?_
      refine WQ_bipush (68) (68) dX3_faultOfNumber_38 rfl rfl (fun v6072 hv6072 => ?_)
      refine WQ_icmp_eq 45 dX3_faultOfNumber_40 rfl (fun c6072 => ?_) (fun c6072 => False.elim (by omega))
      refine WP_aload dX3_faultOfNumber_45 rfl ?_
      refine WP_iload_n dX3_faultOfNumber_47 rfl ?_
      refine WP_iload_n dX3_faultOfNumber_48 rfl ?_
      refine WQ_if_ne 56 dX3_faultOfNumber_49 rfl (fun c6073 => ?_) (fun c6073 => False.elim (by omega))
      refine WP_aload_n dX3_faultOfNumber_56 rfl ?_
      refine WP_getr dX3_faultOfNumber_57 fX3_9 rfl (lyx_is hy 3 3 rfl) (rfx hr 3 3 4 (by decide)) ?_
      refine WQ_iconst (0) (0) dX3_faultOfNumber_60 rfl rfl (fun v6075 hv6075 => ?_)
      refine WQ_ialdm (z := 0) dX3_faultOfNumber_61 (lyx_is hy 4 13 rfl) (lyx_n hy 4 5 rfl) hv6075 (by decide) e6066 ?_
      refine WP_iload dX3_faultOfNumber_62 rfl ?_
      refine WP_callV3 (k := 7) dX3_faultOfNumber_64 ⟨⟨⟨by decide, by decide⟩, zX7_isTold⟩, lX3_114, by decide, rfl, vX7_isTold.1, vX7_isTold.2⟩ (lyx_is hy 6 7 rfl) (sx_isTold_6 hy hr hI6064 cz w6053 v6057 (by omega) (by omega) (by omega) (by omega) ) (Nat.le_of_ble_eq_true rfl) ?_
      intro r Ia Ja Ra hq
      obtain ⟨⟨ea, eb, ec⟩, v6077, rfl, av6077, bv6077⟩ := hq
      show WP _ _ _ _ (.int _ :: _) _ _ _ _
      rw [ea, eb, ec]
      clear ea eb ec Ia Ja Ra
      refine WQ_if_eq 74 dX3_faultOfNumber_67 rfl (fun c6077 => ?_) (fun c6077 => ?_)
      · refine WQ_iconst (0) (0) dX3_faultOfNumber_74 rfl rfl (fun v6079 hv6079 => ?_)
        exact WP_iret dX3_faultOfNumber_75 rfl ⟨⟨hI6064, rfl, ⟨trivial, (by rw [e6066, ew6053] <;> exact (eq32 _ _).mpr (by omega)), (by rw [e6067, ew6054] <;> exact (eq32 _ _).mpr (by omega)), (by rw [e6068, ew6055] <;> exact (eq32 _ _).mpr (by omega)), (by rw [e6069, ew6056] <;> exact (eq32 _ _).mpr (by omega))⟩⟩, _, rfl, by omega, by omega, by (try rw [e6071]); omega⟩
      · refine WQ_iconst (3) (3) dX3_faultOfNumber_70 rfl rfl (fun v6080 hv6080 => ?_)
        refine WP_goto 75 dX3_faultOfNumber_71 rfl ?_
        exact WP_iret dX3_faultOfNumber_75 rfl ⟨⟨hI6064, rfl, ⟨trivial, (by rw [e6066, ew6053] <;> exact (eq32 _ _).mpr (by omega)), (by rw [e6067, ew6054] <;> exact (eq32 _ _).mpr (by omega)), (by rw [e6068, ew6055] <;> exact (eq32 _ _).mpr (by omega)), (by rw [e6069, ew6056] <;> exact (eq32 _ _).mpr (by omega))⟩⟩, _, rfl, by omega, by omega, by (try rw [e6071]); omega⟩
    · refine WQ_iconst (2) (2) dX3_faultOfNumber_27 rfl rfl (fun v6081 hv6081 => ?_)
      obtain ⟨w6082, ew6082⟩ : ∃ w : Int32, I (ad g 4) 2 = w := ⟨_, rfl⟩
      have bw6082 := BT_get hI.1 4 0 5 (0) (0) (1000) (by decide) 2 (by decide) (by decide)
      rw [ew6082] at bw6082
      exact WP_iret dX3_faultOfNumber_28 rfl ⟨⟨hI, rfl, ⟨trivial, rfl, rfl, rfl, rfl⟩⟩, _, rfl, by omega, by omega, by (try rw [ew6082]); omega⟩
set_option maxHeartbeats 4000000 in
set_option maxRecDepth 100000 in
theorem sx_part_6_10_3 {g : GG} {n : Int} {L : Int32} (hy : LyX g)  {I : pI} {J : pJ} {R : pR} (hr : RfX g R) (hI : XI g n L I) (pa : Int32) (cz : Int32) (ix : Int32) (pa_lo : 85 ≤ pa.toInt) (pa_hi : pa.toInt ≤ 85) (cz_lo : 10 ≤ cz.toInt) (cz_hi : cz.toInt ≤ 10) (ix_lo : 3 ≤ ix.toInt) (ix_hi : ix.toInt ≤ 3) : SP g mX3_faultOfNumber [.ref (ad g 3), .int pa, .int cz, .int ix, .ref (ad g 6)] I J R (fun r I' J' R' => (XI g n L I' ∧ R' = R ∧ True ∧ I' (ad g 4) 0 = I (ad g 4) 0 ∧ I' (ad g 4) 1 = I (ad g 4) 1 ∧ I' (ad g 4) 2 = I (ad g 4) 2 ∧ I' (ad g 6) 1 = I (ad g 6) 1 ∧ I' (ad g 6) 2 = I (ad g 6) 2) ∧ ∃ v : Int32, r = some (.int v) ∧ 0 ≤ v.toInt ∧ v.toInt ≤ 5 ∧ (v.toInt = 0 → (I' (ad g 4) 3).toInt ≤ 3)) := by
  refine SP_of ⟨by decide, rfl⟩ (Nat.le_of_ble_eq_true rfl) ?_
  have e6083 : I (ad g 1) 1 = L := hI.2
  have b6084 := BT_get hI.1 1 1 2 (0) (0) (900) (by decide) 1 (by decide) (by decide)
  rw [e6083] at b6084
  obtain ⟨w6085, ew6085⟩ : ∃ w : Int32, I (ad g 4) 0 = w := ⟨_, rfl⟩
  have bw6085 := BT_get hI.1 4 0 5 (0) (0) (1000) (by decide) 0 (by decide) (by decide)
  rw [ew6085] at bw6085
  obtain ⟨w6086, ew6086⟩ : ∃ w : Int32, I (ad g 4) 1 = w := ⟨_, rfl⟩
  have bw6086 := BT_get hI.1 4 0 5 (0) (0) (1000) (by decide) 1 (by decide) (by decide)
  rw [ew6086] at bw6086
  obtain ⟨w6087, ew6087⟩ : ∃ w : Int32, I (ad g 4) 2 = w := ⟨_, rfl⟩
  have bw6087 := BT_get hI.1 4 0 5 (0) (0) (1000) (by decide) 2 (by decide) (by decide)
  rw [ew6087] at bw6087
  obtain ⟨w6088, ew6088⟩ : ∃ w : Int32, I (ad g 6) 1 = w := ⟨_, rfl⟩
  have bw6088 := BT_get hI.1 6 1 2 (0) (0) (4) (by decide) 1 (by decide) (by decide)
  rw [ew6088] at bw6088
  obtain ⟨w6089, ew6089⟩ : ∃ w : Int32, I (ad g 6) 2 = w := ⟨_, rfl⟩
  have bw6089 := BT_get hI.1 6 2 3 (0) (0) (3) (by decide) 2 (by decide) (by decide)
  rw [ew6089] at bw6089
  refine WP_aload_n dX3_faultOfNumber_0 rfl ?_
  refine WP_getr dX3_faultOfNumber_1 fX3_15 rfl (lyx_is hy 3 3 rfl) (rfx hr 3 2 1 (by decide)) ?_
  refine WQ_getiu dX3_faultOfNumber_4 fX3_118 rfl (lyx_is hy 1 5 rfl) (fun v6090 ev6090 => ?_)
  refine WP_istore (ls' := [(0, _), (1, _), (2, _), (3, _), (4, _), (5, _)]) dX3_faultOfNumber_7 (by decide) rfl ?_
  refine WP_iload dX3_faultOfNumber_9 rfl ?_
  refine WP_iload_n dX3_faultOfNumber_11 rfl ?_
  refine WP_callS1 dX3_faultOfNumber_12 ⟨⟨⟨by decide, by decide⟩, zX3_leastOf⟩, lX3_121, tX3_leastOf⟩ (sx_leastOf hy hr hI pa ) (Nat.le_of_ble_eq_true rfl) ?_
  intro r Ia Ja Ra hq
  obtain ⟨⟨ea, eb, ec⟩, v6091, rfl, av6091, bv6091⟩ := hq
  show WP _ _ _ _ (.int _ :: _) _ _ _ _
  rw [ea, eb, ec]
  clear ea eb ec Ia Ja Ra
  refine WQ_icmp_lt 27 dX3_faultOfNumber_15 rfl (fun c6091 => ?_) (fun c6091 => ?_)
  · refine WQ_iconst (2) (2) dX3_faultOfNumber_27 rfl rfl (fun v6093 hv6093 => ?_)
    obtain ⟨w6094, ew6094⟩ : ∃ w : Int32, I (ad g 4) 3 = w := ⟨_, rfl⟩
    have bw6094 := BT_get hI.1 4 0 5 (0) (0) (1000) (by decide) 3 (by decide) (by decide)
    rw [ew6094] at bw6094
    exact WP_iret dX3_faultOfNumber_28 rfl ⟨⟨hI, rfl, ⟨trivial, rfl, rfl, rfl, rfl, rfl⟩⟩, _, rfl, by omega, by omega, by (try rw [ew6094]); omega⟩
  · refine WP_iload dX3_faultOfNumber_18 rfl ?_
    refine WP_iload_n dX3_faultOfNumber_20 rfl ?_
    refine WP_callS1 dX3_faultOfNumber_21 ⟨⟨⟨by decide, by decide⟩, zX3_mostOf⟩, lX3_125, tX3_mostOf⟩ (sx_mostOf hy hr hI pa ) (Nat.le_of_ble_eq_true rfl) ?_
    intro r Ia Ja Ra hq
    obtain ⟨⟨ea, eb, ec⟩, v6095, rfl, av6095, bv6095, cv6095⟩ := hq
    show WP _ _ _ _ (.int _ :: _) _ _ _ _
    rw [ea, eb, ec]
    clear ea eb ec Ia Ja Ra
    refine WQ_icmp_le 29 dX3_faultOfNumber_24 rfl (fun c6095 => ?_) (fun c6095 => ?_)
    · refine WP_aload_n dX3_faultOfNumber_29 rfl ?_
      refine WP_getr dX3_faultOfNumber_30 fX3_9 rfl (lyx_is hy 3 3 rfl) (rfx hr 3 3 4 (by decide)) ?_
      refine WP_iload_n dX3_faultOfNumber_33 rfl ?_
      refine WP_iload dX3_faultOfNumber_34 rfl ?_
      refine WQ_iast dX3_faultOfNumber_36 (lyx_is hy 4 13 rfl) (lyx_n hy 4 5 rfl) (by omega) (by omega) (fun I6097 fI6097 => ?_)
      have eI6097 := fI6097
      rw [cl (x := ix) (n := 3) (by omega)] at eI6097
      clear fI6097
      have hI6097 : XI g n L I6097 := by rw [eI6097]; exact (xi_f hy hI (c := 4) (0) (0) (1000) (by decide) (Or.inl (by decide)) (by decide) (by omega) (by omega))
      have e6098 : I6097 (ad g 1) 1 = L := by rw [eI6097, pp_ne _ _ (Or.inl (lyx_ne hy (by decide) (by decide) (by decide)))]; exact e6083
      have e6099 : I6097 (ad g 4) 0 = w6085 := by rw [eI6097, pp_ne _ _ (Or.inr (by decide))]; exact ew6085
      have e6100 : I6097 (ad g 4) 1 = w6086 := by rw [eI6097, pp_ne _ _ (Or.inr (by decide))]; exact ew6086
      have e6101 : I6097 (ad g 4) 2 = w6087 := by rw [eI6097, pp_ne _ _ (Or.inr (by decide))]; exact ew6087
      have e6102 : I6097 (ad g 6) 1 = w6088 := by rw [eI6097, pp_ne _ _ (Or.inl (lyx_ne hy (by decide) (by decide) (by decide)))]; exact ew6088
      have e6103 : I6097 (ad g 6) 2 = w6089 := by rw [eI6097, pp_ne _ _ (Or.inl (lyx_ne hy (by decide) (by decide) (by decide)))]; exact ew6089
      have e6104 : I6097 (ad g 1) 4 = v6090 := by rw [eI6097, pp_ne _ _ (Or.inl (lyx_ne hy (by decide) (by decide) (by decide)))]; exact ev6090
      have e6105 : I6097 (ad g 4) 3 = v6090 := by rw [eI6097, pp_self]
      clear eI6097
      refine WP_iload_n dX3_faultOfNumber_37 rfl ?_
      refine WQ_bipush (68) (68) dX3_faultOfNumber_38 rfl rfl (fun v6106 hv6106 => ?_)
      refine WQ_icmp_eq 45 dX3_faultOfNumber_40 rfl (fun c6106 => False.elim (by omega)) (fun c6106 => ?_)
      refine WQ_iconst (0) (0) dX3_faultOfNumber_43 rfl rfl (fun v6108 hv6108 => ?_)
      exact WP_iret dX3_faultOfNumber_44 rfl ⟨⟨hI6097, rfl, ⟨trivial, (by rw [e6099, ew6085] <;> exact (eq32 _ _).mpr (by omega)), (by rw [e6100, ew6086] <;> exact (eq32 _ _).mpr (by omega)), (by rw [e6101, ew6087] <;> exact (eq32 _ _).mpr (by omega)), (by rw [e6102, ew6088] <;> exact (eq32 _ _).mpr (by omega)), (by rw [e6103, ew6089] <;> exact (eq32 _ _).mpr (by omega))⟩⟩, _, rfl, by omega, by omega, by (try rw [e6105]); omega⟩
    · refine WQ_iconst (2) (2) dX3_faultOfNumber_27 rfl rfl (fun v6109 hv6109 => ?_)
      obtain ⟨w6110, ew6110⟩ : ∃ w : Int32, I (ad g 4) 3 = w := ⟨_, rfl⟩
      have bw6110 := BT_get hI.1 4 0 5 (0) (0) (1000) (by decide) 3 (by decide) (by decide)
      rw [ew6110] at bw6110
      exact WP_iret dX3_faultOfNumber_28 rfl ⟨⟨hI, rfl, ⟨trivial, rfl, rfl, rfl, rfl, rfl⟩⟩, _, rfl, by omega, by omega, by (try rw [ew6110]); omega⟩
set_option maxHeartbeats 4000000 in
set_option maxRecDepth 100000 in
theorem sx_part_6_10_4 {g : GG} {n : Int} {L : Int32} (hy : LyX g)  {I : pI} {J : pJ} {R : pR} (hr : RfX g R) (hI : XI g n L I) (pa : Int32) (cz : Int32) (ix : Int32) (pa_lo : 80 ≤ pa.toInt) (pa_hi : pa.toInt ≤ 80) (cz_lo : 10 ≤ cz.toInt) (cz_hi : cz.toInt ≤ 10) (ix_lo : 4 ≤ ix.toInt) (ix_hi : ix.toInt ≤ 4) : SP g mX3_faultOfNumber [.ref (ad g 3), .int pa, .int cz, .int ix, .ref (ad g 6)] I J R (fun r I' J' R' => (XI g n L I' ∧ R' = R ∧ True ∧ I' (ad g 4) 0 = I (ad g 4) 0 ∧ I' (ad g 4) 1 = I (ad g 4) 1 ∧ I' (ad g 4) 2 = I (ad g 4) 2 ∧ I' (ad g 4) 3 = I (ad g 4) 3 ∧ I' (ad g 6) 1 = I (ad g 6) 1 ∧ I' (ad g 6) 2 = I (ad g 6) 2) ∧ ∃ v : Int32, r = some (.int v) ∧ 0 ≤ v.toInt ∧ v.toInt ≤ 5 ∧ (v.toInt = 0 → (I' (ad g 4) 4).toInt ≤ 99)) := by
  refine SP_of ⟨by decide, rfl⟩ (Nat.le_of_ble_eq_true rfl) ?_
  have e6111 : I (ad g 1) 1 = L := hI.2
  have b6112 := BT_get hI.1 1 1 2 (0) (0) (900) (by decide) 1 (by decide) (by decide)
  rw [e6111] at b6112
  obtain ⟨w6113, ew6113⟩ : ∃ w : Int32, I (ad g 4) 0 = w := ⟨_, rfl⟩
  have bw6113 := BT_get hI.1 4 0 5 (0) (0) (1000) (by decide) 0 (by decide) (by decide)
  rw [ew6113] at bw6113
  obtain ⟨w6114, ew6114⟩ : ∃ w : Int32, I (ad g 4) 1 = w := ⟨_, rfl⟩
  have bw6114 := BT_get hI.1 4 0 5 (0) (0) (1000) (by decide) 1 (by decide) (by decide)
  rw [ew6114] at bw6114
  obtain ⟨w6115, ew6115⟩ : ∃ w : Int32, I (ad g 4) 2 = w := ⟨_, rfl⟩
  have bw6115 := BT_get hI.1 4 0 5 (0) (0) (1000) (by decide) 2 (by decide) (by decide)
  rw [ew6115] at bw6115
  obtain ⟨w6116, ew6116⟩ : ∃ w : Int32, I (ad g 4) 3 = w := ⟨_, rfl⟩
  have bw6116 := BT_get hI.1 4 0 5 (0) (0) (1000) (by decide) 3 (by decide) (by decide)
  rw [ew6116] at bw6116
  obtain ⟨w6117, ew6117⟩ : ∃ w : Int32, I (ad g 6) 1 = w := ⟨_, rfl⟩
  have bw6117 := BT_get hI.1 6 1 2 (0) (0) (4) (by decide) 1 (by decide) (by decide)
  rw [ew6117] at bw6117
  obtain ⟨w6118, ew6118⟩ : ∃ w : Int32, I (ad g 6) 2 = w := ⟨_, rfl⟩
  have bw6118 := BT_get hI.1 6 2 3 (0) (0) (3) (by decide) 2 (by decide) (by decide)
  rw [ew6118] at bw6118
  refine WP_aload_n dX3_faultOfNumber_0 rfl ?_
  refine WP_getr dX3_faultOfNumber_1 fX3_15 rfl (lyx_is hy 3 3 rfl) (rfx hr 3 2 1 (by decide)) ?_
  refine WQ_getiu dX3_faultOfNumber_4 fX3_118 rfl (lyx_is hy 1 5 rfl) (fun v6119 ev6119 => ?_)
  refine WP_istore (ls' := [(0, _), (1, _), (2, _), (3, _), (4, _), (5, _)]) dX3_faultOfNumber_7 (by decide) rfl ?_
  refine WP_iload dX3_faultOfNumber_9 rfl ?_
  refine WP_iload_n dX3_faultOfNumber_11 rfl ?_
  refine WP_callS1 dX3_faultOfNumber_12 ⟨⟨⟨by decide, by decide⟩, zX3_leastOf⟩, lX3_121, tX3_leastOf⟩ (sx_leastOf hy hr hI pa ) (Nat.le_of_ble_eq_true rfl) ?_
  intro r Ia Ja Ra hq
  obtain ⟨⟨ea, eb, ec⟩, v6120, rfl, av6120, bv6120⟩ := hq
  show WP _ _ _ _ (.int _ :: _) _ _ _ _
  rw [ea, eb, ec]
  clear ea eb ec Ia Ja Ra
  refine WQ_icmp_lt 27 dX3_faultOfNumber_15 rfl (fun c6120 => ?_) (fun c6120 => ?_)
  · refine WQ_iconst (2) (2) dX3_faultOfNumber_27 rfl rfl (fun v6122 hv6122 => ?_)
    obtain ⟨w6123, ew6123⟩ : ∃ w : Int32, I (ad g 4) 4 = w := ⟨_, rfl⟩
    have bw6123 := BT_get hI.1 4 0 5 (0) (0) (1000) (by decide) 4 (by decide) (by decide)
    rw [ew6123] at bw6123
    exact WP_iret dX3_faultOfNumber_28 rfl ⟨⟨hI, rfl, ⟨trivial, rfl, rfl, rfl, rfl, rfl, rfl⟩⟩, _, rfl, by omega, by omega, by (try rw [ew6123]); omega⟩
  · refine WP_iload dX3_faultOfNumber_18 rfl ?_
    refine WP_iload_n dX3_faultOfNumber_20 rfl ?_
    refine WP_callS1 dX3_faultOfNumber_21 ⟨⟨⟨by decide, by decide⟩, zX3_mostOf⟩, lX3_125, tX3_mostOf⟩ (sx_mostOf hy hr hI pa ) (Nat.le_of_ble_eq_true rfl) ?_
    intro r Ia Ja Ra hq
    obtain ⟨⟨ea, eb, ec⟩, v6124, rfl, av6124, bv6124, cv6124⟩ := hq
    show WP _ _ _ _ (.int _ :: _) _ _ _ _
    rw [ea, eb, ec]
    clear ea eb ec Ia Ja Ra
    refine WQ_icmp_le 29 dX3_faultOfNumber_24 rfl (fun c6124 => ?_) (fun c6124 => ?_)
    · refine WP_aload_n dX3_faultOfNumber_29 rfl ?_
      refine WP_getr dX3_faultOfNumber_30 fX3_9 rfl (lyx_is hy 3 3 rfl) (rfx hr 3 3 4 (by decide)) ?_
      refine WP_iload_n dX3_faultOfNumber_33 rfl ?_
      refine WP_iload dX3_faultOfNumber_34 rfl ?_
      refine WQ_iast dX3_faultOfNumber_36 (lyx_is hy 4 13 rfl) (lyx_n hy 4 5 rfl) (by omega) (by omega) (fun I6126 fI6126 => ?_)
      have eI6126 := fI6126
      rw [cl (x := ix) (n := 4) (by omega)] at eI6126
      clear fI6126
      have hI6126 : XI g n L I6126 := by rw [eI6126]; exact (xi_f hy hI (c := 4) (0) (0) (1000) (by decide) (Or.inl (by decide)) (by decide) (by omega) (by omega))
      have e6127 : I6126 (ad g 1) 1 = L := by rw [eI6126, pp_ne _ _ (Or.inl (lyx_ne hy (by decide) (by decide) (by decide)))]; exact e6111
      have e6128 : I6126 (ad g 4) 0 = w6113 := by rw [eI6126, pp_ne _ _ (Or.inr (by decide))]; exact ew6113
      have e6129 : I6126 (ad g 4) 1 = w6114 := by rw [eI6126, pp_ne _ _ (Or.inr (by decide))]; exact ew6114
      have e6130 : I6126 (ad g 4) 2 = w6115 := by rw [eI6126, pp_ne _ _ (Or.inr (by decide))]; exact ew6115
      have e6131 : I6126 (ad g 4) 3 = w6116 := by rw [eI6126, pp_ne _ _ (Or.inr (by decide))]; exact ew6116
      have e6132 : I6126 (ad g 6) 1 = w6117 := by rw [eI6126, pp_ne _ _ (Or.inl (lyx_ne hy (by decide) (by decide) (by decide)))]; exact ew6117
      have e6133 : I6126 (ad g 6) 2 = w6118 := by rw [eI6126, pp_ne _ _ (Or.inl (lyx_ne hy (by decide) (by decide) (by decide)))]; exact ew6118
      have e6134 : I6126 (ad g 1) 4 = v6119 := by rw [eI6126, pp_ne _ _ (Or.inl (lyx_ne hy (by decide) (by decide) (by decide)))]; exact ev6119
      have e6135 : I6126 (ad g 4) 4 = v6119 := by rw [eI6126, pp_self]
      clear eI6126
      refine WP_iload_n dX3_faultOfNumber_37 rfl ?_
      refine WQ_bipush (68) (68) dX3_faultOfNumber_38 rfl rfl (fun v6136 hv6136 => ?_)
      refine WQ_icmp_eq 45 dX3_faultOfNumber_40 rfl (fun c6136 => False.elim (by omega)) (fun c6136 => ?_)
      refine WQ_iconst (0) (0) dX3_faultOfNumber_43 rfl rfl (fun v6138 hv6138 => ?_)
      exact WP_iret dX3_faultOfNumber_44 rfl ⟨⟨hI6126, rfl, ⟨trivial, (by rw [e6128, ew6113] <;> exact (eq32 _ _).mpr (by omega)), (by rw [e6129, ew6114] <;> exact (eq32 _ _).mpr (by omega)), (by rw [e6130, ew6115] <;> exact (eq32 _ _).mpr (by omega)), (by rw [e6131, ew6116] <;> exact (eq32 _ _).mpr (by omega)), (by rw [e6132, ew6117] <;> exact (eq32 _ _).mpr (by omega)), (by rw [e6133, ew6118] <;> exact (eq32 _ _).mpr (by omega))⟩⟩, _, rfl, by omega, by omega, by (try rw [e6135]); omega⟩
    · refine WQ_iconst (2) (2) dX3_faultOfNumber_27 rfl rfl (fun v6139 hv6139 => ?_)
      obtain ⟨w6140, ew6140⟩ : ∃ w : Int32, I (ad g 4) 4 = w := ⟨_, rfl⟩
      have bw6140 := BT_get hI.1 4 0 5 (0) (0) (1000) (by decide) 4 (by decide) (by decide)
      rw [ew6140] at bw6140
      exact WP_iret dX3_faultOfNumber_28 rfl ⟨⟨hI, rfl, ⟨trivial, rfl, rfl, rfl, rfl, rfl, rfl⟩⟩, _, rfl, by omega, by omega, by (try rw [ew6140]); omega⟩
set_option maxHeartbeats 4000000 in
set_option maxRecDepth 100000 in
theorem sx_part_6_11_0 {g : GG} {n : Int} {L : Int32} (hy : LyX g)  {I : pI} {J : pJ} {R : pR} (hr : RfX g R) (hI : XI g n L I) (pa : Int32) (cz : Int32) (ix : Int32) (pa_lo : 86 ≤ pa.toInt) (pa_hi : pa.toInt ≤ 86) (cz_lo : 11 ≤ cz.toInt) (cz_hi : cz.toInt ≤ 11) (ix_lo : 0 ≤ ix.toInt) (ix_hi : ix.toInt ≤ 0) : SP g mX3_faultOfNumber [.ref (ad g 3), .int pa, .int cz, .int ix, .ref (ad g 6)] I J R (fun r I' J' R' => (XI g n L I' ∧ R' = R ∧ True ∧ I' (ad g 6) 1 = I (ad g 6) 1 ∧ I' (ad g 6) 2 = I (ad g 6) 2) ∧ ∃ v : Int32, r = some (.int v) ∧ 0 ≤ v.toInt ∧ v.toInt ≤ 5 ∧ (v.toInt = 0 → (I' (ad g 4) 0).toInt ≤ 99)) := by
  refine SP_of ⟨by decide, rfl⟩ (Nat.le_of_ble_eq_true rfl) ?_
  have e6141 : I (ad g 1) 1 = L := hI.2
  have b6142 := BT_get hI.1 1 1 2 (0) (0) (900) (by decide) 1 (by decide) (by decide)
  rw [e6141] at b6142
  obtain ⟨w6143, ew6143⟩ : ∃ w : Int32, I (ad g 6) 1 = w := ⟨_, rfl⟩
  have bw6143 := BT_get hI.1 6 1 2 (0) (0) (4) (by decide) 1 (by decide) (by decide)
  rw [ew6143] at bw6143
  obtain ⟨w6144, ew6144⟩ : ∃ w : Int32, I (ad g 6) 2 = w := ⟨_, rfl⟩
  have bw6144 := BT_get hI.1 6 2 3 (0) (0) (3) (by decide) 2 (by decide) (by decide)
  rw [ew6144] at bw6144
  refine WP_aload_n dX3_faultOfNumber_0 rfl ?_
  refine WP_getr dX3_faultOfNumber_1 fX3_15 rfl (lyx_is hy 3 3 rfl) (rfx hr 3 2 1 (by decide)) ?_
  refine WQ_getiu dX3_faultOfNumber_4 fX3_118 rfl (lyx_is hy 1 5 rfl) (fun v6145 ev6145 => ?_)
  refine WP_istore (ls' := [(0, _), (1, _), (2, _), (3, _), (4, _), (5, _)]) dX3_faultOfNumber_7 (by decide) rfl ?_
  refine WP_iload dX3_faultOfNumber_9 rfl ?_
  refine WP_iload_n dX3_faultOfNumber_11 rfl ?_
  refine WP_callS1 dX3_faultOfNumber_12 ⟨⟨⟨by decide, by decide⟩, zX3_leastOf⟩, lX3_121, tX3_leastOf⟩ (sx_leastOf hy hr hI pa ) (Nat.le_of_ble_eq_true rfl) ?_
  intro r Ia Ja Ra hq
  obtain ⟨⟨ea, eb, ec⟩, v6146, rfl, av6146, bv6146⟩ := hq
  show WP _ _ _ _ (.int _ :: _) _ _ _ _
  rw [ea, eb, ec]
  clear ea eb ec Ia Ja Ra
  refine WQ_icmp_lt 27 dX3_faultOfNumber_15 rfl (fun c6146 => ?_) (fun c6146 => ?_)
  · refine WQ_iconst (2) (2) dX3_faultOfNumber_27 rfl rfl (fun v6148 hv6148 => ?_)
    obtain ⟨w6149, ew6149⟩ : ∃ w : Int32, I (ad g 4) 0 = w := ⟨_, rfl⟩
    have bw6149 := BT_get hI.1 4 0 5 (0) (0) (1000) (by decide) 0 (by decide) (by decide)
    rw [ew6149] at bw6149
    exact WP_iret dX3_faultOfNumber_28 rfl ⟨⟨hI, rfl, ⟨trivial, rfl, rfl⟩⟩, _, rfl, by omega, by omega, by (try rw [ew6149]); omega⟩
  · refine WP_iload dX3_faultOfNumber_18 rfl ?_
    refine WP_iload_n dX3_faultOfNumber_20 rfl ?_
    refine WP_callS1 dX3_faultOfNumber_21 ⟨⟨⟨by decide, by decide⟩, zX3_mostOf⟩, lX3_125, tX3_mostOf⟩ (sx_mostOf hy hr hI pa ) (Nat.le_of_ble_eq_true rfl) ?_
    intro r Ia Ja Ra hq
    obtain ⟨⟨ea, eb, ec⟩, v6150, rfl, av6150, bv6150, cv6150⟩ := hq
    show WP _ _ _ _ (.int _ :: _) _ _ _ _
    rw [ea, eb, ec]
    clear ea eb ec Ia Ja Ra
    refine WQ_icmp_le 29 dX3_faultOfNumber_24 rfl (fun c6150 => ?_) (fun c6150 => ?_)
    · refine WP_aload_n dX3_faultOfNumber_29 rfl ?_
      refine WP_getr dX3_faultOfNumber_30 fX3_9 rfl (lyx_is hy 3 3 rfl) (rfx hr 3 3 4 (by decide)) ?_
      refine WP_iload_n dX3_faultOfNumber_33 rfl ?_
      refine WP_iload dX3_faultOfNumber_34 rfl ?_
      refine WQ_iast dX3_faultOfNumber_36 (lyx_is hy 4 13 rfl) (lyx_n hy 4 5 rfl) (by omega) (by omega) (fun I6152 fI6152 => ?_)
      have eI6152 := fI6152
      rw [cl (x := ix) (n := 0) (by omega)] at eI6152
      clear fI6152
      have hI6152 : XI g n L I6152 := by rw [eI6152]; exact (xi_f hy hI (c := 4) (0) (0) (1000) (by decide) (Or.inl (by decide)) (by decide) (by omega) (by omega))
      have e6153 : I6152 (ad g 1) 1 = L := by rw [eI6152, pp_ne _ _ (Or.inl (lyx_ne hy (by decide) (by decide) (by decide)))]; exact e6141
      have e6154 : I6152 (ad g 6) 1 = w6143 := by rw [eI6152, pp_ne _ _ (Or.inl (lyx_ne hy (by decide) (by decide) (by decide)))]; exact ew6143
      have e6155 : I6152 (ad g 6) 2 = w6144 := by rw [eI6152, pp_ne _ _ (Or.inl (lyx_ne hy (by decide) (by decide) (by decide)))]; exact ew6144
      have e6156 : I6152 (ad g 1) 4 = v6145 := by rw [eI6152, pp_ne _ _ (Or.inl (lyx_ne hy (by decide) (by decide) (by decide)))]; exact ev6145
      have e6157 : I6152 (ad g 4) 0 = v6145 := by rw [eI6152, pp_self]
      clear eI6152
      refine WP_iload_n dX3_faultOfNumber_37 rfl ?_
      refine WQ_bipush (68) (68) dX3_faultOfNumber_38 rfl rfl (fun v6158 hv6158 => ?_)
      refine WQ_icmp_eq 45 dX3_faultOfNumber_40 rfl (fun c6158 => False.elim (by omega)) (fun c6158 => ?_)
      refine WQ_iconst (0) (0) dX3_faultOfNumber_43 rfl rfl (fun v6160 hv6160 => ?_)
      exact WP_iret dX3_faultOfNumber_44 rfl ⟨⟨hI6152, rfl, ⟨trivial, (by rw [e6154, ew6143] <;> exact (eq32 _ _).mpr (by omega)), (by rw [e6155, ew6144] <;> exact (eq32 _ _).mpr (by omega))⟩⟩, _, rfl, by omega, by omega, by (try rw [e6157]); omega⟩
    · refine WQ_iconst (2) (2) dX3_faultOfNumber_27 rfl rfl (fun v6161 hv6161 => ?_)
      obtain ⟨w6162, ew6162⟩ : ∃ w : Int32, I (ad g 4) 0 = w := ⟨_, rfl⟩
      have bw6162 := BT_get hI.1 4 0 5 (0) (0) (1000) (by decide) 0 (by decide) (by decide)
      rw [ew6162] at bw6162
      exact WP_iret dX3_faultOfNumber_28 rfl ⟨⟨hI, rfl, ⟨trivial, rfl, rfl⟩⟩, _, rfl, by omega, by omega, by (try rw [ew6162]); omega⟩
set_option maxHeartbeats 4000000 in
set_option maxRecDepth 100000 in
theorem sx_part_6_11_1 {g : GG} {n : Int} {L : Int32} (hy : LyX g)  {I : pI} {J : pJ} {R : pR} (hr : RfX g R) (hI : XI g n L I) (pa : Int32) (cz : Int32) (ix : Int32) (pa_lo : 86 ≤ pa.toInt) (pa_hi : pa.toInt ≤ 86) (cz_lo : 11 ≤ cz.toInt) (cz_hi : cz.toInt ≤ 11) (ix_lo : 1 ≤ ix.toInt) (ix_hi : ix.toInt ≤ 1) : SP g mX3_faultOfNumber [.ref (ad g 3), .int pa, .int cz, .int ix, .ref (ad g 6)] I J R (fun r I' J' R' => (XI g n L I' ∧ R' = R ∧ True ∧ I' (ad g 4) 0 = I (ad g 4) 0 ∧ I' (ad g 6) 1 = I (ad g 6) 1 ∧ I' (ad g 6) 2 = I (ad g 6) 2) ∧ ∃ v : Int32, r = some (.int v) ∧ 0 ≤ v.toInt ∧ v.toInt ≤ 5 ∧ (v.toInt = 0 → (I' (ad g 4) 1).toInt ≤ 99)) := by
  refine SP_of ⟨by decide, rfl⟩ (Nat.le_of_ble_eq_true rfl) ?_
  have e6163 : I (ad g 1) 1 = L := hI.2
  have b6164 := BT_get hI.1 1 1 2 (0) (0) (900) (by decide) 1 (by decide) (by decide)
  rw [e6163] at b6164
  obtain ⟨w6165, ew6165⟩ : ∃ w : Int32, I (ad g 4) 0 = w := ⟨_, rfl⟩
  have bw6165 := BT_get hI.1 4 0 5 (0) (0) (1000) (by decide) 0 (by decide) (by decide)
  rw [ew6165] at bw6165
  obtain ⟨w6166, ew6166⟩ : ∃ w : Int32, I (ad g 6) 1 = w := ⟨_, rfl⟩
  have bw6166 := BT_get hI.1 6 1 2 (0) (0) (4) (by decide) 1 (by decide) (by decide)
  rw [ew6166] at bw6166
  obtain ⟨w6167, ew6167⟩ : ∃ w : Int32, I (ad g 6) 2 = w := ⟨_, rfl⟩
  have bw6167 := BT_get hI.1 6 2 3 (0) (0) (3) (by decide) 2 (by decide) (by decide)
  rw [ew6167] at bw6167
  refine WP_aload_n dX3_faultOfNumber_0 rfl ?_
  refine WP_getr dX3_faultOfNumber_1 fX3_15 rfl (lyx_is hy 3 3 rfl) (rfx hr 3 2 1 (by decide)) ?_
  refine WQ_getiu dX3_faultOfNumber_4 fX3_118 rfl (lyx_is hy 1 5 rfl) (fun v6168 ev6168 => ?_)
  refine WP_istore (ls' := [(0, _), (1, _), (2, _), (3, _), (4, _), (5, _)]) dX3_faultOfNumber_7 (by decide) rfl ?_
  refine WP_iload dX3_faultOfNumber_9 rfl ?_
  refine WP_iload_n dX3_faultOfNumber_11 rfl ?_
  refine WP_callS1 dX3_faultOfNumber_12 ⟨⟨⟨by decide, by decide⟩, zX3_leastOf⟩, lX3_121, tX3_leastOf⟩ (sx_leastOf hy hr hI pa ) (Nat.le_of_ble_eq_true rfl) ?_
  intro r Ia Ja Ra hq
  obtain ⟨⟨ea, eb, ec⟩, v6169, rfl, av6169, bv6169⟩ := hq
  show WP _ _ _ _ (.int _ :: _) _ _ _ _
  rw [ea, eb, ec]
  clear ea eb ec Ia Ja Ra
  refine WQ_icmp_lt 27 dX3_faultOfNumber_15 rfl (fun c6169 => ?_) (fun c6169 => ?_)
  · refine WQ_iconst (2) (2) dX3_faultOfNumber_27 rfl rfl (fun v6171 hv6171 => ?_)
    obtain ⟨w6172, ew6172⟩ : ∃ w : Int32, I (ad g 4) 1 = w := ⟨_, rfl⟩
    have bw6172 := BT_get hI.1 4 0 5 (0) (0) (1000) (by decide) 1 (by decide) (by decide)
    rw [ew6172] at bw6172
    exact WP_iret dX3_faultOfNumber_28 rfl ⟨⟨hI, rfl, ⟨trivial, rfl, rfl, rfl⟩⟩, _, rfl, by omega, by omega, by (try rw [ew6172]); omega⟩
  · refine WP_iload dX3_faultOfNumber_18 rfl ?_
    refine WP_iload_n dX3_faultOfNumber_20 rfl ?_
    refine WP_callS1 dX3_faultOfNumber_21 ⟨⟨⟨by decide, by decide⟩, zX3_mostOf⟩, lX3_125, tX3_mostOf⟩ (sx_mostOf hy hr hI pa ) (Nat.le_of_ble_eq_true rfl) ?_
    intro r Ia Ja Ra hq
    obtain ⟨⟨ea, eb, ec⟩, v6173, rfl, av6173, bv6173, cv6173⟩ := hq
    show WP _ _ _ _ (.int _ :: _) _ _ _ _
    rw [ea, eb, ec]
    clear ea eb ec Ia Ja Ra
    refine WQ_icmp_le 29 dX3_faultOfNumber_24 rfl (fun c6173 => ?_) (fun c6173 => ?_)
    · refine WP_aload_n dX3_faultOfNumber_29 rfl ?_
      refine WP_getr dX3_faultOfNumber_30 fX3_9 rfl (lyx_is hy 3 3 rfl) (rfx hr 3 3 4 (by decide)) ?_
      refine WP_iload_n dX3_faultOfNumber_33 rfl ?_
      refine WP_iload dX3_faultOfNumber_34 rfl ?_
      refine WQ_iast dX3_faultOfNumber_36 (lyx_is hy 4 13 rfl) (lyx_n hy 4 5 rfl) (by omega) (by omega) (fun I6175 fI6175 => ?_)
      have eI6175 := fI6175
      rw [cl (x := ix) (n := 1) (by omega)] at eI6175
      clear fI6175
      have hI6175 : XI g n L I6175 := by rw [eI6175]; exact (xi_f hy hI (c := 4) (0) (0) (1000) (by decide) (Or.inl (by decide)) (by decide) (by omega) (by omega))
      have e6176 : I6175 (ad g 1) 1 = L := by rw [eI6175, pp_ne _ _ (Or.inl (lyx_ne hy (by decide) (by decide) (by decide)))]; exact e6163
      have e6177 : I6175 (ad g 4) 0 = w6165 := by rw [eI6175, pp_ne _ _ (Or.inr (by decide))]; exact ew6165
      have e6178 : I6175 (ad g 6) 1 = w6166 := by rw [eI6175, pp_ne _ _ (Or.inl (lyx_ne hy (by decide) (by decide) (by decide)))]; exact ew6166
      have e6179 : I6175 (ad g 6) 2 = w6167 := by rw [eI6175, pp_ne _ _ (Or.inl (lyx_ne hy (by decide) (by decide) (by decide)))]; exact ew6167
      have e6180 : I6175 (ad g 1) 4 = v6168 := by rw [eI6175, pp_ne _ _ (Or.inl (lyx_ne hy (by decide) (by decide) (by decide)))]; exact ev6168
      have e6181 : I6175 (ad g 4) 1 = v6168 := by rw [eI6175, pp_self]
      clear eI6175
      refine WP_iload_n dX3_faultOfNumber_37 rfl ?_
      refine WQ_bipush (68) (68) dX3_faultOfNumber_38 rfl rfl (fun v6182 hv6182 => ?_)
      refine WQ_icmp_eq 45 dX3_faultOfNumber_40 rfl (fun c6182 => False.elim (by omega)) (fun c6182 => ?_)
      refine WQ_iconst (0) (0) dX3_faultOfNumber_43 rfl rfl (fun v6184 hv6184 => ?_)
      exact WP_iret dX3_faultOfNumber_44 rfl ⟨⟨hI6175, rfl, ⟨trivial, (by rw [e6177, ew6165] <;> exact (eq32 _ _).mpr (by omega)), (by rw [e6178, ew6166] <;> exact (eq32 _ _).mpr (by omega)), (by rw [e6179, ew6167] <;> exact (eq32 _ _).mpr (by omega))⟩⟩, _, rfl, by omega, by omega, by (try rw [e6181]); omega⟩
    · refine WQ_iconst (2) (2) dX3_faultOfNumber_27 rfl rfl (fun v6185 hv6185 => ?_)
      obtain ⟨w6186, ew6186⟩ : ∃ w : Int32, I (ad g 4) 1 = w := ⟨_, rfl⟩
      have bw6186 := BT_get hI.1 4 0 5 (0) (0) (1000) (by decide) 1 (by decide) (by decide)
      rw [ew6186] at bw6186
      exact WP_iret dX3_faultOfNumber_28 rfl ⟨⟨hI, rfl, ⟨trivial, rfl, rfl, rfl⟩⟩, _, rfl, by omega, by omega, by (try rw [ew6186]); omega⟩
set_option maxHeartbeats 4000000 in
set_option maxRecDepth 100000 in
theorem sx_name_27_1 {g : GG} {n : Int} {L : Int32} (hy : LyX g)  {I : pI} {J : pJ} {R : pR} (hr : RfX g R) (hI : XI g n L I) (os : Int32) (wd : Int64) (os_lo : 1 ≤ os.toInt) (os_hi : os.toInt ≤ 1) (hb : (I (ad g 27) 1).toInt ≤ 3) : SP g mX7_name [.ref (ad g 27), .int os, .long wd] I J R (fun r I' J' R' => (I' = I ∧ R' = R) ∧ r = none) := by
  refine SP_of ⟨by decide, rfl⟩ (Nat.le_of_ble_eq_true rfl) ?_
  have e6187 : I (ad g 1) 1 = L := hI.2
  have b6188 := BT_get hI.1 1 1 2 (0) (0) (900) (by decide) 1 (by decide) (by decide)
  rw [e6187] at b6188
  obtain ⟨w6189, ew6189⟩ : ∃ w : Int32, I (ad g 27) 1 = w := ⟨_, rfl⟩
  have bw6189 := BT_get hI.1 27 1 2 (0) (0) (4) (by decide) 1 (by decide) (by decide)
  rw [ew6189] at bw6189
  rw [ew6189] at hb
  refine WP_aload_n dX7_name_0 rfl ?_
  refine WP_getr dX7_name_1 fX7_51 rfl (lyx_is hy 27 7 rfl) (rfx hr 27 18 41 (by decide)) ?_
  refine WP_iload_n dX7_name_4 rfl ?_
  have jn21_6190 : ∀ (v6190 : Int32), 0 ≤ v6190.toInt → v6190.toInt ≤ 3 → WP g mX7_name 21 [(0, .ref (ad g 27)), (1, .int os), (2, .long wd)] [.int v6190, .ref (ad g 41)] I J R (fun r I' J' R' => (I' = I ∧ R' = R) ∧ r = none) := by
    intro v6190 av6190 bv6190
    refine WP_lload_n dX7_name_21 rfl ?_
    refine WQ_last dX7_name_22 (lyx_is hy 41 14 rfl) (lyx_n hy 41 7 rfl) (by omega) (by omega) (fun J6192 eJ6192 => ?_)
    clear eJ6192
    exact WP_vret dX7_name_23 rfl ⟨⟨rfl, rfl⟩, rfl⟩
  refine WQ_if_eq 15 dX7_name_5 rfl (fun c6192 => False.elim (by omega)) (fun c6192 => ?_)
  refine WP_aload_n dX7_name_8 rfl ?_
  refine WQ_getim dX7_name_9 fX7_65 rfl (lyx_is hy 27 7 rfl) ew6189 ?_
  refine WP_goto 21 dX7_name_12 rfl ?_
  exact WP_sub (fc rfl (fc rfl (fc rfl fn))) (jn21_6190 w6189 (by omega) (by omega))
set_option maxHeartbeats 4000000 in
set_option maxRecDepth 100000 in
theorem sx_name_27_0 {g : GG} {n : Int} {L : Int32} (hy : LyX g)  {I : pI} {J : pJ} {R : pR} (hr : RfX g R) (hI : XI g n L I) (os : Int32) (wd : Int64) (os_lo : 0 ≤ os.toInt) (os_hi : os.toInt ≤ 0) (hb : (I (ad g 27) 2).toInt ≤ 2) : SP g mX7_name [.ref (ad g 27), .int os, .long wd] I J R (fun r I' J' R' => (I' = I ∧ R' = R) ∧ r = none) := by
  refine SP_of ⟨by decide, rfl⟩ (Nat.le_of_ble_eq_true rfl) ?_
  have e6194 : I (ad g 1) 1 = L := hI.2
  have b6195 := BT_get hI.1 1 1 2 (0) (0) (900) (by decide) 1 (by decide) (by decide)
  rw [e6194] at b6195
  obtain ⟨w6196, ew6196⟩ : ∃ w : Int32, I (ad g 27) 2 = w := ⟨_, rfl⟩
  have bw6196 := BT_get hI.1 27 2 3 (0) (0) (3) (by decide) 2 (by decide) (by decide)
  rw [ew6196] at bw6196
  rw [ew6196] at hb
  refine WP_aload_n dX7_name_0 rfl ?_
  refine WP_getr dX7_name_1 fX7_51 rfl (lyx_is hy 27 7 rfl) (rfx hr 27 18 41 (by decide)) ?_
  refine WP_iload_n dX7_name_4 rfl ?_
  have jn21_6199 : ∀ (v6199 : Int32), 4 ≤ v6199.toInt → v6199.toInt ≤ 6 → WP g mX7_name 21 [(0, .ref (ad g 27)), (1, .int os), (2, .long wd)] [.int v6199, .ref (ad g 41)] I J R (fun r I' J' R' => (I' = I ∧ R' = R) ∧ r = none) := by
    intro v6199 av6199 bv6199
    refine WP_lload_n dX7_name_21 rfl ?_
    refine WQ_last dX7_name_22 (lyx_is hy 41 14 rfl) (lyx_n hy 41 7 rfl) (by omega) (by omega) (fun J6201 eJ6201 => ?_)
    clear eJ6201
    exact WP_vret dX7_name_23 rfl ⟨⟨rfl, rfl⟩, rfl⟩
  refine WQ_if_eq 15 dX7_name_5 rfl (fun c6201 => ?_) (fun c6201 => False.elim (by omega))
  refine WQ_iconst (4) (4) dX7_name_15 rfl rfl (fun v6203 hv6203 => ?_)
  refine WP_aload_n dX7_name_16 rfl ?_
  refine WQ_getim dX7_name_17 fX7_68 rfl (lyx_is hy 27 7 rfl) ew6196 ?_
  refine WQ_iadd dX7_name_20 (by omega) (by omega) (fun v6204 hv6204 => ?_)
  exact WP_sub (fc rfl (fc rfl (fc rfl fn))) (jn21_6199 v6204 (by omega) (by omega))
set_option maxHeartbeats 4000000 in
set_option maxRecDepth 100000 in
theorem sx_part_27_0_0 {g : GG} {n : Int} {L : Int32} (hy : LyX g)  {I : pI} {J : pJ} {R : pR} (hr : RfX g R) (hI : XI g n L I) (pa : Int32) (cz : Int32) (ix : Int32) (pa_lo : 68 ≤ pa.toInt) (pa_hi : pa.toInt ≤ 68) (cz_lo : 0 ≤ cz.toInt) (cz_hi : cz.toInt ≤ 0) (ix_lo : 0 ≤ ix.toInt) (ix_hi : ix.toInt ≤ 0) : SP g mX3_faultOfNumber [.ref (ad g 3), .int pa, .int cz, .int ix, .ref (ad g 27)] I J R (fun r I' J' R' => (XI g n L I' ∧ R' = R ∧ True ∧ I' (ad g 27) 1 = I (ad g 27) 1 ∧ I' (ad g 27) 2 = I (ad g 27) 2) ∧ ∃ v : Int32, r = some (.int v) ∧ 0 ≤ v.toInt ∧ v.toInt ≤ 5 ∧ (v.toInt = 0 → (I' (ad g 4) 0).toInt ≤ 6)) := by
  refine SP_of ⟨by decide, rfl⟩ (Nat.le_of_ble_eq_true rfl) ?_
  have e6205 : I (ad g 1) 1 = L := hI.2
  have b6206 := BT_get hI.1 1 1 2 (0) (0) (900) (by decide) 1 (by decide) (by decide)
  rw [e6205] at b6206
  obtain ⟨w6207, ew6207⟩ : ∃ w : Int32, I (ad g 27) 1 = w := ⟨_, rfl⟩
  have bw6207 := BT_get hI.1 27 1 2 (0) (0) (4) (by decide) 1 (by decide) (by decide)
  rw [ew6207] at bw6207
  obtain ⟨w6208, ew6208⟩ : ∃ w : Int32, I (ad g 27) 2 = w := ⟨_, rfl⟩
  have bw6208 := BT_get hI.1 27 2 3 (0) (0) (3) (by decide) 2 (by decide) (by decide)
  rw [ew6208] at bw6208
  refine WP_aload_n dX3_faultOfNumber_0 rfl ?_
  refine WP_getr dX3_faultOfNumber_1 fX3_15 rfl (lyx_is hy 3 3 rfl) (rfx hr 3 2 1 (by decide)) ?_
  refine WQ_getiu dX3_faultOfNumber_4 fX3_118 rfl (lyx_is hy 1 5 rfl) (fun v6209 ev6209 => ?_)
  refine WP_istore (ls' := [(0, _), (1, _), (2, _), (3, _), (4, _), (5, _)]) dX3_faultOfNumber_7 (by decide) rfl ?_
  refine WP_iload dX3_faultOfNumber_9 rfl ?_
  refine WP_iload_n dX3_faultOfNumber_11 rfl ?_
  refine WP_callS1 dX3_faultOfNumber_12 ⟨⟨⟨by decide, by decide⟩, zX3_leastOf⟩, lX3_121, tX3_leastOf⟩ (sx_leastOf hy hr hI pa ) (Nat.le_of_ble_eq_true rfl) ?_
  intro r Ia Ja Ra hq
  obtain ⟨⟨ea, eb, ec⟩, v6210, rfl, av6210, bv6210⟩ := hq
  show WP _ _ _ _ (.int _ :: _) _ _ _ _
  rw [ea, eb, ec]
  clear ea eb ec Ia Ja Ra
  refine WQ_icmp_lt 27 dX3_faultOfNumber_15 rfl (fun c6210 => ?_) (fun c6210 => ?_)
  · refine WQ_iconst (2) (2) dX3_faultOfNumber_27 rfl rfl (fun v6212 hv6212 => ?_)
    obtain ⟨w6213, ew6213⟩ : ∃ w : Int32, I (ad g 4) 0 = w := ⟨_, rfl⟩
    have bw6213 := BT_get hI.1 4 0 5 (0) (0) (1000) (by decide) 0 (by decide) (by decide)
    rw [ew6213] at bw6213
    exact WP_iret dX3_faultOfNumber_28 rfl ⟨⟨hI, rfl, ⟨trivial, rfl, rfl⟩⟩, _, rfl, by omega, by omega, by (try rw [ew6213]); omega⟩
  · refine WP_iload dX3_faultOfNumber_18 rfl ?_
    refine WP_iload_n dX3_faultOfNumber_20 rfl ?_
    refine WP_callS1 dX3_faultOfNumber_21 ⟨⟨⟨by decide, by decide⟩, zX3_mostOf⟩, lX3_125, tX3_mostOf⟩ (sx_mostOf hy hr hI pa ) (Nat.le_of_ble_eq_true rfl) ?_
    intro r Ia Ja Ra hq
    obtain ⟨⟨ea, eb, ec⟩, v6214, rfl, av6214, bv6214, cv6214⟩ := hq
    show WP _ _ _ _ (.int _ :: _) _ _ _ _
    rw [ea, eb, ec]
    clear ea eb ec Ia Ja Ra
    refine WQ_icmp_le 29 dX3_faultOfNumber_24 rfl (fun c6214 => ?_) (fun c6214 => ?_)
    · refine WP_aload_n dX3_faultOfNumber_29 rfl ?_
      refine WP_getr dX3_faultOfNumber_30 fX3_9 rfl (lyx_is hy 3 3 rfl) (rfx hr 3 3 4 (by decide)) ?_
      refine WP_iload_n dX3_faultOfNumber_33 rfl ?_
      refine WP_iload dX3_faultOfNumber_34 rfl ?_
      refine WQ_iast dX3_faultOfNumber_36 (lyx_is hy 4 13 rfl) (lyx_n hy 4 5 rfl) (by omega) (by omega) (fun I6216 fI6216 => ?_)
      have eI6216 := fI6216
      rw [cl (x := ix) (n := 0) (by omega)] at eI6216
      clear fI6216
      have hI6216 : XI g n L I6216 := by rw [eI6216]; exact (xi_f hy hI (c := 4) (0) (0) (1000) (by decide) (Or.inl (by decide)) (by decide) (by omega) (by omega))
      have e6217 : I6216 (ad g 1) 1 = L := by rw [eI6216, pp_ne _ _ (Or.inl (lyx_ne hy (by decide) (by decide) (by decide)))]; exact e6205
      have e6218 : I6216 (ad g 27) 1 = w6207 := by rw [eI6216, pp_ne _ _ (Or.inl (lyx_ne hy (by decide) (by decide) (by decide)))]; exact ew6207
      have e6219 : I6216 (ad g 27) 2 = w6208 := by rw [eI6216, pp_ne _ _ (Or.inl (lyx_ne hy (by decide) (by decide) (by decide)))]; exact ew6208
      have e6220 : I6216 (ad g 1) 4 = v6209 := by rw [eI6216, pp_ne _ _ (Or.inl (lyx_ne hy (by decide) (by decide) (by decide)))]; exact ev6209
      have e6221 : I6216 (ad g 4) 0 = v6209 := by rw [eI6216, pp_self]
      clear eI6216
      refine WP_iload_n dX3_faultOfNumber_37 rfl ?_
      refine WQ_bipush (68) (68) dX3_faultOfNumber_38 rfl rfl (fun v6222 hv6222 => ?_)
      refine WQ_icmp_eq 45 dX3_faultOfNumber_40 rfl (fun c6222 => ?_) (fun c6222 => False.elim (by omega))
      refine WP_aload dX3_faultOfNumber_45 rfl ?_
      refine WP_iload_n dX3_faultOfNumber_47 rfl ?_
      refine WP_iload_n dX3_faultOfNumber_48 rfl ?_
      refine WQ_if_ne 56 dX3_faultOfNumber_49 rfl (fun c6223 => False.elim (by omega)) (fun c6223 => ?_)
      refine WQ_iconst (0) (0) dX3_faultOfNumber_52 rfl rfl (fun v6225 hv6225 => ?_)
      refine WP_goto 62 dX3_faultOfNumber_53 rfl ?_
      refine WP_iload dX3_faultOfNumber_62 rfl ?_
      refine WP_callV3 (k := 7) dX3_faultOfNumber_64 ⟨⟨⟨by decide, by decide⟩, zX7_isTold⟩, lX3_114, by decide, rfl, vX7_isTold.1, vX7_isTold.2⟩ (lyx_is hy 27 7 rfl) (sx_isTold_27 hy hr hI6216 cz v6225 v6209 (by omega) (by omega) (by omega) (by omega) ) (Nat.le_of_ble_eq_true rfl) ?_
      intro r Ia Ja Ra hq
      obtain ⟨⟨ea, eb, ec⟩, v6226, rfl, av6226, bv6226⟩ := hq
      show WP _ _ _ _ (.int _ :: _) _ _ _ _
      rw [ea, eb, ec]
      clear ea eb ec Ia Ja Ra
      refine WQ_if_eq 74 dX3_faultOfNumber_67 rfl (fun c6226 => ?_) (fun c6226 => ?_)
      · refine WQ_iconst (0) (0) dX3_faultOfNumber_74 rfl rfl (fun v6228 hv6228 => ?_)
        exact WP_iret dX3_faultOfNumber_75 rfl ⟨⟨hI6216, rfl, ⟨trivial, (by rw [e6218, ew6207] <;> exact (eq32 _ _).mpr (by omega)), (by rw [e6219, ew6208] <;> exact (eq32 _ _).mpr (by omega))⟩⟩, _, rfl, by omega, by omega, by (try rw [e6221]); omega⟩
      · refine WQ_iconst (3) (3) dX3_faultOfNumber_70 rfl rfl (fun v6229 hv6229 => ?_)
        refine WP_goto 75 dX3_faultOfNumber_71 rfl ?_
        exact WP_iret dX3_faultOfNumber_75 rfl ⟨⟨hI6216, rfl, ⟨trivial, (by rw [e6218, ew6207] <;> exact (eq32 _ _).mpr (by omega)), (by rw [e6219, ew6208] <;> exact (eq32 _ _).mpr (by omega))⟩⟩, _, rfl, by omega, by omega, by (try rw [e6221]); omega⟩
    · refine WQ_iconst (2) (2) dX3_faultOfNumber_27 rfl rfl (fun v6230 hv6230 => ?_)
      obtain ⟨w6231, ew6231⟩ : ∃ w : Int32, I (ad g 4) 0 = w := ⟨_, rfl⟩
      have bw6231 := BT_get hI.1 4 0 5 (0) (0) (1000) (by decide) 0 (by decide) (by decide)
      rw [ew6231] at bw6231
      exact WP_iret dX3_faultOfNumber_28 rfl ⟨⟨hI, rfl, ⟨trivial, rfl, rfl⟩⟩, _, rfl, by omega, by omega, by (try rw [ew6231]); omega⟩
set_option maxHeartbeats 4000000 in
set_option maxRecDepth 100000 in
theorem sx_part_27_0_1 {g : GG} {n : Int} {L : Int32} (hy : LyX g)  {I : pI} {J : pJ} {R : pR} (hr : RfX g R) (hI : XI g n L I) (pa : Int32) (cz : Int32) (ix : Int32) (pa_lo : 76 ≤ pa.toInt) (pa_hi : pa.toInt ≤ 76) (cz_lo : 0 ≤ cz.toInt) (cz_hi : cz.toInt ≤ 0) (ix_lo : 1 ≤ ix.toInt) (ix_hi : ix.toInt ≤ 1) : SP g mX3_faultOfNumber [.ref (ad g 3), .int pa, .int cz, .int ix, .ref (ad g 27)] I J R (fun r I' J' R' => (XI g n L I' ∧ R' = R ∧ True ∧ I' (ad g 4) 0 = I (ad g 4) 0 ∧ I' (ad g 27) 1 = I (ad g 27) 1 ∧ I' (ad g 27) 2 = I (ad g 27) 2) ∧ ∃ v : Int32, r = some (.int v) ∧ 0 ≤ v.toInt ∧ v.toInt ≤ 5 ∧ (v.toInt = 0 → (I' (ad g 4) 1).toInt ≤ 900)) := by
  refine SP_of ⟨by decide, rfl⟩ (Nat.le_of_ble_eq_true rfl) ?_
  have e6232 : I (ad g 1) 1 = L := hI.2
  have b6233 := BT_get hI.1 1 1 2 (0) (0) (900) (by decide) 1 (by decide) (by decide)
  rw [e6232] at b6233
  obtain ⟨w6234, ew6234⟩ : ∃ w : Int32, I (ad g 4) 0 = w := ⟨_, rfl⟩
  have bw6234 := BT_get hI.1 4 0 5 (0) (0) (1000) (by decide) 0 (by decide) (by decide)
  rw [ew6234] at bw6234
  obtain ⟨w6235, ew6235⟩ : ∃ w : Int32, I (ad g 27) 1 = w := ⟨_, rfl⟩
  have bw6235 := BT_get hI.1 27 1 2 (0) (0) (4) (by decide) 1 (by decide) (by decide)
  rw [ew6235] at bw6235
  obtain ⟨w6236, ew6236⟩ : ∃ w : Int32, I (ad g 27) 2 = w := ⟨_, rfl⟩
  have bw6236 := BT_get hI.1 27 2 3 (0) (0) (3) (by decide) 2 (by decide) (by decide)
  rw [ew6236] at bw6236
  refine WP_aload_n dX3_faultOfNumber_0 rfl ?_
  refine WP_getr dX3_faultOfNumber_1 fX3_15 rfl (lyx_is hy 3 3 rfl) (rfx hr 3 2 1 (by decide)) ?_
  refine WQ_getiu dX3_faultOfNumber_4 fX3_118 rfl (lyx_is hy 1 5 rfl) (fun v6237 ev6237 => ?_)
  refine WP_istore (ls' := [(0, _), (1, _), (2, _), (3, _), (4, _), (5, _)]) dX3_faultOfNumber_7 (by decide) rfl ?_
  refine WP_iload dX3_faultOfNumber_9 rfl ?_
  refine WP_iload_n dX3_faultOfNumber_11 rfl ?_
  refine WP_callS1 dX3_faultOfNumber_12 ⟨⟨⟨by decide, by decide⟩, zX3_leastOf⟩, lX3_121, tX3_leastOf⟩ (sx_leastOf hy hr hI pa ) (Nat.le_of_ble_eq_true rfl) ?_
  intro r Ia Ja Ra hq
  obtain ⟨⟨ea, eb, ec⟩, v6238, rfl, av6238, bv6238⟩ := hq
  show WP _ _ _ _ (.int _ :: _) _ _ _ _
  rw [ea, eb, ec]
  clear ea eb ec Ia Ja Ra
  refine WQ_icmp_lt 27 dX3_faultOfNumber_15 rfl (fun c6238 => ?_) (fun c6238 => ?_)
  · refine WQ_iconst (2) (2) dX3_faultOfNumber_27 rfl rfl (fun v6240 hv6240 => ?_)
    obtain ⟨w6241, ew6241⟩ : ∃ w : Int32, I (ad g 4) 1 = w := ⟨_, rfl⟩
    have bw6241 := BT_get hI.1 4 0 5 (0) (0) (1000) (by decide) 1 (by decide) (by decide)
    rw [ew6241] at bw6241
    exact WP_iret dX3_faultOfNumber_28 rfl ⟨⟨hI, rfl, ⟨trivial, rfl, rfl, rfl⟩⟩, _, rfl, by omega, by omega, by (try rw [ew6241]); omega⟩
  · refine WP_iload dX3_faultOfNumber_18 rfl ?_
    refine WP_iload_n dX3_faultOfNumber_20 rfl ?_
    refine WP_callS1 dX3_faultOfNumber_21 ⟨⟨⟨by decide, by decide⟩, zX3_mostOf⟩, lX3_125, tX3_mostOf⟩ (sx_mostOf hy hr hI pa ) (Nat.le_of_ble_eq_true rfl) ?_
    intro r Ia Ja Ra hq
    obtain ⟨⟨ea, eb, ec⟩, v6242, rfl, av6242, bv6242, cv6242⟩ := hq
    show WP _ _ _ _ (.int _ :: _) _ _ _ _
    rw [ea, eb, ec]
    clear ea eb ec Ia Ja Ra
    refine WQ_icmp_le 29 dX3_faultOfNumber_24 rfl (fun c6242 => ?_) (fun c6242 => ?_)
    · refine WP_aload_n dX3_faultOfNumber_29 rfl ?_
      refine WP_getr dX3_faultOfNumber_30 fX3_9 rfl (lyx_is hy 3 3 rfl) (rfx hr 3 3 4 (by decide)) ?_
      refine WP_iload_n dX3_faultOfNumber_33 rfl ?_
      refine WP_iload dX3_faultOfNumber_34 rfl ?_
      refine WQ_iast dX3_faultOfNumber_36 (lyx_is hy 4 13 rfl) (lyx_n hy 4 5 rfl) (by omega) (by omega) (fun I6244 fI6244 => ?_)
      have eI6244 := fI6244
      rw [cl (x := ix) (n := 1) (by omega)] at eI6244
      clear fI6244
      have hI6244 : XI g n L I6244 := by rw [eI6244]; exact (xi_f hy hI (c := 4) (0) (0) (1000) (by decide) (Or.inl (by decide)) (by decide) (by omega) (by omega))
      have e6245 : I6244 (ad g 1) 1 = L := by rw [eI6244, pp_ne _ _ (Or.inl (lyx_ne hy (by decide) (by decide) (by decide)))]; exact e6232
      have e6246 : I6244 (ad g 4) 0 = w6234 := by rw [eI6244, pp_ne _ _ (Or.inr (by decide))]; exact ew6234
      have e6247 : I6244 (ad g 27) 1 = w6235 := by rw [eI6244, pp_ne _ _ (Or.inl (lyx_ne hy (by decide) (by decide) (by decide)))]; exact ew6235
      have e6248 : I6244 (ad g 27) 2 = w6236 := by rw [eI6244, pp_ne _ _ (Or.inl (lyx_ne hy (by decide) (by decide) (by decide)))]; exact ew6236
      have e6249 : I6244 (ad g 1) 4 = v6237 := by rw [eI6244, pp_ne _ _ (Or.inl (lyx_ne hy (by decide) (by decide) (by decide)))]; exact ev6237
      have e6250 : I6244 (ad g 4) 1 = v6237 := by rw [eI6244, pp_self]
      clear eI6244
      refine WP_iload_n dX3_faultOfNumber_37 rfl ?_
      refine WQ_bipush (68) (68) dX3_faultOfNumber_38 rfl rfl (fun v6251 hv6251 => ?_)
      refine WQ_icmp_eq 45 dX3_faultOfNumber_40 rfl (fun c6251 => False.elim (by omega)) (fun c6251 => ?_)
      refine WQ_iconst (0) (0) dX3_faultOfNumber_43 rfl rfl (fun v6253 hv6253 => ?_)
      exact WP_iret dX3_faultOfNumber_44 rfl ⟨⟨hI6244, rfl, ⟨trivial, (by rw [e6246, ew6234] <;> exact (eq32 _ _).mpr (by omega)), (by rw [e6247, ew6235] <;> exact (eq32 _ _).mpr (by omega)), (by rw [e6248, ew6236] <;> exact (eq32 _ _).mpr (by omega))⟩⟩, _, rfl, by omega, by omega, by (try rw [e6250]); omega⟩
    · refine WQ_iconst (2) (2) dX3_faultOfNumber_27 rfl rfl (fun v6254 hv6254 => ?_)
      obtain ⟨w6255, ew6255⟩ : ∃ w : Int32, I (ad g 4) 1 = w := ⟨_, rfl⟩
      have bw6255 := BT_get hI.1 4 0 5 (0) (0) (1000) (by decide) 1 (by decide) (by decide)
      rw [ew6255] at bw6255
      exact WP_iret dX3_faultOfNumber_28 rfl ⟨⟨hI, rfl, ⟨trivial, rfl, rfl, rfl⟩⟩, _, rfl, by omega, by omega, by (try rw [ew6255]); omega⟩
set_option maxHeartbeats 4000000 in
set_option maxRecDepth 100000 in
theorem sx_part_27_1_0 {g : GG} {n : Int} {L : Int32} (hy : LyX g)  {I : pI} {J : pJ} {R : pR} (hr : RfX g R) (hI : XI g n L I) (pa : Int32) (cz : Int32) (ix : Int32) (pa_lo : 110 ≤ pa.toInt) (pa_hi : pa.toInt ≤ 110) (cz_lo : 1 ≤ cz.toInt) (cz_hi : cz.toInt ≤ 1) (ix_lo : 0 ≤ ix.toInt) (ix_hi : ix.toInt ≤ 0) (hb : (I (ad g 27) 1).toInt ≤ 3) : SP g mX3_faultOfName [.ref (ad g 3), .int pa, .int cz, .int ix, .ref (ad g 27)] I J R (fun r I' J' R' => (XI g n L I' ∧ R' = R ∧ True ∧ I' (ad g 27) 1 = I (ad g 27) 1 ∧ I' (ad g 27) 2 = I (ad g 27) 2) ∧ ∃ v : Int32, r = some (.int v) ∧ 0 ≤ v.toInt ∧ v.toInt ≤ 5) := by
  refine SP_of ⟨by decide, rfl⟩ (Nat.le_of_ble_eq_true rfl) ?_
  have e6256 : I (ad g 1) 1 = L := hI.2
  have b6257 := BT_get hI.1 1 1 2 (0) (0) (900) (by decide) 1 (by decide) (by decide)
  rw [e6256] at b6257
  obtain ⟨w6258, ew6258⟩ : ∃ w : Int32, I (ad g 27) 1 = w := ⟨_, rfl⟩
  have bw6258 := BT_get hI.1 27 1 2 (0) (0) (4) (by decide) 1 (by decide) (by decide)
  rw [ew6258] at bw6258
  obtain ⟨w6259, ew6259⟩ : ∃ w : Int32, I (ad g 27) 2 = w := ⟨_, rfl⟩
  have bw6259 := BT_get hI.1 27 2 3 (0) (0) (3) (by decide) 2 (by decide) (by decide)
  rw [ew6259] at bw6259
  rw [ew6258] at hb
  refine WP_iload_n dX3_faultOfName_0 rfl ?_
  refine WQ_bipush (115) (115) dX3_faultOfName_1 rfl rfl (fun v6260 hv6260 => ?_)
  have jn17_6264 : ∀ (v6264 : Int32), 1 ≤ v6264.toInt → v6264.toInt ≤ 1 → WP g mX3_faultOfName 17 [(0, .ref (ad g 3)), (1, .int pa), (2, .int cz), (3, .int ix), (4, .ref (ad g 27))] [.int v6264] I J R (fun r I' J' R' => (XI g n L I' ∧ R' = R ∧ True ∧ I' (ad g 27) 1 = I (ad g 27) 1 ∧ I' (ad g 27) 2 = I (ad g 27) 2) ∧ ∃ v : Int32, r = some (.int v) ∧ 0 ≤ v.toInt ∧ v.toInt ≤ 5) := by
    intro v6264 av6264 bv6264
    refine WP_istore (ls' := [(0, _), (1, _), (2, _), (3, _), (4, _), (5, _)]) dX3_faultOfName_17 (by decide) rfl ?_
    refine WP_iload dX3_faultOfName_19 rfl ?_
    have jn51_6268 : ∀ (v6268 : Int32), -1 ≤ v6268.toInt → v6268.toInt ≤ 3 → WP g mX3_faultOfName 51 [(0, .ref (ad g 3)), (1, .int pa), (2, .int cz), (3, .int ix), (4, .ref (ad g 27)), (5, .int v6264)] [.int v6268] I J R (fun r I' J' R' => (XI g n L I' ∧ R' = R ∧ True ∧ I' (ad g 27) 1 = I (ad g 27) 1 ∧ I' (ad g 27) 2 = I (ad g 27) 2) ∧ ∃ v : Int32, r = some (.int v) ∧ 0 ≤ v.toInt ∧ v.toInt ≤ 5) := by
      intro v6268 av6268 bv6268
      refine WP_istore (ls' := [(0, _), (1, _), (2, _), (3, _), (4, _), (5, _), (6, _)]) dX3_faultOfName_51 (by decide) rfl ?_
      refine WP_iload_n dX3_faultOfName_53 rfl ?_
      refine WQ_bipush (110) (110) dX3_faultOfName_54 rfl rfl (fun v6270 hv6270 => ?_)
      refine WQ_icmp_eq 65 dX3_faultOfName_56 rfl (fun c6270 => ?_) (fun c6270 => False.elim (by omega))
      refine WP_iload dX3_faultOfName_65 rfl ?_
      refine WQ_iconst (-1) (-1) dX3_faultOfName_67 rfl rfl (fun v6272 hv6272 => ?_)
      refine WQ_icmp_eq 73 dX3_faultOfName_68 rfl (fun c6272 => ?_) (fun c6272 => ?_)
      · refine WP_aload dX3_faultOfName_73 rfl ?_
        refine WP_iload_n dX3_faultOfName_75 rfl ?_
        refine WQ_bipush (110) (110) dX3_faultOfName_76 rfl rfl (fun v6274 hv6274 => ?_)
        have jn86_6276 : ∀ (v6276 : Int32), 1 ≤ v6276.toInt → v6276.toInt ≤ 1 → WP g mX3_faultOfName 86 [(0, .ref (ad g 3)), (1, .int pa), (2, .int cz), (3, .int ix), (4, .ref (ad g 27)), (5, .int v6264), (6, .int v6268)] [.int v6276, .ref (ad g 27)] I J R (fun r I' J' R' => (XI g n L I' ∧ R' = R ∧ True ∧ I' (ad g 27) 1 = I (ad g 27) 1 ∧ I' (ad g 27) 2 = I (ad g 27) 2) ∧ ∃ v : Int32, r = some (.int v) ∧ 0 ≤ v.toInt ∧ v.toInt ≤ 5) := by
          intro v6276 av6276 bv6276
          refine WP_aload_n dX3_faultOfName_86 rfl ?_
          refine WP_getr dX3_faultOfName_87 fX3_15 rfl (lyx_is hy 3 3 rfl) (rfx hr 3 2 1 (by decide)) ?_
          refine WQ_getl dX3_faultOfName_90 fX3_80 rfl (lyx_is hy 1 5 rfl) (fun l6278 el6278 => ?_)
          refine WP_callV2 (k := 7) dX3_faultOfName_93 ⟨⟨⟨by decide, by decide⟩, zX7_name⟩, lX3_110, by decide, rfl, vX7_name.1, vX7_name.2⟩ (lyx_is hy 27 7 rfl) (sx_name_27_1 hy hr hI v6276 l6278 (by omega) (by omega) (by rw [ew6258]; omega)) (Nat.le_of_ble_eq_true rfl) ?_
          intro r Ia J6279 Ra hq
          obtain ⟨⟨ea, ec⟩, rfl⟩ := hq
          rw [ea, ec]
          clear ea ec Ia Ra
          refine WQ_iconst (0) (0) dX3_faultOfName_96 rfl rfl (fun v6280 hv6280 => ?_)
          exact WP_iret dX3_faultOfName_97 rfl ⟨⟨hI, rfl, ⟨trivial, rfl, rfl⟩⟩, _, rfl, by omega, by omega⟩
        refine WQ_icmp_ne 85 dX3_faultOfName_78 rfl (fun c6280 => False.elim (by omega)) (fun c6280 => ?_)
        refine WQ_iconst (1) (1) dX3_faultOfName_81 rfl rfl (fun v6282 hv6282 => ?_)
        refine WP_goto 86 dX3_faultOfName_82 rfl ?_
        exact WP_sub (fc rfl (fc rfl (fc rfl (fc rfl (fc rfl (fc rfl (fc rfl fn))))))) (jn86_6276 v6282 (by omega) (by omega))
      · refine WQ_iconst (3) (3) dX3_faultOfName_71 rfl rfl (fun v6283 hv6283 => ?_)
        exact WP_iret dX3_faultOfName_72 rfl ⟨⟨hI, rfl, ⟨trivial, rfl, rfl⟩⟩, _, rfl, by omega, by omega⟩
    refine WQ_if_eq 39 dX3_faultOfName_21 rfl (fun c6283 => False.elim (by omega)) (fun c6283 => ?_)
    refine WP_aload dX3_faultOfName_24 rfl ?_
    refine WP_aload_n dX3_faultOfName_26 rfl ?_
    refine WP_getr dX3_faultOfName_27 fX3_15 rfl (lyx_is hy 3 3 rfl) (rfx hr 3 2 1 (by decide)) ?_
    refine WQ_getl dX3_faultOfName_30 fX3_80 rfl (lyx_is hy 1 5 rfl) (fun l6285 el6285 => ?_)
    refine WP_callV1 (k := 7) dX3_faultOfName_33 ⟨⟨⟨by decide, by decide⟩, zX7_sortNamed⟩, lX3_103, by decide, rfl, vX7_sortNamed.1, vX7_sortNamed.2⟩ (lyx_is hy 27 7 rfl) (sx_sortNamed_27 hy hr hI l6285 ) (Nat.le_of_ble_eq_true rfl) ?_
    intro r Ia Ja Ra hq
    obtain ⟨⟨ea, eb, ec⟩, v6286, rfl, av6286, bv6286⟩ := hq
    show WP _ _ _ _ (.int _ :: _) _ _ _ _
    rw [ea, eb, ec]
    clear ea eb ec Ia Ja Ra
    refine WP_goto 51 dX3_faultOfName_36 rfl ?_
    exact WP_sub (fc rfl (fc rfl (fc rfl (fc rfl (fc rfl (fc rfl fn)))))) (jn51_6268 v6286 (by omega) (by omega))
  refine WQ_icmp_eq 12 dX3_faultOfName_3 rfl (fun c6286 => False.elim (by omega)) (fun c6286 => ?_)
  refine WP_iload_n dX3_faultOfName_6 rfl ?_
  refine WQ_bipush (110) (110) dX3_faultOfName_7 rfl rfl (fun v6288 hv6288 => ?_)
  refine WQ_icmp_ne 16 dX3_faultOfName_9 rfl (fun c6288 => False.elim (by omega)) (fun c6288 => ?_)
  refine WQ_iconst (1) (1) dX3_faultOfName_12 rfl rfl (fun v6290 hv6290 => ?_)
  refine WP_goto 17 dX3_faultOfName_13 rfl ?_
  exact WP_sub (fc rfl (fc rfl (fc rfl (fc rfl (fc rfl fn))))) (jn17_6264 v6290 (by omega) (by omega))
set_option maxHeartbeats 4000000 in
set_option maxRecDepth 100000 in
theorem sx_part_27_1_1 {g : GG} {n : Int} {L : Int32} (hy : LyX g)  {I : pI} {J : pJ} {R : pR} (hr : RfX g R) (hI : XI g n L I) (pa : Int32) (cz : Int32) (ix : Int32) (pa_lo : 80 ≤ pa.toInt) (pa_hi : pa.toInt ≤ 80) (cz_lo : 1 ≤ cz.toInt) (cz_hi : cz.toInt ≤ 1) (ix_lo : 1 ≤ ix.toInt) (ix_hi : ix.toInt ≤ 1) : SP g mX3_faultOfNumber [.ref (ad g 3), .int pa, .int cz, .int ix, .ref (ad g 27)] I J R (fun r I' J' R' => (XI g n L I' ∧ R' = R ∧ True ∧ I' (ad g 4) 0 = I (ad g 4) 0 ∧ I' (ad g 27) 1 = I (ad g 27) 1 ∧ I' (ad g 27) 2 = I (ad g 27) 2) ∧ ∃ v : Int32, r = some (.int v) ∧ 0 ≤ v.toInt ∧ v.toInt ≤ 5 ∧ (v.toInt = 0 → (I' (ad g 4) 1).toInt ≤ 99)) := by
  refine SP_of ⟨by decide, rfl⟩ (Nat.le_of_ble_eq_true rfl) ?_
  have e6291 : I (ad g 1) 1 = L := hI.2
  have b6292 := BT_get hI.1 1 1 2 (0) (0) (900) (by decide) 1 (by decide) (by decide)
  rw [e6291] at b6292
  obtain ⟨w6293, ew6293⟩ : ∃ w : Int32, I (ad g 4) 0 = w := ⟨_, rfl⟩
  have bw6293 := BT_get hI.1 4 0 5 (0) (0) (1000) (by decide) 0 (by decide) (by decide)
  rw [ew6293] at bw6293
  obtain ⟨w6294, ew6294⟩ : ∃ w : Int32, I (ad g 27) 1 = w := ⟨_, rfl⟩
  have bw6294 := BT_get hI.1 27 1 2 (0) (0) (4) (by decide) 1 (by decide) (by decide)
  rw [ew6294] at bw6294
  obtain ⟨w6295, ew6295⟩ : ∃ w : Int32, I (ad g 27) 2 = w := ⟨_, rfl⟩
  have bw6295 := BT_get hI.1 27 2 3 (0) (0) (3) (by decide) 2 (by decide) (by decide)
  rw [ew6295] at bw6295
  refine WP_aload_n dX3_faultOfNumber_0 rfl ?_
  refine WP_getr dX3_faultOfNumber_1 fX3_15 rfl (lyx_is hy 3 3 rfl) (rfx hr 3 2 1 (by decide)) ?_
  refine WQ_getiu dX3_faultOfNumber_4 fX3_118 rfl (lyx_is hy 1 5 rfl) (fun v6296 ev6296 => ?_)
  refine WP_istore (ls' := [(0, _), (1, _), (2, _), (3, _), (4, _), (5, _)]) dX3_faultOfNumber_7 (by decide) rfl ?_
  refine WP_iload dX3_faultOfNumber_9 rfl ?_
  refine WP_iload_n dX3_faultOfNumber_11 rfl ?_
  refine WP_callS1 dX3_faultOfNumber_12 ⟨⟨⟨by decide, by decide⟩, zX3_leastOf⟩, lX3_121, tX3_leastOf⟩ (sx_leastOf hy hr hI pa ) (Nat.le_of_ble_eq_true rfl) ?_
  intro r Ia Ja Ra hq
  obtain ⟨⟨ea, eb, ec⟩, v6297, rfl, av6297, bv6297⟩ := hq
  show WP _ _ _ _ (.int _ :: _) _ _ _ _
  rw [ea, eb, ec]
  clear ea eb ec Ia Ja Ra
  refine WQ_icmp_lt 27 dX3_faultOfNumber_15 rfl (fun c6297 => ?_) (fun c6297 => ?_)
  · refine WQ_iconst (2) (2) dX3_faultOfNumber_27 rfl rfl (fun v6299 hv6299 => ?_)
    obtain ⟨w6300, ew6300⟩ : ∃ w : Int32, I (ad g 4) 1 = w := ⟨_, rfl⟩
    have bw6300 := BT_get hI.1 4 0 5 (0) (0) (1000) (by decide) 1 (by decide) (by decide)
    rw [ew6300] at bw6300
    exact WP_iret dX3_faultOfNumber_28 rfl ⟨⟨hI, rfl, ⟨trivial, rfl, rfl, rfl⟩⟩, _, rfl, by omega, by omega, by (try rw [ew6300]); omega⟩
  · refine WP_iload dX3_faultOfNumber_18 rfl ?_
    refine WP_iload_n dX3_faultOfNumber_20 rfl ?_
    refine WP_callS1 dX3_faultOfNumber_21 ⟨⟨⟨by decide, by decide⟩, zX3_mostOf⟩, lX3_125, tX3_mostOf⟩ (sx_mostOf hy hr hI pa ) (Nat.le_of_ble_eq_true rfl) ?_
    intro r Ia Ja Ra hq
    obtain ⟨⟨ea, eb, ec⟩, v6301, rfl, av6301, bv6301, cv6301⟩ := hq
    show WP _ _ _ _ (.int _ :: _) _ _ _ _
    rw [ea, eb, ec]
    clear ea eb ec Ia Ja Ra
    refine WQ_icmp_le 29 dX3_faultOfNumber_24 rfl (fun c6301 => ?_) (fun c6301 => ?_)
    · refine WP_aload_n dX3_faultOfNumber_29 rfl ?_
      refine WP_getr dX3_faultOfNumber_30 fX3_9 rfl (lyx_is hy 3 3 rfl) (rfx hr 3 3 4 (by decide)) ?_
      refine WP_iload_n dX3_faultOfNumber_33 rfl ?_
      refine WP_iload dX3_faultOfNumber_34 rfl ?_
      refine WQ_iast dX3_faultOfNumber_36 (lyx_is hy 4 13 rfl) (lyx_n hy 4 5 rfl) (by omega) (by omega) (fun I6303 fI6303 => ?_)
      have eI6303 := fI6303
      rw [cl (x := ix) (n := 1) (by omega)] at eI6303
      clear fI6303
      have hI6303 : XI g n L I6303 := by rw [eI6303]; exact (xi_f hy hI (c := 4) (0) (0) (1000) (by decide) (Or.inl (by decide)) (by decide) (by omega) (by omega))
      have e6304 : I6303 (ad g 1) 1 = L := by rw [eI6303, pp_ne _ _ (Or.inl (lyx_ne hy (by decide) (by decide) (by decide)))]; exact e6291
      have e6305 : I6303 (ad g 4) 0 = w6293 := by rw [eI6303, pp_ne _ _ (Or.inr (by decide))]; exact ew6293
      have e6306 : I6303 (ad g 27) 1 = w6294 := by rw [eI6303, pp_ne _ _ (Or.inl (lyx_ne hy (by decide) (by decide) (by decide)))]; exact ew6294
      have e6307 : I6303 (ad g 27) 2 = w6295 := by rw [eI6303, pp_ne _ _ (Or.inl (lyx_ne hy (by decide) (by decide) (by decide)))]; exact ew6295
      have e6308 : I6303 (ad g 1) 4 = v6296 := by rw [eI6303, pp_ne _ _ (Or.inl (lyx_ne hy (by decide) (by decide) (by decide)))]; exact ev6296
      have e6309 : I6303 (ad g 4) 1 = v6296 := by rw [eI6303, pp_self]
      clear eI6303
      refine WP_iload_n dX3_faultOfNumber_37 rfl ?_
      refine WQ_bipush (68) (68) dX3_faultOfNumber_38 rfl rfl (fun v6310 hv6310 => ?_)
      refine WQ_icmp_eq 45 dX3_faultOfNumber_40 rfl (fun c6310 => False.elim (by omega)) (fun c6310 => ?_)
      refine WQ_iconst (0) (0) dX3_faultOfNumber_43 rfl rfl (fun v6312 hv6312 => ?_)
      exact WP_iret dX3_faultOfNumber_44 rfl ⟨⟨hI6303, rfl, ⟨trivial, (by rw [e6305, ew6293] <;> exact (eq32 _ _).mpr (by omega)), (by rw [e6306, ew6294] <;> exact (eq32 _ _).mpr (by omega)), (by rw [e6307, ew6295] <;> exact (eq32 _ _).mpr (by omega))⟩⟩, _, rfl, by omega, by omega, by (try rw [e6309]); omega⟩
    · refine WQ_iconst (2) (2) dX3_faultOfNumber_27 rfl rfl (fun v6313 hv6313 => ?_)
      obtain ⟨w6314, ew6314⟩ : ∃ w : Int32, I (ad g 4) 1 = w := ⟨_, rfl⟩
      have bw6314 := BT_get hI.1 4 0 5 (0) (0) (1000) (by decide) 1 (by decide) (by decide)
      rw [ew6314] at bw6314
      exact WP_iret dX3_faultOfNumber_28 rfl ⟨⟨hI, rfl, ⟨trivial, rfl, rfl, rfl⟩⟩, _, rfl, by omega, by omega, by (try rw [ew6314]); omega⟩
set_option maxHeartbeats 4000000 in
set_option maxRecDepth 100000 in
theorem sx_part_27_1_2 {g : GG} {n : Int} {L : Int32} (hy : LyX g)  {I : pI} {J : pJ} {R : pR} (hr : RfX g R) (hI : XI g n L I) (pa : Int32) (cz : Int32) (ix : Int32) (pa_lo : 72 ≤ pa.toInt) (pa_hi : pa.toInt ≤ 72) (cz_lo : 1 ≤ cz.toInt) (cz_hi : cz.toInt ≤ 1) (ix_lo : 2 ≤ ix.toInt) (ix_hi : ix.toInt ≤ 2) : SP g mX3_faultOfNumber [.ref (ad g 3), .int pa, .int cz, .int ix, .ref (ad g 27)] I J R (fun r I' J' R' => (XI g n L I' ∧ R' = R ∧ True ∧ I' (ad g 4) 0 = I (ad g 4) 0 ∧ I' (ad g 4) 1 = I (ad g 4) 1 ∧ I' (ad g 27) 1 = I (ad g 27) 1 ∧ I' (ad g 27) 2 = I (ad g 27) 2) ∧ ∃ v : Int32, r = some (.int v) ∧ 0 ≤ v.toInt ∧ v.toInt ≤ 5 ∧ (v.toInt = 0 → (I' (ad g 4) 2).toInt ≤ 1000)) := by
  refine SP_of ⟨by decide, rfl⟩ (Nat.le_of_ble_eq_true rfl) ?_
  have e6315 : I (ad g 1) 1 = L := hI.2
  have b6316 := BT_get hI.1 1 1 2 (0) (0) (900) (by decide) 1 (by decide) (by decide)
  rw [e6315] at b6316
  obtain ⟨w6317, ew6317⟩ : ∃ w : Int32, I (ad g 4) 0 = w := ⟨_, rfl⟩
  have bw6317 := BT_get hI.1 4 0 5 (0) (0) (1000) (by decide) 0 (by decide) (by decide)
  rw [ew6317] at bw6317
  obtain ⟨w6318, ew6318⟩ : ∃ w : Int32, I (ad g 4) 1 = w := ⟨_, rfl⟩
  have bw6318 := BT_get hI.1 4 0 5 (0) (0) (1000) (by decide) 1 (by decide) (by decide)
  rw [ew6318] at bw6318
  obtain ⟨w6319, ew6319⟩ : ∃ w : Int32, I (ad g 27) 1 = w := ⟨_, rfl⟩
  have bw6319 := BT_get hI.1 27 1 2 (0) (0) (4) (by decide) 1 (by decide) (by decide)
  rw [ew6319] at bw6319
  obtain ⟨w6320, ew6320⟩ : ∃ w : Int32, I (ad g 27) 2 = w := ⟨_, rfl⟩
  have bw6320 := BT_get hI.1 27 2 3 (0) (0) (3) (by decide) 2 (by decide) (by decide)
  rw [ew6320] at bw6320
  refine WP_aload_n dX3_faultOfNumber_0 rfl ?_
  refine WP_getr dX3_faultOfNumber_1 fX3_15 rfl (lyx_is hy 3 3 rfl) (rfx hr 3 2 1 (by decide)) ?_
  refine WQ_getiu dX3_faultOfNumber_4 fX3_118 rfl (lyx_is hy 1 5 rfl) (fun v6321 ev6321 => ?_)
  refine WP_istore (ls' := [(0, _), (1, _), (2, _), (3, _), (4, _), (5, _)]) dX3_faultOfNumber_7 (by decide) rfl ?_
  refine WP_iload dX3_faultOfNumber_9 rfl ?_
  refine WP_iload_n dX3_faultOfNumber_11 rfl ?_
  refine WP_callS1 dX3_faultOfNumber_12 ⟨⟨⟨by decide, by decide⟩, zX3_leastOf⟩, lX3_121, tX3_leastOf⟩ (sx_leastOf hy hr hI pa ) (Nat.le_of_ble_eq_true rfl) ?_
  intro r Ia Ja Ra hq
  obtain ⟨⟨ea, eb, ec⟩, v6322, rfl, av6322, bv6322⟩ := hq
  show WP _ _ _ _ (.int _ :: _) _ _ _ _
  rw [ea, eb, ec]
  clear ea eb ec Ia Ja Ra
  refine WQ_icmp_lt 27 dX3_faultOfNumber_15 rfl (fun c6322 => ?_) (fun c6322 => ?_)
  · refine WQ_iconst (2) (2) dX3_faultOfNumber_27 rfl rfl (fun v6324 hv6324 => ?_)
    obtain ⟨w6325, ew6325⟩ : ∃ w : Int32, I (ad g 4) 2 = w := ⟨_, rfl⟩
    have bw6325 := BT_get hI.1 4 0 5 (0) (0) (1000) (by decide) 2 (by decide) (by decide)
    rw [ew6325] at bw6325
    exact WP_iret dX3_faultOfNumber_28 rfl ⟨⟨hI, rfl, ⟨trivial, rfl, rfl, rfl, rfl⟩⟩, _, rfl, by omega, by omega, by (try rw [ew6325]); omega⟩
  · refine WP_iload dX3_faultOfNumber_18 rfl ?_
    refine WP_iload_n dX3_faultOfNumber_20 rfl ?_
    refine WP_callS1 dX3_faultOfNumber_21 ⟨⟨⟨by decide, by decide⟩, zX3_mostOf⟩, lX3_125, tX3_mostOf⟩ (sx_mostOf hy hr hI pa ) (Nat.le_of_ble_eq_true rfl) ?_
    intro r Ia Ja Ra hq
    obtain ⟨⟨ea, eb, ec⟩, v6326, rfl, av6326, bv6326, cv6326⟩ := hq
    show WP _ _ _ _ (.int _ :: _) _ _ _ _
    rw [ea, eb, ec]
    clear ea eb ec Ia Ja Ra
    refine WQ_icmp_le 29 dX3_faultOfNumber_24 rfl (fun c6326 => ?_) (fun c6326 => ?_)
    · refine WP_aload_n dX3_faultOfNumber_29 rfl ?_
      refine WP_getr dX3_faultOfNumber_30 fX3_9 rfl (lyx_is hy 3 3 rfl) (rfx hr 3 3 4 (by decide)) ?_
      refine WP_iload_n dX3_faultOfNumber_33 rfl ?_
      refine WP_iload dX3_faultOfNumber_34 rfl ?_
      refine WQ_iast dX3_faultOfNumber_36 (lyx_is hy 4 13 rfl) (lyx_n hy 4 5 rfl) (by omega) (by omega) (fun I6328 fI6328 => ?_)
      have eI6328 := fI6328
      rw [cl (x := ix) (n := 2) (by omega)] at eI6328
      clear fI6328
      have hI6328 : XI g n L I6328 := by rw [eI6328]; exact (xi_f hy hI (c := 4) (0) (0) (1000) (by decide) (Or.inl (by decide)) (by decide) (by omega) (by omega))
      have e6329 : I6328 (ad g 1) 1 = L := by rw [eI6328, pp_ne _ _ (Or.inl (lyx_ne hy (by decide) (by decide) (by decide)))]; exact e6315
      have e6330 : I6328 (ad g 4) 0 = w6317 := by rw [eI6328, pp_ne _ _ (Or.inr (by decide))]; exact ew6317
      have e6331 : I6328 (ad g 4) 1 = w6318 := by rw [eI6328, pp_ne _ _ (Or.inr (by decide))]; exact ew6318
      have e6332 : I6328 (ad g 27) 1 = w6319 := by rw [eI6328, pp_ne _ _ (Or.inl (lyx_ne hy (by decide) (by decide) (by decide)))]; exact ew6319
      have e6333 : I6328 (ad g 27) 2 = w6320 := by rw [eI6328, pp_ne _ _ (Or.inl (lyx_ne hy (by decide) (by decide) (by decide)))]; exact ew6320
      have e6334 : I6328 (ad g 1) 4 = v6321 := by rw [eI6328, pp_ne _ _ (Or.inl (lyx_ne hy (by decide) (by decide) (by decide)))]; exact ev6321
      have e6335 : I6328 (ad g 4) 2 = v6321 := by rw [eI6328, pp_self]
      clear eI6328
      refine WP_iload_n dX3_faultOfNumber_37 rfl ?_
      refine WQ_bipush (68) (68) dX3_faultOfNumber_38 rfl rfl (fun v6336 hv6336 => ?_)
      refine WQ_icmp_eq 45 dX3_faultOfNumber_40 rfl (fun c6336 => False.elim (by omega)) (fun c6336 => ?_)
      refine WQ_iconst (0) (0) dX3_faultOfNumber_43 rfl rfl (fun v6338 hv6338 => ?_)
      exact WP_iret dX3_faultOfNumber_44 rfl ⟨⟨hI6328, rfl, ⟨trivial, (by rw [e6330, ew6317] <;> exact (eq32 _ _).mpr (by omega)), (by rw [e6331, ew6318] <;> exact (eq32 _ _).mpr (by omega)), (by rw [e6332, ew6319] <;> exact (eq32 _ _).mpr (by omega)), (by rw [e6333, ew6320] <;> exact (eq32 _ _).mpr (by omega))⟩⟩, _, rfl, by omega, by omega, by (try rw [e6335]); omega⟩
    · refine WQ_iconst (2) (2) dX3_faultOfNumber_27 rfl rfl (fun v6339 hv6339 => ?_)
      obtain ⟨w6340, ew6340⟩ : ∃ w : Int32, I (ad g 4) 2 = w := ⟨_, rfl⟩
      have bw6340 := BT_get hI.1 4 0 5 (0) (0) (1000) (by decide) 2 (by decide) (by decide)
      rw [ew6340] at bw6340
      exact WP_iret dX3_faultOfNumber_28 rfl ⟨⟨hI, rfl, ⟨trivial, rfl, rfl, rfl, rfl⟩⟩, _, rfl, by omega, by omega, by (try rw [ew6340]); omega⟩
set_option maxHeartbeats 4000000 in
set_option maxRecDepth 100000 in
theorem sx_part_27_1_3 {g : GG} {n : Int} {L : Int32} (hy : LyX g)  {I : pI} {J : pJ} {R : pR} (hr : RfX g R) (hI : XI g n L I) (pa : Int32) (cz : Int32) (ix : Int32) (pa_lo : 67 ≤ pa.toInt) (pa_hi : pa.toInt ≤ 67) (cz_lo : 1 ≤ cz.toInt) (cz_hi : cz.toInt ≤ 1) (ix_lo : 3 ≤ ix.toInt) (ix_hi : ix.toInt ≤ 3) : SP g mX3_faultOfNumber [.ref (ad g 3), .int pa, .int cz, .int ix, .ref (ad g 27)] I J R (fun r I' J' R' => (XI g n L I' ∧ R' = R ∧ True ∧ I' (ad g 4) 0 = I (ad g 4) 0 ∧ I' (ad g 4) 1 = I (ad g 4) 1 ∧ I' (ad g 4) 2 = I (ad g 4) 2 ∧ I' (ad g 27) 1 = I (ad g 27) 1 ∧ I' (ad g 27) 2 = I (ad g 27) 2) ∧ ∃ v : Int32, r = some (.int v) ∧ 0 ≤ v.toInt ∧ v.toInt ≤ 5 ∧ (v.toInt = 0 → (I' (ad g 4) 3).toInt ≤ 60)) := by
  refine SP_of ⟨by decide, rfl⟩ (Nat.le_of_ble_eq_true rfl) ?_
  have e6341 : I (ad g 1) 1 = L := hI.2
  have b6342 := BT_get hI.1 1 1 2 (0) (0) (900) (by decide) 1 (by decide) (by decide)
  rw [e6341] at b6342
  obtain ⟨w6343, ew6343⟩ : ∃ w : Int32, I (ad g 4) 0 = w := ⟨_, rfl⟩
  have bw6343 := BT_get hI.1 4 0 5 (0) (0) (1000) (by decide) 0 (by decide) (by decide)
  rw [ew6343] at bw6343
  obtain ⟨w6344, ew6344⟩ : ∃ w : Int32, I (ad g 4) 1 = w := ⟨_, rfl⟩
  have bw6344 := BT_get hI.1 4 0 5 (0) (0) (1000) (by decide) 1 (by decide) (by decide)
  rw [ew6344] at bw6344
  obtain ⟨w6345, ew6345⟩ : ∃ w : Int32, I (ad g 4) 2 = w := ⟨_, rfl⟩
  have bw6345 := BT_get hI.1 4 0 5 (0) (0) (1000) (by decide) 2 (by decide) (by decide)
  rw [ew6345] at bw6345
  obtain ⟨w6346, ew6346⟩ : ∃ w : Int32, I (ad g 27) 1 = w := ⟨_, rfl⟩
  have bw6346 := BT_get hI.1 27 1 2 (0) (0) (4) (by decide) 1 (by decide) (by decide)
  rw [ew6346] at bw6346
  obtain ⟨w6347, ew6347⟩ : ∃ w : Int32, I (ad g 27) 2 = w := ⟨_, rfl⟩
  have bw6347 := BT_get hI.1 27 2 3 (0) (0) (3) (by decide) 2 (by decide) (by decide)
  rw [ew6347] at bw6347
  refine WP_aload_n dX3_faultOfNumber_0 rfl ?_
  refine WP_getr dX3_faultOfNumber_1 fX3_15 rfl (lyx_is hy 3 3 rfl) (rfx hr 3 2 1 (by decide)) ?_
  refine WQ_getiu dX3_faultOfNumber_4 fX3_118 rfl (lyx_is hy 1 5 rfl) (fun v6348 ev6348 => ?_)
  refine WP_istore (ls' := [(0, _), (1, _), (2, _), (3, _), (4, _), (5, _)]) dX3_faultOfNumber_7 (by decide) rfl ?_
  refine WP_iload dX3_faultOfNumber_9 rfl ?_
  refine WP_iload_n dX3_faultOfNumber_11 rfl ?_
  refine WP_callS1 dX3_faultOfNumber_12 ⟨⟨⟨by decide, by decide⟩, zX3_leastOf⟩, lX3_121, tX3_leastOf⟩ (sx_leastOf hy hr hI pa ) (Nat.le_of_ble_eq_true rfl) ?_
  intro r Ia Ja Ra hq
  obtain ⟨⟨ea, eb, ec⟩, v6349, rfl, av6349, bv6349⟩ := hq
  show WP _ _ _ _ (.int _ :: _) _ _ _ _
  rw [ea, eb, ec]
  clear ea eb ec Ia Ja Ra
  refine WQ_icmp_lt 27 dX3_faultOfNumber_15 rfl (fun c6349 => ?_) (fun c6349 => ?_)
  · refine WQ_iconst (2) (2) dX3_faultOfNumber_27 rfl rfl (fun v6351 hv6351 => ?_)
    obtain ⟨w6352, ew6352⟩ : ∃ w : Int32, I (ad g 4) 3 = w := ⟨_, rfl⟩
    have bw6352 := BT_get hI.1 4 0 5 (0) (0) (1000) (by decide) 3 (by decide) (by decide)
    rw [ew6352] at bw6352
    exact WP_iret dX3_faultOfNumber_28 rfl ⟨⟨hI, rfl, ⟨trivial, rfl, rfl, rfl, rfl, rfl⟩⟩, _, rfl, by omega, by omega, by (try rw [ew6352]); omega⟩
  · refine WP_iload dX3_faultOfNumber_18 rfl ?_
    refine WP_iload_n dX3_faultOfNumber_20 rfl ?_
    refine WP_callS1 dX3_faultOfNumber_21 ⟨⟨⟨by decide, by decide⟩, zX3_mostOf⟩, lX3_125, tX3_mostOf⟩ (sx_mostOf hy hr hI pa ) (Nat.le_of_ble_eq_true rfl) ?_
    intro r Ia Ja Ra hq
    obtain ⟨⟨ea, eb, ec⟩, v6353, rfl, av6353, bv6353, cv6353⟩ := hq
    show WP _ _ _ _ (.int _ :: _) _ _ _ _
    rw [ea, eb, ec]
    clear ea eb ec Ia Ja Ra
    refine WQ_icmp_le 29 dX3_faultOfNumber_24 rfl (fun c6353 => ?_) (fun c6353 => ?_)
    · refine WP_aload_n dX3_faultOfNumber_29 rfl ?_
      refine WP_getr dX3_faultOfNumber_30 fX3_9 rfl (lyx_is hy 3 3 rfl) (rfx hr 3 3 4 (by decide)) ?_
      refine WP_iload_n dX3_faultOfNumber_33 rfl ?_
      refine WP_iload dX3_faultOfNumber_34 rfl ?_
      refine WQ_iast dX3_faultOfNumber_36 (lyx_is hy 4 13 rfl) (lyx_n hy 4 5 rfl) (by omega) (by omega) (fun I6355 fI6355 => ?_)
      have eI6355 := fI6355
      rw [cl (x := ix) (n := 3) (by omega)] at eI6355
      clear fI6355
      have hI6355 : XI g n L I6355 := by rw [eI6355]; exact (xi_f hy hI (c := 4) (0) (0) (1000) (by decide) (Or.inl (by decide)) (by decide) (by omega) (by omega))
      have e6356 : I6355 (ad g 1) 1 = L := by rw [eI6355, pp_ne _ _ (Or.inl (lyx_ne hy (by decide) (by decide) (by decide)))]; exact e6341
      have e6357 : I6355 (ad g 4) 0 = w6343 := by rw [eI6355, pp_ne _ _ (Or.inr (by decide))]; exact ew6343
      have e6358 : I6355 (ad g 4) 1 = w6344 := by rw [eI6355, pp_ne _ _ (Or.inr (by decide))]; exact ew6344
      have e6359 : I6355 (ad g 4) 2 = w6345 := by rw [eI6355, pp_ne _ _ (Or.inr (by decide))]; exact ew6345
      have e6360 : I6355 (ad g 27) 1 = w6346 := by rw [eI6355, pp_ne _ _ (Or.inl (lyx_ne hy (by decide) (by decide) (by decide)))]; exact ew6346
      have e6361 : I6355 (ad g 27) 2 = w6347 := by rw [eI6355, pp_ne _ _ (Or.inl (lyx_ne hy (by decide) (by decide) (by decide)))]; exact ew6347
      have e6362 : I6355 (ad g 1) 4 = v6348 := by rw [eI6355, pp_ne _ _ (Or.inl (lyx_ne hy (by decide) (by decide) (by decide)))]; exact ev6348
      have e6363 : I6355 (ad g 4) 3 = v6348 := by rw [eI6355, pp_self]
      clear eI6355
      refine WP_iload_n dX3_faultOfNumber_37 rfl ?_
      refine WQ_bipush (68) (68) dX3_faultOfNumber_38 rfl rfl (fun v6364 hv6364 => ?_)
      refine WQ_icmp_eq 45 dX3_faultOfNumber_40 rfl (fun c6364 => False.elim (by omega)) (fun c6364 => ?_)
      refine WQ_iconst (0) (0) dX3_faultOfNumber_43 rfl rfl (fun v6366 hv6366 => ?_)
      exact WP_iret dX3_faultOfNumber_44 rfl ⟨⟨hI6355, rfl, ⟨trivial, (by rw [e6357, ew6343] <;> exact (eq32 _ _).mpr (by omega)), (by rw [e6358, ew6344] <;> exact (eq32 _ _).mpr (by omega)), (by rw [e6359, ew6345] <;> exact (eq32 _ _).mpr (by omega)), (by rw [e6360, ew6346] <;> exact (eq32 _ _).mpr (by omega)), (by rw [e6361, ew6347] <;> exact (eq32 _ _).mpr (by omega))⟩⟩, _, rfl, by omega, by omega, by (try rw [e6363]); omega⟩
    · refine WQ_iconst (2) (2) dX3_faultOfNumber_27 rfl rfl (fun v6367 hv6367 => ?_)
      obtain ⟨w6368, ew6368⟩ : ∃ w : Int32, I (ad g 4) 3 = w := ⟨_, rfl⟩
      have bw6368 := BT_get hI.1 4 0 5 (0) (0) (1000) (by decide) 3 (by decide) (by decide)
      rw [ew6368] at bw6368
      exact WP_iret dX3_faultOfNumber_28 rfl ⟨⟨hI, rfl, ⟨trivial, rfl, rfl, rfl, rfl, rfl⟩⟩, _, rfl, by omega, by omega, by (try rw [ew6368]); omega⟩
set_option maxHeartbeats 4000000 in
set_option maxRecDepth 100000 in
theorem sx_part_27_2_0 {g : GG} {n : Int} {L : Int32} (hy : LyX g)  {I : pI} {J : pJ} {R : pR} (hr : RfX g R) (hI : XI g n L I) (pa : Int32) (cz : Int32) (ix : Int32) (pa_lo : 109 ≤ pa.toInt) (pa_hi : pa.toInt ≤ 109) (cz_lo : 2 ≤ cz.toInt) (cz_hi : cz.toInt ≤ 2) (ix_lo : 0 ≤ ix.toInt) (ix_hi : ix.toInt ≤ 0) (hb : (I (ad g 27) 2).toInt ≤ 2) : SP g mX3_faultOfName [.ref (ad g 3), .int pa, .int cz, .int ix, .ref (ad g 27)] I J R (fun r I' J' R' => (XI g n L I' ∧ R' = R ∧ True ∧ I' (ad g 27) 1 = I (ad g 27) 1 ∧ I' (ad g 27) 2 = I (ad g 27) 2) ∧ ∃ v : Int32, r = some (.int v) ∧ 0 ≤ v.toInt ∧ v.toInt ≤ 5) := by
  refine SP_of ⟨by decide, rfl⟩ (Nat.le_of_ble_eq_true rfl) ?_
  have e6369 : I (ad g 1) 1 = L := hI.2
  have b6370 := BT_get hI.1 1 1 2 (0) (0) (900) (by decide) 1 (by decide) (by decide)
  rw [e6369] at b6370
  obtain ⟨w6371, ew6371⟩ : ∃ w : Int32, I (ad g 27) 1 = w := ⟨_, rfl⟩
  have bw6371 := BT_get hI.1 27 1 2 (0) (0) (4) (by decide) 1 (by decide) (by decide)
  rw [ew6371] at bw6371
  obtain ⟨w6372, ew6372⟩ : ∃ w : Int32, I (ad g 27) 2 = w := ⟨_, rfl⟩
  have bw6372 := BT_get hI.1 27 2 3 (0) (0) (3) (by decide) 2 (by decide) (by decide)
  rw [ew6372] at bw6372
  rw [ew6372] at hb
  refine WP_iload_n dX3_faultOfName_0 rfl ?_
  refine WQ_bipush (115) (115) dX3_faultOfName_1 rfl rfl (fun v6373 hv6373 => ?_)
  have jn17_6377 : ∀ (v6377 : Int32), 0 ≤ v6377.toInt → v6377.toInt ≤ 0 → WP g mX3_faultOfName 17 [(0, .ref (ad g 3)), (1, .int pa), (2, .int cz), (3, .int ix), (4, .ref (ad g 27))] [.int v6377] I J R (fun r I' J' R' => (XI g n L I' ∧ R' = R ∧ True ∧ I' (ad g 27) 1 = I (ad g 27) 1 ∧ I' (ad g 27) 2 = I (ad g 27) 2) ∧ ∃ v : Int32, r = some (.int v) ∧ 0 ≤ v.toInt ∧ v.toInt ≤ 5) := by
    intro v6377 av6377 bv6377
    refine WP_istore (ls' := [(0, _), (1, _), (2, _), (3, _), (4, _), (5, _)]) dX3_faultOfName_17 (by decide) rfl ?_
    refine WP_iload dX3_faultOfName_19 rfl ?_
    have jn51_6381 : ∀ (v6381 : Int32), -1 ≤ v6381.toInt → v6381.toInt ≤ 2 → WP g mX3_faultOfName 51 [(0, .ref (ad g 3)), (1, .int pa), (2, .int cz), (3, .int ix), (4, .ref (ad g 27)), (5, .int v6377)] [.int v6381] I J R (fun r I' J' R' => (XI g n L I' ∧ R' = R ∧ True ∧ I' (ad g 27) 1 = I (ad g 27) 1 ∧ I' (ad g 27) 2 = I (ad g 27) 2) ∧ ∃ v : Int32, r = some (.int v) ∧ 0 ≤ v.toInt ∧ v.toInt ≤ 5) := by
      intro v6381 av6381 bv6381
      refine WP_istore (ls' := [(0, _), (1, _), (2, _), (3, _), (4, _), (5, _), (6, _)]) dX3_faultOfName_51 (by decide) rfl ?_
      refine WP_iload_n dX3_faultOfName_53 rfl ?_
      refine WQ_bipush (110) (110) dX3_faultOfName_54 rfl rfl (fun v6383 hv6383 => ?_)
      refine WQ_icmp_eq 65 dX3_faultOfName_56 rfl (fun c6383 => False.elim (by omega)) (fun c6383 => ?_)
      refine WP_iload_n dX3_faultOfName_59 rfl ?_
      refine WQ_bipush (109) (109) dX3_faultOfName_60 rfl rfl (fun v6385 hv6385 => ?_)
      refine WQ_icmp_ne 98 dX3_faultOfName_62 rfl (fun c6385 => False.elim (by omega)) (fun c6385 => ?_)
      refine WP_iload dX3_faultOfName_65 rfl ?_
      refine WQ_iconst (-1) (-1) dX3_faultOfName_67 rfl rfl (fun v6387 hv6387 => ?_)
      refine WQ_icmp_eq 73 dX3_faultOfName_68 rfl (fun c6387 => ?_) (fun c6387 => ?_)
      · refine WP_aload dX3_faultOfName_73 rfl ?_
        refine WP_iload_n dX3_faultOfName_75 rfl ?_
        refine WQ_bipush (110) (110) dX3_faultOfName_76 rfl rfl (fun v6389 hv6389 => ?_)
        have jn86_6391 : ∀ (v6391 : Int32), 0 ≤ v6391.toInt → v6391.toInt ≤ 0 → WP g mX3_faultOfName 86 [(0, .ref (ad g 3)), (1, .int pa), (2, .int cz), (3, .int ix), (4, .ref (ad g 27)), (5, .int v6377), (6, .int v6381)] [.int v6391, .ref (ad g 27)] I J R (fun r I' J' R' => (XI g n L I' ∧ R' = R ∧ True ∧ I' (ad g 27) 1 = I (ad g 27) 1 ∧ I' (ad g 27) 2 = I (ad g 27) 2) ∧ ∃ v : Int32, r = some (.int v) ∧ 0 ≤ v.toInt ∧ v.toInt ≤ 5) := by
          intro v6391 av6391 bv6391
          refine WP_aload_n dX3_faultOfName_86 rfl ?_
          refine WP_getr dX3_faultOfName_87 fX3_15 rfl (lyx_is hy 3 3 rfl) (rfx hr 3 2 1 (by decide)) ?_
          refine WQ_getl dX3_faultOfName_90 fX3_80 rfl (lyx_is hy 1 5 rfl) (fun l6393 el6393 => ?_)
          refine WP_callV2 (k := 7) dX3_faultOfName_93 ⟨⟨⟨by decide, by decide⟩, zX7_name⟩, lX3_110, by decide, rfl, vX7_name.1, vX7_name.2⟩ (lyx_is hy 27 7 rfl) (sx_name_27_0 hy hr hI v6391 l6393 (by omega) (by omega) (by rw [ew6372]; omega)) (Nat.le_of_ble_eq_true rfl) ?_
          intro r Ia J6394 Ra hq
          obtain ⟨⟨ea, ec⟩, rfl⟩ := hq
          rw [ea, ec]
          clear ea ec Ia Ra
          refine WQ_iconst (0) (0) dX3_faultOfName_96 rfl rfl (fun v6395 hv6395 => ?_)
          exact WP_iret dX3_faultOfName_97 rfl ⟨⟨hI, rfl, ⟨trivial, rfl, rfl⟩⟩, _, rfl, by omega, by omega⟩
        refine WQ_icmp_ne 85 dX3_faultOfName_78 rfl (fun c6395 => ?_) (fun c6395 => False.elim (by omega))
        refine WQ_iconst (0) (0) dX3_faultOfName_85 rfl rfl (fun v6397 hv6397 => ?_)
        exact WP_sub (fc rfl (fc rfl (fc rfl (fc rfl (fc rfl (fc rfl (fc rfl fn))))))) (jn86_6391 v6397 (by omega) (by omega))
      · refine WQ_iconst (3) (3) dX3_faultOfName_71 rfl rfl (fun v6398 hv6398 => ?_)
        exact WP_iret dX3_faultOfName_72 rfl ⟨⟨hI, rfl, ⟨trivial, rfl, rfl⟩⟩, _, rfl, by omega, by omega⟩
    refine WQ_if_eq 39 dX3_faultOfName_21 rfl (fun c6398 => ?_) (fun c6398 => False.elim (by omega))
    refine WP_aload dX3_faultOfName_39 rfl ?_
    refine WP_aload_n dX3_faultOfName_41 rfl ?_
    refine WP_getr dX3_faultOfName_42 fX3_15 rfl (lyx_is hy 3 3 rfl) (rfx hr 3 2 1 (by decide)) ?_
    refine WQ_getl dX3_faultOfName_45 fX3_80 rfl (lyx_is hy 1 5 rfl) (fun l6400 el6400 => ?_)
    refine WP_callV1 (k := 7) dX3_faultOfName_48 ⟨⟨⟨by decide, by decide⟩, zX7_thingNamed⟩, lX3_107, by decide, rfl, vX7_thingNamed.1, vX7_thingNamed.2⟩ (lyx_is hy 27 7 rfl) (sx_thingNamed_27 hy hr hI l6400 ) (Nat.le_of_ble_eq_true rfl) ?_
    intro r Ia Ja Ra hq
    obtain ⟨⟨ea, eb, ec⟩, v6401, rfl, av6401, bv6401⟩ := hq
    show WP _ _ _ _ (.int _ :: _) _ _ _ _
    rw [ea, eb, ec]
    clear ea eb ec Ia Ja Ra
    exact WP_sub (fc rfl (fc rfl (fc rfl (fc rfl (fc rfl (fc rfl fn)))))) (jn51_6381 v6401 (by omega) (by omega))
  refine WQ_icmp_eq 12 dX3_faultOfName_3 rfl (fun c6401 => False.elim (by omega)) (fun c6401 => ?_)
  refine WP_iload_n dX3_faultOfName_6 rfl ?_
  refine WQ_bipush (110) (110) dX3_faultOfName_7 rfl rfl (fun v6403 hv6403 => ?_)
  refine WQ_icmp_ne 16 dX3_faultOfName_9 rfl (fun c6403 => ?_) (fun c6403 => False.elim (by omega))
  refine WQ_iconst (0) (0) dX3_faultOfName_16 rfl rfl (fun v6405 hv6405 => ?_)
  exact WP_sub (fc rfl (fc rfl (fc rfl (fc rfl (fc rfl fn))))) (jn17_6377 v6405 (by omega) (by omega))
set_option maxHeartbeats 4000000 in
set_option maxRecDepth 100000 in
theorem sx_part_27_2_1 {g : GG} {n : Int} {L : Int32} (hy : LyX g)  {I : pI} {J : pJ} {R : pR} (hr : RfX g R) (hI : XI g n L I) (pa : Int32) (cz : Int32) (ix : Int32) (pa_lo : 72 ≤ pa.toInt) (pa_hi : pa.toInt ≤ 72) (cz_lo : 2 ≤ cz.toInt) (cz_hi : cz.toInt ≤ 2) (ix_lo : 1 ≤ ix.toInt) (ix_hi : ix.toInt ≤ 1) : SP g mX3_faultOfNumber [.ref (ad g 3), .int pa, .int cz, .int ix, .ref (ad g 27)] I J R (fun r I' J' R' => (XI g n L I' ∧ R' = R ∧ True ∧ I' (ad g 4) 0 = I (ad g 4) 0 ∧ I' (ad g 27) 1 = I (ad g 27) 1 ∧ I' (ad g 27) 2 = I (ad g 27) 2) ∧ ∃ v : Int32, r = some (.int v) ∧ 0 ≤ v.toInt ∧ v.toInt ≤ 5 ∧ (v.toInt = 0 → (I' (ad g 4) 1).toInt ≤ 1000)) := by
  refine SP_of ⟨by decide, rfl⟩ (Nat.le_of_ble_eq_true rfl) ?_
  have e6406 : I (ad g 1) 1 = L := hI.2
  have b6407 := BT_get hI.1 1 1 2 (0) (0) (900) (by decide) 1 (by decide) (by decide)
  rw [e6406] at b6407
  obtain ⟨w6408, ew6408⟩ : ∃ w : Int32, I (ad g 4) 0 = w := ⟨_, rfl⟩
  have bw6408 := BT_get hI.1 4 0 5 (0) (0) (1000) (by decide) 0 (by decide) (by decide)
  rw [ew6408] at bw6408
  obtain ⟨w6409, ew6409⟩ : ∃ w : Int32, I (ad g 27) 1 = w := ⟨_, rfl⟩
  have bw6409 := BT_get hI.1 27 1 2 (0) (0) (4) (by decide) 1 (by decide) (by decide)
  rw [ew6409] at bw6409
  obtain ⟨w6410, ew6410⟩ : ∃ w : Int32, I (ad g 27) 2 = w := ⟨_, rfl⟩
  have bw6410 := BT_get hI.1 27 2 3 (0) (0) (3) (by decide) 2 (by decide) (by decide)
  rw [ew6410] at bw6410
  refine WP_aload_n dX3_faultOfNumber_0 rfl ?_
  refine WP_getr dX3_faultOfNumber_1 fX3_15 rfl (lyx_is hy 3 3 rfl) (rfx hr 3 2 1 (by decide)) ?_
  refine WQ_getiu dX3_faultOfNumber_4 fX3_118 rfl (lyx_is hy 1 5 rfl) (fun v6411 ev6411 => ?_)
  refine WP_istore (ls' := [(0, _), (1, _), (2, _), (3, _), (4, _), (5, _)]) dX3_faultOfNumber_7 (by decide) rfl ?_
  refine WP_iload dX3_faultOfNumber_9 rfl ?_
  refine WP_iload_n dX3_faultOfNumber_11 rfl ?_
  refine WP_callS1 dX3_faultOfNumber_12 ⟨⟨⟨by decide, by decide⟩, zX3_leastOf⟩, lX3_121, tX3_leastOf⟩ (sx_leastOf hy hr hI pa ) (Nat.le_of_ble_eq_true rfl) ?_
  intro r Ia Ja Ra hq
  obtain ⟨⟨ea, eb, ec⟩, v6412, rfl, av6412, bv6412⟩ := hq
  show WP _ _ _ _ (.int _ :: _) _ _ _ _
  rw [ea, eb, ec]
  clear ea eb ec Ia Ja Ra
  refine WQ_icmp_lt 27 dX3_faultOfNumber_15 rfl (fun c6412 => ?_) (fun c6412 => ?_)
  · refine WQ_iconst (2) (2) dX3_faultOfNumber_27 rfl rfl (fun v6414 hv6414 => ?_)
    obtain ⟨w6415, ew6415⟩ : ∃ w : Int32, I (ad g 4) 1 = w := ⟨_, rfl⟩
    have bw6415 := BT_get hI.1 4 0 5 (0) (0) (1000) (by decide) 1 (by decide) (by decide)
    rw [ew6415] at bw6415
    exact WP_iret dX3_faultOfNumber_28 rfl ⟨⟨hI, rfl, ⟨trivial, rfl, rfl, rfl⟩⟩, _, rfl, by omega, by omega, by (try rw [ew6415]); omega⟩
  · refine WP_iload dX3_faultOfNumber_18 rfl ?_
    refine WP_iload_n dX3_faultOfNumber_20 rfl ?_
    refine WP_callS1 dX3_faultOfNumber_21 ⟨⟨⟨by decide, by decide⟩, zX3_mostOf⟩, lX3_125, tX3_mostOf⟩ (sx_mostOf hy hr hI pa ) (Nat.le_of_ble_eq_true rfl) ?_
    intro r Ia Ja Ra hq
    obtain ⟨⟨ea, eb, ec⟩, v6416, rfl, av6416, bv6416, cv6416⟩ := hq
    show WP _ _ _ _ (.int _ :: _) _ _ _ _
    rw [ea, eb, ec]
    clear ea eb ec Ia Ja Ra
    refine WQ_icmp_le 29 dX3_faultOfNumber_24 rfl (fun c6416 => ?_) (fun c6416 => ?_)
    · refine WP_aload_n dX3_faultOfNumber_29 rfl ?_
      refine WP_getr dX3_faultOfNumber_30 fX3_9 rfl (lyx_is hy 3 3 rfl) (rfx hr 3 3 4 (by decide)) ?_
      refine WP_iload_n dX3_faultOfNumber_33 rfl ?_
      refine WP_iload dX3_faultOfNumber_34 rfl ?_
      refine WQ_iast dX3_faultOfNumber_36 (lyx_is hy 4 13 rfl) (lyx_n hy 4 5 rfl) (by omega) (by omega) (fun I6418 fI6418 => ?_)
      have eI6418 := fI6418
      rw [cl (x := ix) (n := 1) (by omega)] at eI6418
      clear fI6418
      have hI6418 : XI g n L I6418 := by rw [eI6418]; exact (xi_f hy hI (c := 4) (0) (0) (1000) (by decide) (Or.inl (by decide)) (by decide) (by omega) (by omega))
      have e6419 : I6418 (ad g 1) 1 = L := by rw [eI6418, pp_ne _ _ (Or.inl (lyx_ne hy (by decide) (by decide) (by decide)))]; exact e6406
      have e6420 : I6418 (ad g 4) 0 = w6408 := by rw [eI6418, pp_ne _ _ (Or.inr (by decide))]; exact ew6408
      have e6421 : I6418 (ad g 27) 1 = w6409 := by rw [eI6418, pp_ne _ _ (Or.inl (lyx_ne hy (by decide) (by decide) (by decide)))]; exact ew6409
      have e6422 : I6418 (ad g 27) 2 = w6410 := by rw [eI6418, pp_ne _ _ (Or.inl (lyx_ne hy (by decide) (by decide) (by decide)))]; exact ew6410
      have e6423 : I6418 (ad g 1) 4 = v6411 := by rw [eI6418, pp_ne _ _ (Or.inl (lyx_ne hy (by decide) (by decide) (by decide)))]; exact ev6411
      have e6424 : I6418 (ad g 4) 1 = v6411 := by rw [eI6418, pp_self]
      clear eI6418
      refine WP_iload_n dX3_faultOfNumber_37 rfl ?_
      refine WQ_bipush (68) (68) dX3_faultOfNumber_38 rfl rfl (fun v6425 hv6425 => ?_)
      refine WQ_icmp_eq 45 dX3_faultOfNumber_40 rfl (fun c6425 => False.elim (by omega)) (fun c6425 => ?_)
      refine WQ_iconst (0) (0) dX3_faultOfNumber_43 rfl rfl (fun v6427 hv6427 => ?_)
      exact WP_iret dX3_faultOfNumber_44 rfl ⟨⟨hI6418, rfl, ⟨trivial, (by rw [e6420, ew6408] <;> exact (eq32 _ _).mpr (by omega)), (by rw [e6421, ew6409] <;> exact (eq32 _ _).mpr (by omega)), (by rw [e6422, ew6410] <;> exact (eq32 _ _).mpr (by omega))⟩⟩, _, rfl, by omega, by omega, by (try rw [e6424]); omega⟩
    · refine WQ_iconst (2) (2) dX3_faultOfNumber_27 rfl rfl (fun v6428 hv6428 => ?_)
      obtain ⟨w6429, ew6429⟩ : ∃ w : Int32, I (ad g 4) 1 = w := ⟨_, rfl⟩
      have bw6429 := BT_get hI.1 4 0 5 (0) (0) (1000) (by decide) 1 (by decide) (by decide)
      rw [ew6429] at bw6429
      exact WP_iret dX3_faultOfNumber_28 rfl ⟨⟨hI, rfl, ⟨trivial, rfl, rfl, rfl⟩⟩, _, rfl, by omega, by omega, by (try rw [ew6429]); omega⟩
set_option maxHeartbeats 4000000 in
set_option maxRecDepth 100000 in
theorem sx_part_27_2_2 {g : GG} {n : Int} {L : Int32} (hy : LyX g)  {I : pI} {J : pJ} {R : pR} (hr : RfX g R) (hI : XI g n L I) (pa : Int32) (cz : Int32) (ix : Int32) (pa_lo : 71 ≤ pa.toInt) (pa_hi : pa.toInt ≤ 71) (cz_lo : 2 ≤ cz.toInt) (cz_hi : cz.toInt ≤ 2) (ix_lo : 2 ≤ ix.toInt) (ix_hi : ix.toInt ≤ 2) : SP g mX3_faultOfNumber [.ref (ad g 3), .int pa, .int cz, .int ix, .ref (ad g 27)] I J R (fun r I' J' R' => (XI g n L I' ∧ R' = R ∧ True ∧ I' (ad g 4) 0 = I (ad g 4) 0 ∧ I' (ad g 4) 1 = I (ad g 4) 1 ∧ I' (ad g 27) 1 = I (ad g 27) 1 ∧ I' (ad g 27) 2 = I (ad g 27) 2) ∧ ∃ v : Int32, r = some (.int v) ∧ 0 ≤ v.toInt ∧ v.toInt ≤ 5 ∧ (v.toInt = 0 → (I' (ad g 4) 2).toInt ≤ 9)) := by
  refine SP_of ⟨by decide, rfl⟩ (Nat.le_of_ble_eq_true rfl) ?_
  have e6430 : I (ad g 1) 1 = L := hI.2
  have b6431 := BT_get hI.1 1 1 2 (0) (0) (900) (by decide) 1 (by decide) (by decide)
  rw [e6430] at b6431
  obtain ⟨w6432, ew6432⟩ : ∃ w : Int32, I (ad g 4) 0 = w := ⟨_, rfl⟩
  have bw6432 := BT_get hI.1 4 0 5 (0) (0) (1000) (by decide) 0 (by decide) (by decide)
  rw [ew6432] at bw6432
  obtain ⟨w6433, ew6433⟩ : ∃ w : Int32, I (ad g 4) 1 = w := ⟨_, rfl⟩
  have bw6433 := BT_get hI.1 4 0 5 (0) (0) (1000) (by decide) 1 (by decide) (by decide)
  rw [ew6433] at bw6433
  obtain ⟨w6434, ew6434⟩ : ∃ w : Int32, I (ad g 27) 1 = w := ⟨_, rfl⟩
  have bw6434 := BT_get hI.1 27 1 2 (0) (0) (4) (by decide) 1 (by decide) (by decide)
  rw [ew6434] at bw6434
  obtain ⟨w6435, ew6435⟩ : ∃ w : Int32, I (ad g 27) 2 = w := ⟨_, rfl⟩
  have bw6435 := BT_get hI.1 27 2 3 (0) (0) (3) (by decide) 2 (by decide) (by decide)
  rw [ew6435] at bw6435
  refine WP_aload_n dX3_faultOfNumber_0 rfl ?_
  refine WP_getr dX3_faultOfNumber_1 fX3_15 rfl (lyx_is hy 3 3 rfl) (rfx hr 3 2 1 (by decide)) ?_
  refine WQ_getiu dX3_faultOfNumber_4 fX3_118 rfl (lyx_is hy 1 5 rfl) (fun v6436 ev6436 => ?_)
  refine WP_istore (ls' := [(0, _), (1, _), (2, _), (3, _), (4, _), (5, _)]) dX3_faultOfNumber_7 (by decide) rfl ?_
  refine WP_iload dX3_faultOfNumber_9 rfl ?_
  refine WP_iload_n dX3_faultOfNumber_11 rfl ?_
  refine WP_callS1 dX3_faultOfNumber_12 ⟨⟨⟨by decide, by decide⟩, zX3_leastOf⟩, lX3_121, tX3_leastOf⟩ (sx_leastOf hy hr hI pa ) (Nat.le_of_ble_eq_true rfl) ?_
  intro r Ia Ja Ra hq
  obtain ⟨⟨ea, eb, ec⟩, v6437, rfl, av6437, bv6437⟩ := hq
  show WP _ _ _ _ (.int _ :: _) _ _ _ _
  rw [ea, eb, ec]
  clear ea eb ec Ia Ja Ra
  refine WQ_icmp_lt 27 dX3_faultOfNumber_15 rfl (fun c6437 => ?_) (fun c6437 => ?_)
  · refine WQ_iconst (2) (2) dX3_faultOfNumber_27 rfl rfl (fun v6439 hv6439 => ?_)
    obtain ⟨w6440, ew6440⟩ : ∃ w : Int32, I (ad g 4) 2 = w := ⟨_, rfl⟩
    have bw6440 := BT_get hI.1 4 0 5 (0) (0) (1000) (by decide) 2 (by decide) (by decide)
    rw [ew6440] at bw6440
    exact WP_iret dX3_faultOfNumber_28 rfl ⟨⟨hI, rfl, ⟨trivial, rfl, rfl, rfl, rfl⟩⟩, _, rfl, by omega, by omega, by (try rw [ew6440]); omega⟩
  · refine WP_iload dX3_faultOfNumber_18 rfl ?_
    refine WP_iload_n dX3_faultOfNumber_20 rfl ?_
    refine WP_callS1 dX3_faultOfNumber_21 ⟨⟨⟨by decide, by decide⟩, zX3_mostOf⟩, lX3_125, tX3_mostOf⟩ (sx_mostOf hy hr hI pa ) (Nat.le_of_ble_eq_true rfl) ?_
    intro r Ia Ja Ra hq
    obtain ⟨⟨ea, eb, ec⟩, v6441, rfl, av6441, bv6441, cv6441⟩ := hq
    show WP _ _ _ _ (.int _ :: _) _ _ _ _
    rw [ea, eb, ec]
    clear ea eb ec Ia Ja Ra
    refine WQ_icmp_le 29 dX3_faultOfNumber_24 rfl (fun c6441 => ?_) (fun c6441 => ?_)
    · refine WP_aload_n dX3_faultOfNumber_29 rfl ?_
      refine WP_getr dX3_faultOfNumber_30 fX3_9 rfl (lyx_is hy 3 3 rfl) (rfx hr 3 3 4 (by decide)) ?_
      refine WP_iload_n dX3_faultOfNumber_33 rfl ?_
      refine WP_iload dX3_faultOfNumber_34 rfl ?_
      refine WQ_iast dX3_faultOfNumber_36 (lyx_is hy 4 13 rfl) (lyx_n hy 4 5 rfl) (by omega) (by omega) (fun I6443 fI6443 => ?_)
      have eI6443 := fI6443
      rw [cl (x := ix) (n := 2) (by omega)] at eI6443
      clear fI6443
      have hI6443 : XI g n L I6443 := by rw [eI6443]; exact (xi_f hy hI (c := 4) (0) (0) (1000) (by decide) (Or.inl (by decide)) (by decide) (by omega) (by omega))
      have e6444 : I6443 (ad g 1) 1 = L := by rw [eI6443, pp_ne _ _ (Or.inl (lyx_ne hy (by decide) (by decide) (by decide)))]; exact e6430
      have e6445 : I6443 (ad g 4) 0 = w6432 := by rw [eI6443, pp_ne _ _ (Or.inr (by decide))]; exact ew6432
      have e6446 : I6443 (ad g 4) 1 = w6433 := by rw [eI6443, pp_ne _ _ (Or.inr (by decide))]; exact ew6433
      have e6447 : I6443 (ad g 27) 1 = w6434 := by rw [eI6443, pp_ne _ _ (Or.inl (lyx_ne hy (by decide) (by decide) (by decide)))]; exact ew6434
      have e6448 : I6443 (ad g 27) 2 = w6435 := by rw [eI6443, pp_ne _ _ (Or.inl (lyx_ne hy (by decide) (by decide) (by decide)))]; exact ew6435
      have e6449 : I6443 (ad g 1) 4 = v6436 := by rw [eI6443, pp_ne _ _ (Or.inl (lyx_ne hy (by decide) (by decide) (by decide)))]; exact ev6436
      have e6450 : I6443 (ad g 4) 2 = v6436 := by rw [eI6443, pp_self]
      clear eI6443
      refine WP_iload_n dX3_faultOfNumber_37 rfl ?_
      refine WQ_bipush (68) (68) dX3_faultOfNumber_38 rfl rfl (fun v6451 hv6451 => ?_)
      refine WQ_icmp_eq 45 dX3_faultOfNumber_40 rfl (fun c6451 => False.elim (by omega)) (fun c6451 => ?_)
      refine WQ_iconst (0) (0) dX3_faultOfNumber_43 rfl rfl (fun v6453 hv6453 => ?_)
      exact WP_iret dX3_faultOfNumber_44 rfl ⟨⟨hI6443, rfl, ⟨trivial, (by rw [e6445, ew6432] <;> exact (eq32 _ _).mpr (by omega)), (by rw [e6446, ew6433] <;> exact (eq32 _ _).mpr (by omega)), (by rw [e6447, ew6434] <;> exact (eq32 _ _).mpr (by omega)), (by rw [e6448, ew6435] <;> exact (eq32 _ _).mpr (by omega))⟩⟩, _, rfl, by omega, by omega, by (try rw [e6450]); omega⟩
    · refine WQ_iconst (2) (2) dX3_faultOfNumber_27 rfl rfl (fun v6454 hv6454 => ?_)
      obtain ⟨w6455, ew6455⟩ : ∃ w : Int32, I (ad g 4) 2 = w := ⟨_, rfl⟩
      have bw6455 := BT_get hI.1 4 0 5 (0) (0) (1000) (by decide) 2 (by decide) (by decide)
      rw [ew6455] at bw6455
      exact WP_iret dX3_faultOfNumber_28 rfl ⟨⟨hI, rfl, ⟨trivial, rfl, rfl, rfl, rfl⟩⟩, _, rfl, by omega, by omega, by (try rw [ew6455]); omega⟩
set_option maxHeartbeats 4000000 in
set_option maxRecDepth 100000 in
theorem sx_part_27_3_0 {g : GG} {n : Int} {L : Int32} (hy : LyX g)  {I : pI} {J : pJ} {R : pR} (hr : RfX g R) (hI : XI g n L I) (pa : Int32) (cz : Int32) (ix : Int32) (pa_lo : 115 ≤ pa.toInt) (pa_hi : pa.toInt ≤ 115) (cz_lo : 3 ≤ cz.toInt) (cz_hi : cz.toInt ≤ 3) (ix_lo : 0 ≤ ix.toInt) (ix_hi : ix.toInt ≤ 0) : SP g mX3_faultOfName [.ref (ad g 3), .int pa, .int cz, .int ix, .ref (ad g 27)] I J R (fun r I' J' R' => (XI g n L I' ∧ R' = R ∧ True ∧ I' (ad g 27) 1 = I (ad g 27) 1 ∧ I' (ad g 27) 2 = I (ad g 27) 2) ∧ ∃ v : Int32, r = some (.int v) ∧ 0 ≤ v.toInt ∧ v.toInt ≤ 5 ∧ (v.toInt = 0 → (I' (ad g 4) 0).toInt ≤ 3)) := by
  refine SP_of ⟨by decide, rfl⟩ (Nat.le_of_ble_eq_true rfl) ?_
  have e6456 : I (ad g 1) 1 = L := hI.2
  have b6457 := BT_get hI.1 1 1 2 (0) (0) (900) (by decide) 1 (by decide) (by decide)
  rw [e6456] at b6457
  obtain ⟨w6458, ew6458⟩ : ∃ w : Int32, I (ad g 27) 1 = w := ⟨_, rfl⟩
  have bw6458 := BT_get hI.1 27 1 2 (0) (0) (4) (by decide) 1 (by decide) (by decide)
  rw [ew6458] at bw6458
  obtain ⟨w6459, ew6459⟩ : ∃ w : Int32, I (ad g 27) 2 = w := ⟨_, rfl⟩
  have bw6459 := BT_get hI.1 27 2 3 (0) (0) (3) (by decide) 2 (by decide) (by decide)
  rw [ew6459] at bw6459
  refine WP_iload_n dX3_faultOfName_0 rfl ?_
  refine WQ_bipush (115) (115) dX3_faultOfName_1 rfl rfl (fun v6460 hv6460 => ?_)
  refine WQ_icmp_eq 12 dX3_faultOfName_3 rfl (fun c6460 => ?_) (fun c6460 => False.elim (by omega))
  refine WQ_iconst (1) (1) dX3_faultOfName_12 rfl rfl (fun v6462 hv6462 => ?_)
  refine WP_goto 17 dX3_faultOfName_13 rfl ?_
  refine WP_istore (ls' := [(0, _), (1, _), (2, _), (3, _), (4, _), (5, _)]) dX3_faultOfName_17 (by decide) rfl ?_
  refine WP_iload dX3_faultOfName_19 rfl ?_
  refine WQ_if_eq 39 dX3_faultOfName_21 rfl (fun c6462 => False.elim (by omega)) (fun c6462 => ?_)
  refine WP_aload dX3_faultOfName_24 rfl ?_
  refine WP_aload_n dX3_faultOfName_26 rfl ?_
  refine WP_getr dX3_faultOfName_27 fX3_15 rfl (lyx_is hy 3 3 rfl) (rfx hr 3 2 1 (by decide)) ?_
  refine WQ_getl dX3_faultOfName_30 fX3_80 rfl (lyx_is hy 1 5 rfl) (fun l6464 el6464 => ?_)
  refine WP_callV1 (k := 7) dX3_faultOfName_33 ⟨⟨⟨by decide, by decide⟩, zX7_sortNamed⟩, lX3_103, by decide, rfl, vX7_sortNamed.1, vX7_sortNamed.2⟩ (lyx_is hy 27 7 rfl) (sx_sortNamed_27 hy hr hI l6464 ) (Nat.le_of_ble_eq_true rfl) ?_
  intro r Ia Ja Ra hq
  obtain ⟨⟨ea, eb, ec⟩, v6465, rfl, av6465, bv6465⟩ := hq
  show WP _ _ _ _ (.int _ :: _) _ _ _ _
  rw [ea, eb, ec]
  clear ea eb ec Ia Ja Ra
  refine WP_goto 51 dX3_faultOfName_36 rfl ?_
  refine WP_istore (ls' := [(0, _), (1, _), (2, _), (3, _), (4, _), (5, _), (6, _)]) dX3_faultOfName_51 (by decide) rfl ?_
  refine WP_iload_n dX3_faultOfName_53 rfl ?_
  refine WQ_bipush (110) (110) dX3_faultOfName_54 rfl rfl (fun v6466 hv6466 => ?_)
  refine WQ_icmp_eq 65 dX3_faultOfName_56 rfl (fun c6466 => False.elim (by omega)) (fun c6466 => ?_)
  refine WP_iload_n dX3_faultOfName_59 rfl ?_
  refine WQ_bipush (109) (109) dX3_faultOfName_60 rfl rfl (fun v6468 hv6468 => ?_)
  refine WQ_icmp_ne 98 dX3_faultOfName_62 rfl (fun c6468 => ?_) (fun c6468 => False.elim (by omega))
  refine WP_iload dX3_faultOfName_98 rfl ?_
  refine WQ_iconst (-1) (-1) dX3_faultOfName_100 rfl rfl (fun v6470 hv6470 => ?_)
  refine WQ_icmp_ne 106 dX3_faultOfName_101 rfl (fun c6470 => ?_) (fun c6470 => ?_)
  · refine WP_aload_n dX3_faultOfName_106 rfl ?_
    refine WP_getr dX3_faultOfName_107 fX3_9 rfl (lyx_is hy 3 3 rfl) (rfx hr 3 3 4 (by decide)) ?_
    refine WP_iload_n dX3_faultOfName_110 rfl ?_
    refine WP_iload dX3_faultOfName_111 rfl ?_
    refine WQ_iast dX3_faultOfName_113 (lyx_is hy 4 13 rfl) (lyx_n hy 4 5 rfl) (by omega) (by omega) (fun I6472 fI6472 => ?_)
    have eI6472 := fI6472
    rw [cl (x := ix) (n := 0) (by omega)] at eI6472
    clear fI6472
    have hI6472 : XI g n L I6472 := by rw [eI6472]; exact (xi_f hy hI (c := 4) (0) (0) (1000) (by decide) (Or.inl (by decide)) (by decide) (by omega) (by omega))
    have e6473 : I6472 (ad g 1) 1 = L := by rw [eI6472, pp_ne _ _ (Or.inl (lyx_ne hy (by decide) (by decide) (by decide)))]; exact e6456
    have e6474 : I6472 (ad g 27) 1 = w6458 := by rw [eI6472, pp_ne _ _ (Or.inl (lyx_ne hy (by decide) (by decide) (by decide)))]; exact ew6458
    have e6475 : I6472 (ad g 27) 2 = w6459 := by rw [eI6472, pp_ne _ _ (Or.inl (lyx_ne hy (by decide) (by decide) (by decide)))]; exact ew6459
    have e6476 : I6472 (ad g 4) 0 = v6465 := by rw [eI6472, pp_self]
    clear eI6472
    refine WP_iload_n dX3_faultOfName_114 rfl ?_
    refine WQ_bipush (7) (7) dX3_faultOfName_115 rfl rfl (fun v6477 hv6477 => ?_)
    refine WQ_icmp_ne 137 dX3_faultOfName_117 rfl (fun c6477 => ?_) (fun c6477 => False.elim (by omega))
    refine WQ_iconst (0) (0) dX3_faultOfName_137 rfl rfl (fun v6479 hv6479 => ?_)
    exact WP_iret dX3_faultOfName_138 rfl ⟨⟨hI6472, rfl, ⟨trivial, (by rw [e6474, ew6458] <;> exact (eq32 _ _).mpr (by omega)), (by rw [e6475, ew6459] <;> exact (eq32 _ _).mpr (by omega))⟩⟩, _, rfl, by omega, by omega, by (try rw [e6476]); omega⟩
  · refine WQ_iconst (5) (5) dX3_faultOfName_104 rfl rfl (fun v6480 hv6480 => ?_)
    obtain ⟨w6481, ew6481⟩ : ∃ w : Int32, I (ad g 4) 0 = w := ⟨_, rfl⟩
    have bw6481 := BT_get hI.1 4 0 5 (0) (0) (1000) (by decide) 0 (by decide) (by decide)
    rw [ew6481] at bw6481
    exact WP_iret dX3_faultOfName_105 rfl ⟨⟨hI, rfl, ⟨trivial, rfl, rfl⟩⟩, _, rfl, by omega, by omega, by (try rw [ew6481]); omega⟩
set_option maxHeartbeats 4000000 in
set_option maxRecDepth 100000 in
theorem sx_part_27_3_1 {g : GG} {n : Int} {L : Int32} (hy : LyX g)  {I : pI} {J : pJ} {R : pR} (hr : RfX g R) (hI : XI g n L I) (pa : Int32) (cz : Int32) (ix : Int32) (pa_lo : 68 ≤ pa.toInt) (pa_hi : pa.toInt ≤ 68) (cz_lo : 3 ≤ cz.toInt) (cz_hi : cz.toInt ≤ 3) (ix_lo : 1 ≤ ix.toInt) (ix_hi : ix.toInt ≤ 1) (hb : (I (ad g 4) 0).toInt ≤ 3) : SP g mX3_faultOfNumber [.ref (ad g 3), .int pa, .int cz, .int ix, .ref (ad g 27)] I J R (fun r I' J' R' => (XI g n L I' ∧ R' = R ∧ True ∧ I' (ad g 4) 0 = I (ad g 4) 0 ∧ I' (ad g 27) 1 = I (ad g 27) 1 ∧ I' (ad g 27) 2 = I (ad g 27) 2) ∧ ∃ v : Int32, r = some (.int v) ∧ 0 ≤ v.toInt ∧ v.toInt ≤ 5 ∧ (v.toInt = 0 → (I' (ad g 4) 1).toInt ≤ 6)) := by
  refine SP_of ⟨by decide, rfl⟩ (Nat.le_of_ble_eq_true rfl) ?_
  have e6482 : I (ad g 1) 1 = L := hI.2
  have b6483 := BT_get hI.1 1 1 2 (0) (0) (900) (by decide) 1 (by decide) (by decide)
  rw [e6482] at b6483
  obtain ⟨w6484, ew6484⟩ : ∃ w : Int32, I (ad g 4) 0 = w := ⟨_, rfl⟩
  have bw6484 := BT_get hI.1 4 0 5 (0) (0) (1000) (by decide) 0 (by decide) (by decide)
  rw [ew6484] at bw6484
  obtain ⟨w6485, ew6485⟩ : ∃ w : Int32, I (ad g 27) 1 = w := ⟨_, rfl⟩
  have bw6485 := BT_get hI.1 27 1 2 (0) (0) (4) (by decide) 1 (by decide) (by decide)
  rw [ew6485] at bw6485
  obtain ⟨w6486, ew6486⟩ : ∃ w : Int32, I (ad g 27) 2 = w := ⟨_, rfl⟩
  have bw6486 := BT_get hI.1 27 2 3 (0) (0) (3) (by decide) 2 (by decide) (by decide)
  rw [ew6486] at bw6486
  rw [ew6484] at hb
  refine WP_aload_n dX3_faultOfNumber_0 rfl ?_
  refine WP_getr dX3_faultOfNumber_1 fX3_15 rfl (lyx_is hy 3 3 rfl) (rfx hr 3 2 1 (by decide)) ?_
  refine WQ_getiu dX3_faultOfNumber_4 fX3_118 rfl (lyx_is hy 1 5 rfl) (fun v6487 ev6487 => ?_)
  refine WP_istore (ls' := [(0, _), (1, _), (2, _), (3, _), (4, _), (5, _)]) dX3_faultOfNumber_7 (by decide) rfl ?_
  refine WP_iload dX3_faultOfNumber_9 rfl ?_
  refine WP_iload_n dX3_faultOfNumber_11 rfl ?_
  refine WP_callS1 dX3_faultOfNumber_12 ⟨⟨⟨by decide, by decide⟩, zX3_leastOf⟩, lX3_121, tX3_leastOf⟩ (sx_leastOf hy hr hI pa ) (Nat.le_of_ble_eq_true rfl) ?_
  intro r Ia Ja Ra hq
  obtain ⟨⟨ea, eb, ec⟩, v6488, rfl, av6488, bv6488⟩ := hq
  show WP _ _ _ _ (.int _ :: _) _ _ _ _
  rw [ea, eb, ec]
  clear ea eb ec Ia Ja Ra
  refine WQ_icmp_lt 27 dX3_faultOfNumber_15 rfl (fun c6488 => ?_) (fun c6488 => ?_)
  · refine WQ_iconst (2) (2) dX3_faultOfNumber_27 rfl rfl (fun v6490 hv6490 => ?_)
    obtain ⟨w6491, ew6491⟩ : ∃ w : Int32, I (ad g 4) 1 = w := ⟨_, rfl⟩
    have bw6491 := BT_get hI.1 4 0 5 (0) (0) (1000) (by decide) 1 (by decide) (by decide)
    rw [ew6491] at bw6491
    exact WP_iret dX3_faultOfNumber_28 rfl ⟨⟨hI, rfl, ⟨trivial, rfl, rfl, rfl⟩⟩, _, rfl, by omega, by omega, by (try rw [ew6491]); omega⟩
  · refine WP_iload dX3_faultOfNumber_18 rfl ?_
    refine WP_iload_n dX3_faultOfNumber_20 rfl ?_
    refine WP_callS1 dX3_faultOfNumber_21 ⟨⟨⟨by decide, by decide⟩, zX3_mostOf⟩, lX3_125, tX3_mostOf⟩ (sx_mostOf hy hr hI pa ) (Nat.le_of_ble_eq_true rfl) ?_
    intro r Ia Ja Ra hq
    obtain ⟨⟨ea, eb, ec⟩, v6492, rfl, av6492, bv6492, cv6492⟩ := hq
    show WP _ _ _ _ (.int _ :: _) _ _ _ _
    rw [ea, eb, ec]
    clear ea eb ec Ia Ja Ra
    refine WQ_icmp_le 29 dX3_faultOfNumber_24 rfl (fun c6492 => ?_) (fun c6492 => ?_)
    · refine WP_aload_n dX3_faultOfNumber_29 rfl ?_
      refine WP_getr dX3_faultOfNumber_30 fX3_9 rfl (lyx_is hy 3 3 rfl) (rfx hr 3 3 4 (by decide)) ?_
      refine WP_iload_n dX3_faultOfNumber_33 rfl ?_
      refine WP_iload dX3_faultOfNumber_34 rfl ?_
      refine WQ_iast dX3_faultOfNumber_36 (lyx_is hy 4 13 rfl) (lyx_n hy 4 5 rfl) (by omega) (by omega) (fun I6494 fI6494 => ?_)
      have eI6494 := fI6494
      rw [cl (x := ix) (n := 1) (by omega)] at eI6494
      clear fI6494
      have hI6494 : XI g n L I6494 := by rw [eI6494]; exact (xi_f hy hI (c := 4) (0) (0) (1000) (by decide) (Or.inl (by decide)) (by decide) (by omega) (by omega))
      have e6495 : I6494 (ad g 1) 1 = L := by rw [eI6494, pp_ne _ _ (Or.inl (lyx_ne hy (by decide) (by decide) (by decide)))]; exact e6482
      have e6496 : I6494 (ad g 4) 0 = w6484 := by rw [eI6494, pp_ne _ _ (Or.inr (by decide))]; exact ew6484
      have e6497 : I6494 (ad g 27) 1 = w6485 := by rw [eI6494, pp_ne _ _ (Or.inl (lyx_ne hy (by decide) (by decide) (by decide)))]; exact ew6485
      have e6498 : I6494 (ad g 27) 2 = w6486 := by rw [eI6494, pp_ne _ _ (Or.inl (lyx_ne hy (by decide) (by decide) (by decide)))]; exact ew6486
      have e6499 : I6494 (ad g 1) 4 = v6487 := by rw [eI6494, pp_ne _ _ (Or.inl (lyx_ne hy (by decide) (by decide) (by decide)))]; exact ev6487
      have e6500 : I6494 (ad g 4) 1 = v6487 := by rw [eI6494, pp_self]
      clear eI6494
      refine WP_iload_n dX3_faultOfNumber_37 rfl ?_
      refine WQ_bipush (68) (68) dX3_faultOfNumber_38 rfl rfl (fun v6501 hv6501 => ?_)
      refine WQ_icmp_eq 45 dX3_faultOfNumber_40 rfl (fun c6501 => ?_) (fun c6501 => False.elim (by omega))
      refine WP_aload dX3_faultOfNumber_45 rfl ?_
      refine WP_iload_n dX3_faultOfNumber_47 rfl ?_
      refine WP_iload_n dX3_faultOfNumber_48 rfl ?_
      refine WQ_if_ne 56 dX3_faultOfNumber_49 rfl (fun c6502 => ?_) (fun c6502 => False.elim (by omega))
      refine WP_aload_n dX3_faultOfNumber_56 rfl ?_
      refine WP_getr dX3_faultOfNumber_57 fX3_9 rfl (lyx_is hy 3 3 rfl) (rfx hr 3 3 4 (by decide)) ?_
      refine WQ_iconst (0) (0) dX3_faultOfNumber_60 rfl rfl (fun v6504 hv6504 => ?_)
      refine WQ_ialdm (z := 0) dX3_faultOfNumber_61 (lyx_is hy 4 13 rfl) (lyx_n hy 4 5 rfl) hv6504 (by decide) e6496 ?_
      refine WP_iload dX3_faultOfNumber_62 rfl ?_
      refine WP_callV3 (k := 7) dX3_faultOfNumber_64 ⟨⟨⟨by decide, by decide⟩, zX7_isTold⟩, lX3_114, by decide, rfl, vX7_isTold.1, vX7_isTold.2⟩ (lyx_is hy 27 7 rfl) (sx_isTold_27 hy hr hI6494 cz w6484 v6487 (by omega) (by omega) (by omega) (by omega) ) (Nat.le_of_ble_eq_true rfl) ?_
      intro r Ia Ja Ra hq
      obtain ⟨⟨ea, eb, ec⟩, v6506, rfl, av6506, bv6506⟩ := hq
      show WP _ _ _ _ (.int _ :: _) _ _ _ _
      rw [ea, eb, ec]
      clear ea eb ec Ia Ja Ra
      refine WQ_if_eq 74 dX3_faultOfNumber_67 rfl (fun c6506 => ?_) (fun c6506 => ?_)
      · refine WQ_iconst (0) (0) dX3_faultOfNumber_74 rfl rfl (fun v6508 hv6508 => ?_)
        exact WP_iret dX3_faultOfNumber_75 rfl ⟨⟨hI6494, rfl, ⟨trivial, (by rw [e6496, ew6484] <;> exact (eq32 _ _).mpr (by omega)), (by rw [e6497, ew6485] <;> exact (eq32 _ _).mpr (by omega)), (by rw [e6498, ew6486] <;> exact (eq32 _ _).mpr (by omega))⟩⟩, _, rfl, by omega, by omega, by (try rw [e6500]); omega⟩
      · refine WQ_iconst (3) (3) dX3_faultOfNumber_70 rfl rfl (fun v6509 hv6509 => ?_)
        refine WP_goto 75 dX3_faultOfNumber_71 rfl ?_
        exact WP_iret dX3_faultOfNumber_75 rfl ⟨⟨hI6494, rfl, ⟨trivial, (by rw [e6496, ew6484] <;> exact (eq32 _ _).mpr (by omega)), (by rw [e6497, ew6485] <;> exact (eq32 _ _).mpr (by omega)), (by rw [e6498, ew6486] <;> exact (eq32 _ _).mpr (by omega))⟩⟩, _, rfl, by omega, by omega, by (try rw [e6500]); omega⟩
    · refine WQ_iconst (2) (2) dX3_faultOfNumber_27 rfl rfl (fun v6510 hv6510 => ?_)
      obtain ⟨w6511, ew6511⟩ : ∃ w : Int32, I (ad g 4) 1 = w := ⟨_, rfl⟩
      have bw6511 := BT_get hI.1 4 0 5 (0) (0) (1000) (by decide) 1 (by decide) (by decide)
      rw [ew6511] at bw6511
      exact WP_iret dX3_faultOfNumber_28 rfl ⟨⟨hI, rfl, ⟨trivial, rfl, rfl, rfl⟩⟩, _, rfl, by omega, by omega, by (try rw [ew6511]); omega⟩
set_option maxHeartbeats 4000000 in
set_option maxRecDepth 100000 in
theorem sx_part_27_3_2 {g : GG} {n : Int} {L : Int32} (hy : LyX g)  {I : pI} {J : pJ} {R : pR} (hr : RfX g R) (hI : XI g n L I) (pa : Int32) (cz : Int32) (ix : Int32) (pa_lo : 69 ≤ pa.toInt) (pa_hi : pa.toInt ≤ 69) (cz_lo : 3 ≤ cz.toInt) (cz_hi : cz.toInt ≤ 3) (ix_lo : 2 ≤ ix.toInt) (ix_hi : ix.toInt ≤ 2) : SP g mX3_faultOfNumber [.ref (ad g 3), .int pa, .int cz, .int ix, .ref (ad g 27)] I J R (fun r I' J' R' => (XI g n L I' ∧ R' = R ∧ True ∧ I' (ad g 4) 0 = I (ad g 4) 0 ∧ I' (ad g 4) 1 = I (ad g 4) 1 ∧ I' (ad g 27) 1 = I (ad g 27) 1 ∧ I' (ad g 27) 2 = I (ad g 27) 2) ∧ ∃ v : Int32, r = some (.int v) ∧ 0 ≤ v.toInt ∧ v.toInt ≤ 5 ∧ (v.toInt = 0 → (I' (ad g 4) 2).toInt ≤ 20)) := by
  refine SP_of ⟨by decide, rfl⟩ (Nat.le_of_ble_eq_true rfl) ?_
  have e6512 : I (ad g 1) 1 = L := hI.2
  have b6513 := BT_get hI.1 1 1 2 (0) (0) (900) (by decide) 1 (by decide) (by decide)
  rw [e6512] at b6513
  obtain ⟨w6514, ew6514⟩ : ∃ w : Int32, I (ad g 4) 0 = w := ⟨_, rfl⟩
  have bw6514 := BT_get hI.1 4 0 5 (0) (0) (1000) (by decide) 0 (by decide) (by decide)
  rw [ew6514] at bw6514
  obtain ⟨w6515, ew6515⟩ : ∃ w : Int32, I (ad g 4) 1 = w := ⟨_, rfl⟩
  have bw6515 := BT_get hI.1 4 0 5 (0) (0) (1000) (by decide) 1 (by decide) (by decide)
  rw [ew6515] at bw6515
  obtain ⟨w6516, ew6516⟩ : ∃ w : Int32, I (ad g 27) 1 = w := ⟨_, rfl⟩
  have bw6516 := BT_get hI.1 27 1 2 (0) (0) (4) (by decide) 1 (by decide) (by decide)
  rw [ew6516] at bw6516
  obtain ⟨w6517, ew6517⟩ : ∃ w : Int32, I (ad g 27) 2 = w := ⟨_, rfl⟩
  have bw6517 := BT_get hI.1 27 2 3 (0) (0) (3) (by decide) 2 (by decide) (by decide)
  rw [ew6517] at bw6517
  refine WP_aload_n dX3_faultOfNumber_0 rfl ?_
  refine WP_getr dX3_faultOfNumber_1 fX3_15 rfl (lyx_is hy 3 3 rfl) (rfx hr 3 2 1 (by decide)) ?_
  refine WQ_getiu dX3_faultOfNumber_4 fX3_118 rfl (lyx_is hy 1 5 rfl) (fun v6518 ev6518 => ?_)
  refine WP_istore (ls' := [(0, _), (1, _), (2, _), (3, _), (4, _), (5, _)]) dX3_faultOfNumber_7 (by decide) rfl ?_
  refine WP_iload dX3_faultOfNumber_9 rfl ?_
  refine WP_iload_n dX3_faultOfNumber_11 rfl ?_
  refine WP_callS1 dX3_faultOfNumber_12 ⟨⟨⟨by decide, by decide⟩, zX3_leastOf⟩, lX3_121, tX3_leastOf⟩ (sx_leastOf hy hr hI pa ) (Nat.le_of_ble_eq_true rfl) ?_
  intro r Ia Ja Ra hq
  obtain ⟨⟨ea, eb, ec⟩, v6519, rfl, av6519, bv6519⟩ := hq
  show WP _ _ _ _ (.int _ :: _) _ _ _ _
  rw [ea, eb, ec]
  clear ea eb ec Ia Ja Ra
  refine WQ_icmp_lt 27 dX3_faultOfNumber_15 rfl (fun c6519 => ?_) (fun c6519 => ?_)
  · refine WQ_iconst (2) (2) dX3_faultOfNumber_27 rfl rfl (fun v6521 hv6521 => ?_)
    obtain ⟨w6522, ew6522⟩ : ∃ w : Int32, I (ad g 4) 2 = w := ⟨_, rfl⟩
    have bw6522 := BT_get hI.1 4 0 5 (0) (0) (1000) (by decide) 2 (by decide) (by decide)
    rw [ew6522] at bw6522
    exact WP_iret dX3_faultOfNumber_28 rfl ⟨⟨hI, rfl, ⟨trivial, rfl, rfl, rfl, rfl⟩⟩, _, rfl, by omega, by omega, by (try rw [ew6522]); omega⟩
  · refine WP_iload dX3_faultOfNumber_18 rfl ?_
    refine WP_iload_n dX3_faultOfNumber_20 rfl ?_
    refine WP_callS1 dX3_faultOfNumber_21 ⟨⟨⟨by decide, by decide⟩, zX3_mostOf⟩, lX3_125, tX3_mostOf⟩ (sx_mostOf hy hr hI pa ) (Nat.le_of_ble_eq_true rfl) ?_
    intro r Ia Ja Ra hq
    obtain ⟨⟨ea, eb, ec⟩, v6523, rfl, av6523, bv6523, cv6523⟩ := hq
    show WP _ _ _ _ (.int _ :: _) _ _ _ _
    rw [ea, eb, ec]
    clear ea eb ec Ia Ja Ra
    refine WQ_icmp_le 29 dX3_faultOfNumber_24 rfl (fun c6523 => ?_) (fun c6523 => ?_)
    · refine WP_aload_n dX3_faultOfNumber_29 rfl ?_
      refine WP_getr dX3_faultOfNumber_30 fX3_9 rfl (lyx_is hy 3 3 rfl) (rfx hr 3 3 4 (by decide)) ?_
      refine WP_iload_n dX3_faultOfNumber_33 rfl ?_
      refine WP_iload dX3_faultOfNumber_34 rfl ?_
      refine WQ_iast dX3_faultOfNumber_36 (lyx_is hy 4 13 rfl) (lyx_n hy 4 5 rfl) (by omega) (by omega) (fun I6525 fI6525 => ?_)
      have eI6525 := fI6525
      rw [cl (x := ix) (n := 2) (by omega)] at eI6525
      clear fI6525
      have hI6525 : XI g n L I6525 := by rw [eI6525]; exact (xi_f hy hI (c := 4) (0) (0) (1000) (by decide) (Or.inl (by decide)) (by decide) (by omega) (by omega))
      have e6526 : I6525 (ad g 1) 1 = L := by rw [eI6525, pp_ne _ _ (Or.inl (lyx_ne hy (by decide) (by decide) (by decide)))]; exact e6512
      have e6527 : I6525 (ad g 4) 0 = w6514 := by rw [eI6525, pp_ne _ _ (Or.inr (by decide))]; exact ew6514
      have e6528 : I6525 (ad g 4) 1 = w6515 := by rw [eI6525, pp_ne _ _ (Or.inr (by decide))]; exact ew6515
      have e6529 : I6525 (ad g 27) 1 = w6516 := by rw [eI6525, pp_ne _ _ (Or.inl (lyx_ne hy (by decide) (by decide) (by decide)))]; exact ew6516
      have e6530 : I6525 (ad g 27) 2 = w6517 := by rw [eI6525, pp_ne _ _ (Or.inl (lyx_ne hy (by decide) (by decide) (by decide)))]; exact ew6517
      have e6531 : I6525 (ad g 1) 4 = v6518 := by rw [eI6525, pp_ne _ _ (Or.inl (lyx_ne hy (by decide) (by decide) (by decide)))]; exact ev6518
      have e6532 : I6525 (ad g 4) 2 = v6518 := by rw [eI6525, pp_self]
      clear eI6525
      refine WP_iload_n dX3_faultOfNumber_37 rfl ?_
      refine WQ_bipush (68) (68) dX3_faultOfNumber_38 rfl rfl (fun v6533 hv6533 => ?_)
      refine WQ_icmp_eq 45 dX3_faultOfNumber_40 rfl (fun c6533 => False.elim (by omega)) (fun c6533 => ?_)
      refine WQ_iconst (0) (0) dX3_faultOfNumber_43 rfl rfl (fun v6535 hv6535 => ?_)
      exact WP_iret dX3_faultOfNumber_44 rfl ⟨⟨hI6525, rfl, ⟨trivial, (by rw [e6527, ew6514] <;> exact (eq32 _ _).mpr (by omega)), (by rw [e6528, ew6515] <;> exact (eq32 _ _).mpr (by omega)), (by rw [e6529, ew6516] <;> exact (eq32 _ _).mpr (by omega)), (by rw [e6530, ew6517] <;> exact (eq32 _ _).mpr (by omega))⟩⟩, _, rfl, by omega, by omega, by (try rw [e6532]); omega⟩
    · refine WQ_iconst (2) (2) dX3_faultOfNumber_27 rfl rfl (fun v6536 hv6536 => ?_)
      obtain ⟨w6537, ew6537⟩ : ∃ w : Int32, I (ad g 4) 2 = w := ⟨_, rfl⟩
      have bw6537 := BT_get hI.1 4 0 5 (0) (0) (1000) (by decide) 2 (by decide) (by decide)
      rw [ew6537] at bw6537
      exact WP_iret dX3_faultOfNumber_28 rfl ⟨⟨hI, rfl, ⟨trivial, rfl, rfl, rfl, rfl⟩⟩, _, rfl, by omega, by omega, by (try rw [ew6537]); omega⟩
set_option maxHeartbeats 4000000 in
set_option maxRecDepth 100000 in
theorem sx_part_27_4_0 {g : GG} {n : Int} {L : Int32} (hy : LyX g)  {I : pI} {J : pJ} {R : pR} (hr : RfX g R) (hI : XI g n L I) (pa : Int32) (cz : Int32) (ix : Int32) (pa_lo : 116 ≤ pa.toInt) (pa_hi : pa.toInt ≤ 116) (cz_lo : 4 ≤ cz.toInt) (cz_hi : cz.toInt ≤ 4) (ix_lo : 0 ≤ ix.toInt) (ix_hi : ix.toInt ≤ 0) : SP g mX3_faultOfName [.ref (ad g 3), .int pa, .int cz, .int ix, .ref (ad g 27)] I J R (fun r I' J' R' => (XI g n L I' ∧ R' = R ∧ True ∧ I' (ad g 27) 1 = I (ad g 27) 1 ∧ I' (ad g 27) 2 = I (ad g 27) 2) ∧ ∃ v : Int32, r = some (.int v) ∧ 0 ≤ v.toInt ∧ v.toInt ≤ 5 ∧ (v.toInt = 0 → (I' (ad g 4) 0).toInt ≤ 2)) := by
  refine SP_of ⟨by decide, rfl⟩ (Nat.le_of_ble_eq_true rfl) ?_
  have e6538 : I (ad g 1) 1 = L := hI.2
  have b6539 := BT_get hI.1 1 1 2 (0) (0) (900) (by decide) 1 (by decide) (by decide)
  rw [e6538] at b6539
  obtain ⟨w6540, ew6540⟩ : ∃ w : Int32, I (ad g 27) 1 = w := ⟨_, rfl⟩
  have bw6540 := BT_get hI.1 27 1 2 (0) (0) (4) (by decide) 1 (by decide) (by decide)
  rw [ew6540] at bw6540
  obtain ⟨w6541, ew6541⟩ : ∃ w : Int32, I (ad g 27) 2 = w := ⟨_, rfl⟩
  have bw6541 := BT_get hI.1 27 2 3 (0) (0) (3) (by decide) 2 (by decide) (by decide)
  rw [ew6541] at bw6541
  refine WP_iload_n dX3_faultOfName_0 rfl ?_
  refine WQ_bipush (115) (115) dX3_faultOfName_1 rfl rfl (fun v6542 hv6542 => ?_)
  refine WQ_icmp_eq 12 dX3_faultOfName_3 rfl (fun c6542 => False.elim (by omega)) (fun c6542 => ?_)
  refine WP_iload_n dX3_faultOfName_6 rfl ?_
  refine WQ_bipush (110) (110) dX3_faultOfName_7 rfl rfl (fun v6544 hv6544 => ?_)
  refine WQ_icmp_ne 16 dX3_faultOfName_9 rfl (fun c6544 => ?_) (fun c6544 => False.elim (by omega))
  refine WQ_iconst (0) (0) dX3_faultOfName_16 rfl rfl (fun v6546 hv6546 => ?_)
  refine WP_istore (ls' := [(0, _), (1, _), (2, _), (3, _), (4, _), (5, _)]) dX3_faultOfName_17 (by decide) rfl ?_
  refine WP_iload dX3_faultOfName_19 rfl ?_
  refine WQ_if_eq 39 dX3_faultOfName_21 rfl (fun c6546 => ?_) (fun c6546 => False.elim (by omega))
  refine WP_aload dX3_faultOfName_39 rfl ?_
  refine WP_aload_n dX3_faultOfName_41 rfl ?_
  refine WP_getr dX3_faultOfName_42 fX3_15 rfl (lyx_is hy 3 3 rfl) (rfx hr 3 2 1 (by decide)) ?_
  refine WQ_getl dX3_faultOfName_45 fX3_80 rfl (lyx_is hy 1 5 rfl) (fun l6548 el6548 => ?_)
  refine WP_callV1 (k := 7) dX3_faultOfName_48 ⟨⟨⟨by decide, by decide⟩, zX7_thingNamed⟩, lX3_107, by decide, rfl, vX7_thingNamed.1, vX7_thingNamed.2⟩ (lyx_is hy 27 7 rfl) (sx_thingNamed_27 hy hr hI l6548 ) (Nat.le_of_ble_eq_true rfl) ?_
  intro r Ia Ja Ra hq
  obtain ⟨⟨ea, eb, ec⟩, v6549, rfl, av6549, bv6549⟩ := hq
  show WP _ _ _ _ (.int _ :: _) _ _ _ _
  rw [ea, eb, ec]
  clear ea eb ec Ia Ja Ra
  refine WP_istore (ls' := [(0, _), (1, _), (2, _), (3, _), (4, _), (5, _), (6, _)]) dX3_faultOfName_51 (by decide) rfl ?_
  refine WP_iload_n dX3_faultOfName_53 rfl ?_
  refine WQ_bipush (110) (110) dX3_faultOfName_54 rfl rfl (fun v6550 hv6550 => ?_)
  refine WQ_icmp_eq 65 dX3_faultOfName_56 rfl (fun c6550 => False.elim (by omega)) (fun c6550 => ?_)
  refine WP_iload_n dX3_faultOfName_59 rfl ?_
  refine WQ_bipush (109) (109) dX3_faultOfName_60 rfl rfl (fun v6552 hv6552 => ?_)
  refine WQ_icmp_ne 98 dX3_faultOfName_62 rfl (fun c6552 => ?_) (fun c6552 => False.elim (by omega))
  refine WP_iload dX3_faultOfName_98 rfl ?_
  refine WQ_iconst (-1) (-1) dX3_faultOfName_100 rfl rfl (fun v6554 hv6554 => ?_)
  refine WQ_icmp_ne 106 dX3_faultOfName_101 rfl (fun c6554 => ?_) (fun c6554 => ?_)
  · refine WP_aload_n dX3_faultOfName_106 rfl ?_
    refine WP_getr dX3_faultOfName_107 fX3_9 rfl (lyx_is hy 3 3 rfl) (rfx hr 3 3 4 (by decide)) ?_
    refine WP_iload_n dX3_faultOfName_110 rfl ?_
    refine WP_iload dX3_faultOfName_111 rfl ?_
    refine WQ_iast dX3_faultOfName_113 (lyx_is hy 4 13 rfl) (lyx_n hy 4 5 rfl) (by omega) (by omega) (fun I6556 fI6556 => ?_)
    have eI6556 := fI6556
    rw [cl (x := ix) (n := 0) (by omega)] at eI6556
    clear fI6556
    have hI6556 : XI g n L I6556 := by rw [eI6556]; exact (xi_f hy hI (c := 4) (0) (0) (1000) (by decide) (Or.inl (by decide)) (by decide) (by omega) (by omega))
    have e6557 : I6556 (ad g 1) 1 = L := by rw [eI6556, pp_ne _ _ (Or.inl (lyx_ne hy (by decide) (by decide) (by decide)))]; exact e6538
    have e6558 : I6556 (ad g 27) 1 = w6540 := by rw [eI6556, pp_ne _ _ (Or.inl (lyx_ne hy (by decide) (by decide) (by decide)))]; exact ew6540
    have e6559 : I6556 (ad g 27) 2 = w6541 := by rw [eI6556, pp_ne _ _ (Or.inl (lyx_ne hy (by decide) (by decide) (by decide)))]; exact ew6541
    have e6560 : I6556 (ad g 4) 0 = v6549 := by rw [eI6556, pp_self]
    clear eI6556
    refine WP_iload_n dX3_faultOfName_114 rfl ?_
    refine WQ_bipush (7) (7) dX3_faultOfName_115 rfl rfl (fun v6561 hv6561 => ?_)
    refine WQ_icmp_ne 137 dX3_faultOfName_117 rfl (fun c6561 => ?_) (fun c6561 => False.elim (by omega))
    refine WQ_iconst (0) (0) dX3_faultOfName_137 rfl rfl (fun v6563 hv6563 => ?_)
    exact WP_iret dX3_faultOfName_138 rfl ⟨⟨hI6556, rfl, ⟨trivial, (by rw [e6558, ew6540] <;> exact (eq32 _ _).mpr (by omega)), (by rw [e6559, ew6541] <;> exact (eq32 _ _).mpr (by omega))⟩⟩, _, rfl, by omega, by omega, by (try rw [e6560]); omega⟩
  · refine WQ_iconst (5) (5) dX3_faultOfName_104 rfl rfl (fun v6564 hv6564 => ?_)
    obtain ⟨w6565, ew6565⟩ : ∃ w : Int32, I (ad g 4) 0 = w := ⟨_, rfl⟩
    have bw6565 := BT_get hI.1 4 0 5 (0) (0) (1000) (by decide) 0 (by decide) (by decide)
    rw [ew6565] at bw6565
    exact WP_iret dX3_faultOfName_105 rfl ⟨⟨hI, rfl, ⟨trivial, rfl, rfl⟩⟩, _, rfl, by omega, by omega, by (try rw [ew6565]); omega⟩
set_option maxHeartbeats 4000000 in
set_option maxRecDepth 100000 in
theorem sx_part_27_4_1 {g : GG} {n : Int} {L : Int32} (hy : LyX g)  {I : pI} {J : pJ} {R : pR} (hr : RfX g R) (hI : XI g n L I) (pa : Int32) (cz : Int32) (ix : Int32) (pa_lo : 68 ≤ pa.toInt) (pa_hi : pa.toInt ≤ 68) (cz_lo : 4 ≤ cz.toInt) (cz_hi : cz.toInt ≤ 4) (ix_lo : 1 ≤ ix.toInt) (ix_hi : ix.toInt ≤ 1) (hb : (I (ad g 4) 0).toInt ≤ 3) : SP g mX3_faultOfNumber [.ref (ad g 3), .int pa, .int cz, .int ix, .ref (ad g 27)] I J R (fun r I' J' R' => (XI g n L I' ∧ R' = R ∧ True ∧ I' (ad g 4) 0 = I (ad g 4) 0 ∧ I' (ad g 27) 1 = I (ad g 27) 1 ∧ I' (ad g 27) 2 = I (ad g 27) 2) ∧ ∃ v : Int32, r = some (.int v) ∧ 0 ≤ v.toInt ∧ v.toInt ≤ 5 ∧ (v.toInt = 0 → (I' (ad g 4) 1).toInt ≤ 6)) := by
  refine SP_of ⟨by decide, rfl⟩ (Nat.le_of_ble_eq_true rfl) ?_
  have e6566 : I (ad g 1) 1 = L := hI.2
  have b6567 := BT_get hI.1 1 1 2 (0) (0) (900) (by decide) 1 (by decide) (by decide)
  rw [e6566] at b6567
  obtain ⟨w6568, ew6568⟩ : ∃ w : Int32, I (ad g 4) 0 = w := ⟨_, rfl⟩
  have bw6568 := BT_get hI.1 4 0 5 (0) (0) (1000) (by decide) 0 (by decide) (by decide)
  rw [ew6568] at bw6568
  obtain ⟨w6569, ew6569⟩ : ∃ w : Int32, I (ad g 27) 1 = w := ⟨_, rfl⟩
  have bw6569 := BT_get hI.1 27 1 2 (0) (0) (4) (by decide) 1 (by decide) (by decide)
  rw [ew6569] at bw6569
  obtain ⟨w6570, ew6570⟩ : ∃ w : Int32, I (ad g 27) 2 = w := ⟨_, rfl⟩
  have bw6570 := BT_get hI.1 27 2 3 (0) (0) (3) (by decide) 2 (by decide) (by decide)
  rw [ew6570] at bw6570
  rw [ew6568] at hb
  refine WP_aload_n dX3_faultOfNumber_0 rfl ?_
  refine WP_getr dX3_faultOfNumber_1 fX3_15 rfl (lyx_is hy 3 3 rfl) (rfx hr 3 2 1 (by decide)) ?_
  refine WQ_getiu dX3_faultOfNumber_4 fX3_118 rfl (lyx_is hy 1 5 rfl) (fun v6571 ev6571 => ?_)
  refine WP_istore (ls' := [(0, _), (1, _), (2, _), (3, _), (4, _), (5, _)]) dX3_faultOfNumber_7 (by decide) rfl ?_
  refine WP_iload dX3_faultOfNumber_9 rfl ?_
  refine WP_iload_n dX3_faultOfNumber_11 rfl ?_
  refine WP_callS1 dX3_faultOfNumber_12 ⟨⟨⟨by decide, by decide⟩, zX3_leastOf⟩, lX3_121, tX3_leastOf⟩ (sx_leastOf hy hr hI pa ) (Nat.le_of_ble_eq_true rfl) ?_
  intro r Ia Ja Ra hq
  obtain ⟨⟨ea, eb, ec⟩, v6572, rfl, av6572, bv6572⟩ := hq
  show WP _ _ _ _ (.int _ :: _) _ _ _ _
  rw [ea, eb, ec]
  clear ea eb ec Ia Ja Ra
  refine WQ_icmp_lt 27 dX3_faultOfNumber_15 rfl (fun c6572 => ?_) (fun c6572 => ?_)
  · refine WQ_iconst (2) (2) dX3_faultOfNumber_27 rfl rfl (fun v6574 hv6574 => ?_)
    obtain ⟨w6575, ew6575⟩ : ∃ w : Int32, I (ad g 4) 1 = w := ⟨_, rfl⟩
    have bw6575 := BT_get hI.1 4 0 5 (0) (0) (1000) (by decide) 1 (by decide) (by decide)
    rw [ew6575] at bw6575
    exact WP_iret dX3_faultOfNumber_28 rfl ⟨⟨hI, rfl, ⟨trivial, rfl, rfl, rfl⟩⟩, _, rfl, by omega, by omega, by (try rw [ew6575]); omega⟩
  · refine WP_iload dX3_faultOfNumber_18 rfl ?_
    refine WP_iload_n dX3_faultOfNumber_20 rfl ?_
    refine WP_callS1 dX3_faultOfNumber_21 ⟨⟨⟨by decide, by decide⟩, zX3_mostOf⟩, lX3_125, tX3_mostOf⟩ (sx_mostOf hy hr hI pa ) (Nat.le_of_ble_eq_true rfl) ?_
    intro r Ia Ja Ra hq
    obtain ⟨⟨ea, eb, ec⟩, v6576, rfl, av6576, bv6576, cv6576⟩ := hq
    show WP _ _ _ _ (.int _ :: _) _ _ _ _
    rw [ea, eb, ec]
    clear ea eb ec Ia Ja Ra
    refine WQ_icmp_le 29 dX3_faultOfNumber_24 rfl (fun c6576 => ?_) (fun c6576 => ?_)
    · refine WP_aload_n dX3_faultOfNumber_29 rfl ?_
      refine WP_getr dX3_faultOfNumber_30 fX3_9 rfl (lyx_is hy 3 3 rfl) (rfx hr 3 3 4 (by decide)) ?_
      refine WP_iload_n dX3_faultOfNumber_33 rfl ?_
      refine WP_iload dX3_faultOfNumber_34 rfl ?_
      refine WQ_iast dX3_faultOfNumber_36 (lyx_is hy 4 13 rfl) (lyx_n hy 4 5 rfl) (by omega) (by omega) (fun I6578 fI6578 => ?_)
      have eI6578 := fI6578
      rw [cl (x := ix) (n := 1) (by omega)] at eI6578
      clear fI6578
      have hI6578 : XI g n L I6578 := by rw [eI6578]; exact (xi_f hy hI (c := 4) (0) (0) (1000) (by decide) (Or.inl (by decide)) (by decide) (by omega) (by omega))
      have e6579 : I6578 (ad g 1) 1 = L := by rw [eI6578, pp_ne _ _ (Or.inl (lyx_ne hy (by decide) (by decide) (by decide)))]; exact e6566
      have e6580 : I6578 (ad g 4) 0 = w6568 := by rw [eI6578, pp_ne _ _ (Or.inr (by decide))]; exact ew6568
      have e6581 : I6578 (ad g 27) 1 = w6569 := by rw [eI6578, pp_ne _ _ (Or.inl (lyx_ne hy (by decide) (by decide) (by decide)))]; exact ew6569
      have e6582 : I6578 (ad g 27) 2 = w6570 := by rw [eI6578, pp_ne _ _ (Or.inl (lyx_ne hy (by decide) (by decide) (by decide)))]; exact ew6570
      have e6583 : I6578 (ad g 1) 4 = v6571 := by rw [eI6578, pp_ne _ _ (Or.inl (lyx_ne hy (by decide) (by decide) (by decide)))]; exact ev6571
      have e6584 : I6578 (ad g 4) 1 = v6571 := by rw [eI6578, pp_self]
      clear eI6578
      refine WP_iload_n dX3_faultOfNumber_37 rfl ?_
      refine WQ_bipush (68) (68) dX3_faultOfNumber_38 rfl rfl (fun v6585 hv6585 => ?_)
      refine WQ_icmp_eq 45 dX3_faultOfNumber_40 rfl (fun c6585 => ?_) (fun c6585 => False.elim (by omega))
      refine WP_aload dX3_faultOfNumber_45 rfl ?_
      refine WP_iload_n dX3_faultOfNumber_47 rfl ?_
      refine WP_iload_n dX3_faultOfNumber_48 rfl ?_
      refine WQ_if_ne 56 dX3_faultOfNumber_49 rfl (fun c6586 => ?_) (fun c6586 => False.elim (by omega))
      refine WP_aload_n dX3_faultOfNumber_56 rfl ?_
      refine WP_getr dX3_faultOfNumber_57 fX3_9 rfl (lyx_is hy 3 3 rfl) (rfx hr 3 3 4 (by decide)) ?_
      refine WQ_iconst (0) (0) dX3_faultOfNumber_60 rfl rfl (fun v6588 hv6588 => ?_)
      refine WQ_ialdm (z := 0) dX3_faultOfNumber_61 (lyx_is hy 4 13 rfl) (lyx_n hy 4 5 rfl) hv6588 (by decide) e6580 ?_
      refine WP_iload dX3_faultOfNumber_62 rfl ?_
      refine WP_callV3 (k := 7) dX3_faultOfNumber_64 ⟨⟨⟨by decide, by decide⟩, zX7_isTold⟩, lX3_114, by decide, rfl, vX7_isTold.1, vX7_isTold.2⟩ (lyx_is hy 27 7 rfl) (sx_isTold_27 hy hr hI6578 cz w6568 v6571 (by omega) (by omega) (by omega) (by omega) ) (Nat.le_of_ble_eq_true rfl) ?_
      intro r Ia Ja Ra hq
      obtain ⟨⟨ea, eb, ec⟩, v6590, rfl, av6590, bv6590⟩ := hq
      show WP _ _ _ _ (.int _ :: _) _ _ _ _
      rw [ea, eb, ec]
      clear ea eb ec Ia Ja Ra
      refine WQ_if_eq 74 dX3_faultOfNumber_67 rfl (fun c6590 => ?_) (fun c6590 => ?_)
      · refine WQ_iconst (0) (0) dX3_faultOfNumber_74 rfl rfl (fun v6592 hv6592 => ?_)
        exact WP_iret dX3_faultOfNumber_75 rfl ⟨⟨hI6578, rfl, ⟨trivial, (by rw [e6580, ew6568] <;> exact (eq32 _ _).mpr (by omega)), (by rw [e6581, ew6569] <;> exact (eq32 _ _).mpr (by omega)), (by rw [e6582, ew6570] <;> exact (eq32 _ _).mpr (by omega))⟩⟩, _, rfl, by omega, by omega, by (try rw [e6584]); omega⟩
      · refine WQ_iconst (3) (3) dX3_faultOfNumber_70 rfl rfl (fun v6593 hv6593 => ?_)
        refine WP_goto 75 dX3_faultOfNumber_71 rfl ?_
        exact WP_iret dX3_faultOfNumber_75 rfl ⟨⟨hI6578, rfl, ⟨trivial, (by rw [e6580, ew6568] <;> exact (eq32 _ _).mpr (by omega)), (by rw [e6581, ew6569] <;> exact (eq32 _ _).mpr (by omega)), (by rw [e6582, ew6570] <;> exact (eq32 _ _).mpr (by omega))⟩⟩, _, rfl, by omega, by omega, by (try rw [e6584]); omega⟩
    · refine WQ_iconst (2) (2) dX3_faultOfNumber_27 rfl rfl (fun v6594 hv6594 => ?_)
      obtain ⟨w6595, ew6595⟩ : ∃ w : Int32, I (ad g 4) 1 = w := ⟨_, rfl⟩
      have bw6595 := BT_get hI.1 4 0 5 (0) (0) (1000) (by decide) 1 (by decide) (by decide)
      rw [ew6595] at bw6595
      exact WP_iret dX3_faultOfNumber_28 rfl ⟨⟨hI, rfl, ⟨trivial, rfl, rfl, rfl⟩⟩, _, rfl, by omega, by omega, by (try rw [ew6595]); omega⟩
set_option maxHeartbeats 4000000 in
set_option maxRecDepth 100000 in
theorem sx_part_27_4_2 {g : GG} {n : Int} {L : Int32} (hy : LyX g)  {I : pI} {J : pJ} {R : pR} (hr : RfX g R) (hI : XI g n L I) (pa : Int32) (cz : Int32) (ix : Int32) (pa_lo : 69 ≤ pa.toInt) (pa_hi : pa.toInt ≤ 69) (cz_lo : 4 ≤ cz.toInt) (cz_hi : cz.toInt ≤ 4) (ix_lo : 2 ≤ ix.toInt) (ix_hi : ix.toInt ≤ 2) : SP g mX3_faultOfNumber [.ref (ad g 3), .int pa, .int cz, .int ix, .ref (ad g 27)] I J R (fun r I' J' R' => (XI g n L I' ∧ R' = R ∧ True ∧ I' (ad g 4) 0 = I (ad g 4) 0 ∧ I' (ad g 4) 1 = I (ad g 4) 1 ∧ I' (ad g 27) 1 = I (ad g 27) 1 ∧ I' (ad g 27) 2 = I (ad g 27) 2) ∧ ∃ v : Int32, r = some (.int v) ∧ 0 ≤ v.toInt ∧ v.toInt ≤ 5 ∧ (v.toInt = 0 → (I' (ad g 4) 2).toInt ≤ 20)) := by
  refine SP_of ⟨by decide, rfl⟩ (Nat.le_of_ble_eq_true rfl) ?_
  have e6596 : I (ad g 1) 1 = L := hI.2
  have b6597 := BT_get hI.1 1 1 2 (0) (0) (900) (by decide) 1 (by decide) (by decide)
  rw [e6596] at b6597
  obtain ⟨w6598, ew6598⟩ : ∃ w : Int32, I (ad g 4) 0 = w := ⟨_, rfl⟩
  have bw6598 := BT_get hI.1 4 0 5 (0) (0) (1000) (by decide) 0 (by decide) (by decide)
  rw [ew6598] at bw6598
  obtain ⟨w6599, ew6599⟩ : ∃ w : Int32, I (ad g 4) 1 = w := ⟨_, rfl⟩
  have bw6599 := BT_get hI.1 4 0 5 (0) (0) (1000) (by decide) 1 (by decide) (by decide)
  rw [ew6599] at bw6599
  obtain ⟨w6600, ew6600⟩ : ∃ w : Int32, I (ad g 27) 1 = w := ⟨_, rfl⟩
  have bw6600 := BT_get hI.1 27 1 2 (0) (0) (4) (by decide) 1 (by decide) (by decide)
  rw [ew6600] at bw6600
  obtain ⟨w6601, ew6601⟩ : ∃ w : Int32, I (ad g 27) 2 = w := ⟨_, rfl⟩
  have bw6601 := BT_get hI.1 27 2 3 (0) (0) (3) (by decide) 2 (by decide) (by decide)
  rw [ew6601] at bw6601
  refine WP_aload_n dX3_faultOfNumber_0 rfl ?_
  refine WP_getr dX3_faultOfNumber_1 fX3_15 rfl (lyx_is hy 3 3 rfl) (rfx hr 3 2 1 (by decide)) ?_
  refine WQ_getiu dX3_faultOfNumber_4 fX3_118 rfl (lyx_is hy 1 5 rfl) (fun v6602 ev6602 => ?_)
  refine WP_istore (ls' := [(0, _), (1, _), (2, _), (3, _), (4, _), (5, _)]) dX3_faultOfNumber_7 (by decide) rfl ?_
  refine WP_iload dX3_faultOfNumber_9 rfl ?_
  refine WP_iload_n dX3_faultOfNumber_11 rfl ?_
  refine WP_callS1 dX3_faultOfNumber_12 ⟨⟨⟨by decide, by decide⟩, zX3_leastOf⟩, lX3_121, tX3_leastOf⟩ (sx_leastOf hy hr hI pa ) (Nat.le_of_ble_eq_true rfl) ?_
  intro r Ia Ja Ra hq
  obtain ⟨⟨ea, eb, ec⟩, v6603, rfl, av6603, bv6603⟩ := hq
  show WP _ _ _ _ (.int _ :: _) _ _ _ _
  rw [ea, eb, ec]
  clear ea eb ec Ia Ja Ra
  refine WQ_icmp_lt 27 dX3_faultOfNumber_15 rfl (fun c6603 => ?_) (fun c6603 => ?_)
  · refine WQ_iconst (2) (2) dX3_faultOfNumber_27 rfl rfl (fun v6605 hv6605 => ?_)
    obtain ⟨w6606, ew6606⟩ : ∃ w : Int32, I (ad g 4) 2 = w := ⟨_, rfl⟩
    have bw6606 := BT_get hI.1 4 0 5 (0) (0) (1000) (by decide) 2 (by decide) (by decide)
    rw [ew6606] at bw6606
    exact WP_iret dX3_faultOfNumber_28 rfl ⟨⟨hI, rfl, ⟨trivial, rfl, rfl, rfl, rfl⟩⟩, _, rfl, by omega, by omega, by (try rw [ew6606]); omega⟩
  · refine WP_iload dX3_faultOfNumber_18 rfl ?_
    refine WP_iload_n dX3_faultOfNumber_20 rfl ?_
    refine WP_callS1 dX3_faultOfNumber_21 ⟨⟨⟨by decide, by decide⟩, zX3_mostOf⟩, lX3_125, tX3_mostOf⟩ (sx_mostOf hy hr hI pa ) (Nat.le_of_ble_eq_true rfl) ?_
    intro r Ia Ja Ra hq
    obtain ⟨⟨ea, eb, ec⟩, v6607, rfl, av6607, bv6607, cv6607⟩ := hq
    show WP _ _ _ _ (.int _ :: _) _ _ _ _
    rw [ea, eb, ec]
    clear ea eb ec Ia Ja Ra
    refine WQ_icmp_le 29 dX3_faultOfNumber_24 rfl (fun c6607 => ?_) (fun c6607 => ?_)
    · refine WP_aload_n dX3_faultOfNumber_29 rfl ?_
      refine WP_getr dX3_faultOfNumber_30 fX3_9 rfl (lyx_is hy 3 3 rfl) (rfx hr 3 3 4 (by decide)) ?_
      refine WP_iload_n dX3_faultOfNumber_33 rfl ?_
      refine WP_iload dX3_faultOfNumber_34 rfl ?_
      refine WQ_iast dX3_faultOfNumber_36 (lyx_is hy 4 13 rfl) (lyx_n hy 4 5 rfl) (by omega) (by omega) (fun I6609 fI6609 => ?_)
      have eI6609 := fI6609
      rw [cl (x := ix) (n := 2) (by omega)] at eI6609
      clear fI6609
      have hI6609 : XI g n L I6609 := by rw [eI6609]; exact (xi_f hy hI (c := 4) (0) (0) (1000) (by decide) (Or.inl (by decide)) (by decide) (by omega) (by omega))
      have e6610 : I6609 (ad g 1) 1 = L := by rw [eI6609, pp_ne _ _ (Or.inl (lyx_ne hy (by decide) (by decide) (by decide)))]; exact e6596
      have e6611 : I6609 (ad g 4) 0 = w6598 := by rw [eI6609, pp_ne _ _ (Or.inr (by decide))]; exact ew6598
      have e6612 : I6609 (ad g 4) 1 = w6599 := by rw [eI6609, pp_ne _ _ (Or.inr (by decide))]; exact ew6599
      have e6613 : I6609 (ad g 27) 1 = w6600 := by rw [eI6609, pp_ne _ _ (Or.inl (lyx_ne hy (by decide) (by decide) (by decide)))]; exact ew6600
      have e6614 : I6609 (ad g 27) 2 = w6601 := by rw [eI6609, pp_ne _ _ (Or.inl (lyx_ne hy (by decide) (by decide) (by decide)))]; exact ew6601
      have e6615 : I6609 (ad g 1) 4 = v6602 := by rw [eI6609, pp_ne _ _ (Or.inl (lyx_ne hy (by decide) (by decide) (by decide)))]; exact ev6602
      have e6616 : I6609 (ad g 4) 2 = v6602 := by rw [eI6609, pp_self]
      clear eI6609
      refine WP_iload_n dX3_faultOfNumber_37 rfl ?_
      refine WQ_bipush (68) (68) dX3_faultOfNumber_38 rfl rfl (fun v6617 hv6617 => ?_)
      refine WQ_icmp_eq 45 dX3_faultOfNumber_40 rfl (fun c6617 => False.elim (by omega)) (fun c6617 => ?_)
      refine WQ_iconst (0) (0) dX3_faultOfNumber_43 rfl rfl (fun v6619 hv6619 => ?_)
      exact WP_iret dX3_faultOfNumber_44 rfl ⟨⟨hI6609, rfl, ⟨trivial, (by rw [e6611, ew6598] <;> exact (eq32 _ _).mpr (by omega)), (by rw [e6612, ew6599] <;> exact (eq32 _ _).mpr (by omega)), (by rw [e6613, ew6600] <;> exact (eq32 _ _).mpr (by omega)), (by rw [e6614, ew6601] <;> exact (eq32 _ _).mpr (by omega))⟩⟩, _, rfl, by omega, by omega, by (try rw [e6616]); omega⟩
    · refine WQ_iconst (2) (2) dX3_faultOfNumber_27 rfl rfl (fun v6620 hv6620 => ?_)
      obtain ⟨w6621, ew6621⟩ : ∃ w : Int32, I (ad g 4) 2 = w := ⟨_, rfl⟩
      have bw6621 := BT_get hI.1 4 0 5 (0) (0) (1000) (by decide) 2 (by decide) (by decide)
      rw [ew6621] at bw6621
      exact WP_iret dX3_faultOfNumber_28 rfl ⟨⟨hI, rfl, ⟨trivial, rfl, rfl, rfl, rfl⟩⟩, _, rfl, by omega, by omega, by (try rw [ew6621]); omega⟩
set_option maxHeartbeats 4000000 in
set_option maxRecDepth 100000 in
theorem sx_part_27_5_0 {g : GG} {n : Int} {L : Int32} (hy : LyX g)  {I : pI} {J : pJ} {R : pR} (hr : RfX g R) (hI : XI g n L I) (pa : Int32) (cz : Int32) (ix : Int32) (pa_lo : 116 ≤ pa.toInt) (pa_hi : pa.toInt ≤ 116) (cz_lo : 5 ≤ cz.toInt) (cz_hi : cz.toInt ≤ 5) (ix_lo : 0 ≤ ix.toInt) (ix_hi : ix.toInt ≤ 0) : SP g mX3_faultOfName [.ref (ad g 3), .int pa, .int cz, .int ix, .ref (ad g 27)] I J R (fun r I' J' R' => (XI g n L I' ∧ R' = R ∧ True ∧ I' (ad g 27) 1 = I (ad g 27) 1 ∧ I' (ad g 27) 2 = I (ad g 27) 2) ∧ ∃ v : Int32, r = some (.int v) ∧ 0 ≤ v.toInt ∧ v.toInt ≤ 5 ∧ (v.toInt = 0 → (I' (ad g 4) 0).toInt ≤ 2)) := by
  refine SP_of ⟨by decide, rfl⟩ (Nat.le_of_ble_eq_true rfl) ?_
  have e6622 : I (ad g 1) 1 = L := hI.2
  have b6623 := BT_get hI.1 1 1 2 (0) (0) (900) (by decide) 1 (by decide) (by decide)
  rw [e6622] at b6623
  obtain ⟨w6624, ew6624⟩ : ∃ w : Int32, I (ad g 27) 1 = w := ⟨_, rfl⟩
  have bw6624 := BT_get hI.1 27 1 2 (0) (0) (4) (by decide) 1 (by decide) (by decide)
  rw [ew6624] at bw6624
  obtain ⟨w6625, ew6625⟩ : ∃ w : Int32, I (ad g 27) 2 = w := ⟨_, rfl⟩
  have bw6625 := BT_get hI.1 27 2 3 (0) (0) (3) (by decide) 2 (by decide) (by decide)
  rw [ew6625] at bw6625
  refine WP_iload_n dX3_faultOfName_0 rfl ?_
  refine WQ_bipush (115) (115) dX3_faultOfName_1 rfl rfl (fun v6626 hv6626 => ?_)
  refine WQ_icmp_eq 12 dX3_faultOfName_3 rfl (fun c6626 => False.elim (by omega)) (fun c6626 => ?_)
  refine WP_iload_n dX3_faultOfName_6 rfl ?_
  refine WQ_bipush (110) (110) dX3_faultOfName_7 rfl rfl (fun v6628 hv6628 => ?_)
  refine WQ_icmp_ne 16 dX3_faultOfName_9 rfl (fun c6628 => ?_) (fun c6628 => False.elim (by omega))
  refine WQ_iconst (0) (0) dX3_faultOfName_16 rfl rfl (fun v6630 hv6630 => ?_)
  refine WP_istore (ls' := [(0, _), (1, _), (2, _), (3, _), (4, _), (5, _)]) dX3_faultOfName_17 (by decide) rfl ?_
  refine WP_iload dX3_faultOfName_19 rfl ?_
  refine WQ_if_eq 39 dX3_faultOfName_21 rfl (fun c6630 => ?_) (fun c6630 => False.elim (by omega))
  refine WP_aload dX3_faultOfName_39 rfl ?_
  refine WP_aload_n dX3_faultOfName_41 rfl ?_
  refine WP_getr dX3_faultOfName_42 fX3_15 rfl (lyx_is hy 3 3 rfl) (rfx hr 3 2 1 (by decide)) ?_
  refine WQ_getl dX3_faultOfName_45 fX3_80 rfl (lyx_is hy 1 5 rfl) (fun l6632 el6632 => ?_)
  refine WP_callV1 (k := 7) dX3_faultOfName_48 ⟨⟨⟨by decide, by decide⟩, zX7_thingNamed⟩, lX3_107, by decide, rfl, vX7_thingNamed.1, vX7_thingNamed.2⟩ (lyx_is hy 27 7 rfl) (sx_thingNamed_27 hy hr hI l6632 ) (Nat.le_of_ble_eq_true rfl) ?_
  intro r Ia Ja Ra hq
  obtain ⟨⟨ea, eb, ec⟩, v6633, rfl, av6633, bv6633⟩ := hq
  show WP _ _ _ _ (.int _ :: _) _ _ _ _
  rw [ea, eb, ec]
  clear ea eb ec Ia Ja Ra
  refine WP_istore (ls' := [(0, _), (1, _), (2, _), (3, _), (4, _), (5, _), (6, _)]) dX3_faultOfName_51 (by decide) rfl ?_
  refine WP_iload_n dX3_faultOfName_53 rfl ?_
  refine WQ_bipush (110) (110) dX3_faultOfName_54 rfl rfl (fun v6634 hv6634 => ?_)
  refine WQ_icmp_eq 65 dX3_faultOfName_56 rfl (fun c6634 => False.elim (by omega)) (fun c6634 => ?_)
  refine WP_iload_n dX3_faultOfName_59 rfl ?_
  refine WQ_bipush (109) (109) dX3_faultOfName_60 rfl rfl (fun v6636 hv6636 => ?_)
  refine WQ_icmp_ne 98 dX3_faultOfName_62 rfl (fun c6636 => ?_) (fun c6636 => False.elim (by omega))
  refine WP_iload dX3_faultOfName_98 rfl ?_
  refine WQ_iconst (-1) (-1) dX3_faultOfName_100 rfl rfl (fun v6638 hv6638 => ?_)
  refine WQ_icmp_ne 106 dX3_faultOfName_101 rfl (fun c6638 => ?_) (fun c6638 => ?_)
  · refine WP_aload_n dX3_faultOfName_106 rfl ?_
    refine WP_getr dX3_faultOfName_107 fX3_9 rfl (lyx_is hy 3 3 rfl) (rfx hr 3 3 4 (by decide)) ?_
    refine WP_iload_n dX3_faultOfName_110 rfl ?_
    refine WP_iload dX3_faultOfName_111 rfl ?_
    refine WQ_iast dX3_faultOfName_113 (lyx_is hy 4 13 rfl) (lyx_n hy 4 5 rfl) (by omega) (by omega) (fun I6640 fI6640 => ?_)
    have eI6640 := fI6640
    rw [cl (x := ix) (n := 0) (by omega)] at eI6640
    clear fI6640
    have hI6640 : XI g n L I6640 := by rw [eI6640]; exact (xi_f hy hI (c := 4) (0) (0) (1000) (by decide) (Or.inl (by decide)) (by decide) (by omega) (by omega))
    have e6641 : I6640 (ad g 1) 1 = L := by rw [eI6640, pp_ne _ _ (Or.inl (lyx_ne hy (by decide) (by decide) (by decide)))]; exact e6622
    have e6642 : I6640 (ad g 27) 1 = w6624 := by rw [eI6640, pp_ne _ _ (Or.inl (lyx_ne hy (by decide) (by decide) (by decide)))]; exact ew6624
    have e6643 : I6640 (ad g 27) 2 = w6625 := by rw [eI6640, pp_ne _ _ (Or.inl (lyx_ne hy (by decide) (by decide) (by decide)))]; exact ew6625
    have e6644 : I6640 (ad g 4) 0 = v6633 := by rw [eI6640, pp_self]
    clear eI6640
    refine WP_iload_n dX3_faultOfName_114 rfl ?_
    refine WQ_bipush (7) (7) dX3_faultOfName_115 rfl rfl (fun v6645 hv6645 => ?_)
    refine WQ_icmp_ne 137 dX3_faultOfName_117 rfl (fun c6645 => ?_) (fun c6645 => False.elim (by omega))
    refine WQ_iconst (0) (0) dX3_faultOfName_137 rfl rfl (fun v6647 hv6647 => ?_)
    exact WP_iret dX3_faultOfName_138 rfl ⟨⟨hI6640, rfl, ⟨trivial, (by rw [e6642, ew6624] <;> exact (eq32 _ _).mpr (by omega)), (by rw [e6643, ew6625] <;> exact (eq32 _ _).mpr (by omega))⟩⟩, _, rfl, by omega, by omega, by (try rw [e6644]); omega⟩
  · refine WQ_iconst (5) (5) dX3_faultOfName_104 rfl rfl (fun v6648 hv6648 => ?_)
    obtain ⟨w6649, ew6649⟩ : ∃ w : Int32, I (ad g 4) 0 = w := ⟨_, rfl⟩
    have bw6649 := BT_get hI.1 4 0 5 (0) (0) (1000) (by decide) 0 (by decide) (by decide)
    rw [ew6649] at bw6649
    exact WP_iret dX3_faultOfName_105 rfl ⟨⟨hI, rfl, ⟨trivial, rfl, rfl⟩⟩, _, rfl, by omega, by omega, by (try rw [ew6649]); omega⟩
set_option maxHeartbeats 4000000 in
set_option maxRecDepth 100000 in
theorem sx_part_27_5_1 {g : GG} {n : Int} {L : Int32} (hy : LyX g)  {I : pI} {J : pJ} {R : pR} (hr : RfX g R) (hI : XI g n L I) (pa : Int32) (cz : Int32) (ix : Int32) (pa_lo : 68 ≤ pa.toInt) (pa_hi : pa.toInt ≤ 68) (cz_lo : 5 ≤ cz.toInt) (cz_hi : cz.toInt ≤ 5) (ix_lo : 1 ≤ ix.toInt) (ix_hi : ix.toInt ≤ 1) (hb : (I (ad g 4) 0).toInt ≤ 3) : SP g mX3_faultOfNumber [.ref (ad g 3), .int pa, .int cz, .int ix, .ref (ad g 27)] I J R (fun r I' J' R' => (XI g n L I' ∧ R' = R ∧ True ∧ I' (ad g 4) 0 = I (ad g 4) 0 ∧ I' (ad g 27) 1 = I (ad g 27) 1 ∧ I' (ad g 27) 2 = I (ad g 27) 2) ∧ ∃ v : Int32, r = some (.int v) ∧ 0 ≤ v.toInt ∧ v.toInt ≤ 5 ∧ (v.toInt = 0 → (I' (ad g 4) 1).toInt ≤ 6)) := by
  refine SP_of ⟨by decide, rfl⟩ (Nat.le_of_ble_eq_true rfl) ?_
  have e6650 : I (ad g 1) 1 = L := hI.2
  have b6651 := BT_get hI.1 1 1 2 (0) (0) (900) (by decide) 1 (by decide) (by decide)
  rw [e6650] at b6651
  obtain ⟨w6652, ew6652⟩ : ∃ w : Int32, I (ad g 4) 0 = w := ⟨_, rfl⟩
  have bw6652 := BT_get hI.1 4 0 5 (0) (0) (1000) (by decide) 0 (by decide) (by decide)
  rw [ew6652] at bw6652
  obtain ⟨w6653, ew6653⟩ : ∃ w : Int32, I (ad g 27) 1 = w := ⟨_, rfl⟩
  have bw6653 := BT_get hI.1 27 1 2 (0) (0) (4) (by decide) 1 (by decide) (by decide)
  rw [ew6653] at bw6653
  obtain ⟨w6654, ew6654⟩ : ∃ w : Int32, I (ad g 27) 2 = w := ⟨_, rfl⟩
  have bw6654 := BT_get hI.1 27 2 3 (0) (0) (3) (by decide) 2 (by decide) (by decide)
  rw [ew6654] at bw6654
  rw [ew6652] at hb
  refine WP_aload_n dX3_faultOfNumber_0 rfl ?_
  refine WP_getr dX3_faultOfNumber_1 fX3_15 rfl (lyx_is hy 3 3 rfl) (rfx hr 3 2 1 (by decide)) ?_
  refine WQ_getiu dX3_faultOfNumber_4 fX3_118 rfl (lyx_is hy 1 5 rfl) (fun v6655 ev6655 => ?_)
  refine WP_istore (ls' := [(0, _), (1, _), (2, _), (3, _), (4, _), (5, _)]) dX3_faultOfNumber_7 (by decide) rfl ?_
  refine WP_iload dX3_faultOfNumber_9 rfl ?_
  refine WP_iload_n dX3_faultOfNumber_11 rfl ?_
  refine WP_callS1 dX3_faultOfNumber_12 ⟨⟨⟨by decide, by decide⟩, zX3_leastOf⟩, lX3_121, tX3_leastOf⟩ (sx_leastOf hy hr hI pa ) (Nat.le_of_ble_eq_true rfl) ?_
  intro r Ia Ja Ra hq
  obtain ⟨⟨ea, eb, ec⟩, v6656, rfl, av6656, bv6656⟩ := hq
  show WP _ _ _ _ (.int _ :: _) _ _ _ _
  rw [ea, eb, ec]
  clear ea eb ec Ia Ja Ra
  refine WQ_icmp_lt 27 dX3_faultOfNumber_15 rfl (fun c6656 => ?_) (fun c6656 => ?_)
  · refine WQ_iconst (2) (2) dX3_faultOfNumber_27 rfl rfl (fun v6658 hv6658 => ?_)
    obtain ⟨w6659, ew6659⟩ : ∃ w : Int32, I (ad g 4) 1 = w := ⟨_, rfl⟩
    have bw6659 := BT_get hI.1 4 0 5 (0) (0) (1000) (by decide) 1 (by decide) (by decide)
    rw [ew6659] at bw6659
    exact WP_iret dX3_faultOfNumber_28 rfl ⟨⟨hI, rfl, ⟨trivial, rfl, rfl, rfl⟩⟩, _, rfl, by omega, by omega, by (try rw [ew6659]); omega⟩
  · refine WP_iload dX3_faultOfNumber_18 rfl ?_
    refine WP_iload_n dX3_faultOfNumber_20 rfl ?_
    refine WP_callS1 dX3_faultOfNumber_21 ⟨⟨⟨by decide, by decide⟩, zX3_mostOf⟩, lX3_125, tX3_mostOf⟩ (sx_mostOf hy hr hI pa ) (Nat.le_of_ble_eq_true rfl) ?_
    intro r Ia Ja Ra hq
    obtain ⟨⟨ea, eb, ec⟩, v6660, rfl, av6660, bv6660, cv6660⟩ := hq
    show WP _ _ _ _ (.int _ :: _) _ _ _ _
    rw [ea, eb, ec]
    clear ea eb ec Ia Ja Ra
    refine WQ_icmp_le 29 dX3_faultOfNumber_24 rfl (fun c6660 => ?_) (fun c6660 => ?_)
    · refine WP_aload_n dX3_faultOfNumber_29 rfl ?_
      refine WP_getr dX3_faultOfNumber_30 fX3_9 rfl (lyx_is hy 3 3 rfl) (rfx hr 3 3 4 (by decide)) ?_
      refine WP_iload_n dX3_faultOfNumber_33 rfl ?_
      refine WP_iload dX3_faultOfNumber_34 rfl ?_
      refine WQ_iast dX3_faultOfNumber_36 (lyx_is hy 4 13 rfl) (lyx_n hy 4 5 rfl) (by omega) (by omega) (fun I6662 fI6662 => ?_)
      have eI6662 := fI6662
      rw [cl (x := ix) (n := 1) (by omega)] at eI6662
      clear fI6662
      have hI6662 : XI g n L I6662 := by rw [eI6662]; exact (xi_f hy hI (c := 4) (0) (0) (1000) (by decide) (Or.inl (by decide)) (by decide) (by omega) (by omega))
      have e6663 : I6662 (ad g 1) 1 = L := by rw [eI6662, pp_ne _ _ (Or.inl (lyx_ne hy (by decide) (by decide) (by decide)))]; exact e6650
      have e6664 : I6662 (ad g 4) 0 = w6652 := by rw [eI6662, pp_ne _ _ (Or.inr (by decide))]; exact ew6652
      have e6665 : I6662 (ad g 27) 1 = w6653 := by rw [eI6662, pp_ne _ _ (Or.inl (lyx_ne hy (by decide) (by decide) (by decide)))]; exact ew6653
      have e6666 : I6662 (ad g 27) 2 = w6654 := by rw [eI6662, pp_ne _ _ (Or.inl (lyx_ne hy (by decide) (by decide) (by decide)))]; exact ew6654
      have e6667 : I6662 (ad g 1) 4 = v6655 := by rw [eI6662, pp_ne _ _ (Or.inl (lyx_ne hy (by decide) (by decide) (by decide)))]; exact ev6655
      have e6668 : I6662 (ad g 4) 1 = v6655 := by rw [eI6662, pp_self]
      clear eI6662
      refine WP_iload_n dX3_faultOfNumber_37 rfl ?_
      refine WQ_bipush (68) (68) dX3_faultOfNumber_38 rfl rfl (fun v6669 hv6669 => ?_)
      refine WQ_icmp_eq 45 dX3_faultOfNumber_40 rfl (fun c6669 => ?_) (fun c6669 => False.elim (by omega))
      refine WP_aload dX3_faultOfNumber_45 rfl ?_
      refine WP_iload_n dX3_faultOfNumber_47 rfl ?_
      refine WP_iload_n dX3_faultOfNumber_48 rfl ?_
      refine WQ_if_ne 56 dX3_faultOfNumber_49 rfl (fun c6670 => ?_) (fun c6670 => False.elim (by omega))
      refine WP_aload_n dX3_faultOfNumber_56 rfl ?_
      refine WP_getr dX3_faultOfNumber_57 fX3_9 rfl (lyx_is hy 3 3 rfl) (rfx hr 3 3 4 (by decide)) ?_
      refine WQ_iconst (0) (0) dX3_faultOfNumber_60 rfl rfl (fun v6672 hv6672 => ?_)
      refine WQ_ialdm (z := 0) dX3_faultOfNumber_61 (lyx_is hy 4 13 rfl) (lyx_n hy 4 5 rfl) hv6672 (by decide) e6664 ?_
      refine WP_iload dX3_faultOfNumber_62 rfl ?_
      refine WP_callV3 (k := 7) dX3_faultOfNumber_64 ⟨⟨⟨by decide, by decide⟩, zX7_isTold⟩, lX3_114, by decide, rfl, vX7_isTold.1, vX7_isTold.2⟩ (lyx_is hy 27 7 rfl) (sx_isTold_27 hy hr hI6662 cz w6652 v6655 (by omega) (by omega) (by omega) (by omega) ) (Nat.le_of_ble_eq_true rfl) ?_
      intro r Ia Ja Ra hq
      obtain ⟨⟨ea, eb, ec⟩, v6674, rfl, av6674, bv6674⟩ := hq
      show WP _ _ _ _ (.int _ :: _) _ _ _ _
      rw [ea, eb, ec]
      clear ea eb ec Ia Ja Ra
      refine WQ_if_eq 74 dX3_faultOfNumber_67 rfl (fun c6674 => ?_) (fun c6674 => ?_)
      · refine WQ_iconst (0) (0) dX3_faultOfNumber_74 rfl rfl (fun v6676 hv6676 => ?_)
        exact WP_iret dX3_faultOfNumber_75 rfl ⟨⟨hI6662, rfl, ⟨trivial, (by rw [e6664, ew6652] <;> exact (eq32 _ _).mpr (by omega)), (by rw [e6665, ew6653] <;> exact (eq32 _ _).mpr (by omega)), (by rw [e6666, ew6654] <;> exact (eq32 _ _).mpr (by omega))⟩⟩, _, rfl, by omega, by omega, by (try rw [e6668]); omega⟩
      · refine WQ_iconst (3) (3) dX3_faultOfNumber_70 rfl rfl (fun v6677 hv6677 => ?_)
        refine WP_goto 75 dX3_faultOfNumber_71 rfl ?_
        exact WP_iret dX3_faultOfNumber_75 rfl ⟨⟨hI6662, rfl, ⟨trivial, (by rw [e6664, ew6652] <;> exact (eq32 _ _).mpr (by omega)), (by rw [e6665, ew6653] <;> exact (eq32 _ _).mpr (by omega)), (by rw [e6666, ew6654] <;> exact (eq32 _ _).mpr (by omega))⟩⟩, _, rfl, by omega, by omega, by (try rw [e6668]); omega⟩
    · refine WQ_iconst (2) (2) dX3_faultOfNumber_27 rfl rfl (fun v6678 hv6678 => ?_)
      obtain ⟨w6679, ew6679⟩ : ∃ w : Int32, I (ad g 4) 1 = w := ⟨_, rfl⟩
      have bw6679 := BT_get hI.1 4 0 5 (0) (0) (1000) (by decide) 1 (by decide) (by decide)
      rw [ew6679] at bw6679
      exact WP_iret dX3_faultOfNumber_28 rfl ⟨⟨hI, rfl, ⟨trivial, rfl, rfl, rfl⟩⟩, _, rfl, by omega, by omega, by (try rw [ew6679]); omega⟩
set_option maxHeartbeats 4000000 in
set_option maxRecDepth 100000 in
theorem sx_part_27_5_2 {g : GG} {n : Int} {L : Int32} (hy : LyX g)  {I : pI} {J : pJ} {R : pR} (hr : RfX g R) (hI : XI g n L I) (pa : Int32) (cz : Int32) (ix : Int32) (pa_lo : 77 ≤ pa.toInt) (pa_hi : pa.toInt ≤ 77) (cz_lo : 5 ≤ cz.toInt) (cz_hi : cz.toInt ≤ 5) (ix_lo : 2 ≤ ix.toInt) (ix_hi : ix.toInt ≤ 2) : SP g mX3_faultOfNumber [.ref (ad g 3), .int pa, .int cz, .int ix, .ref (ad g 27)] I J R (fun r I' J' R' => (XI g n L I' ∧ R' = R ∧ True ∧ I' (ad g 4) 0 = I (ad g 4) 0 ∧ I' (ad g 4) 1 = I (ad g 4) 1 ∧ I' (ad g 27) 1 = I (ad g 27) 1 ∧ I' (ad g 27) 2 = I (ad g 27) 2) ∧ ∃ v : Int32, r = some (.int v) ∧ 0 ≤ v.toInt ∧ v.toInt ≤ 5 ∧ (v.toInt = 0 → (I' (ad g 4) 2).toInt ≤ 999)) := by
  refine SP_of ⟨by decide, rfl⟩ (Nat.le_of_ble_eq_true rfl) ?_
  have e6680 : I (ad g 1) 1 = L := hI.2
  have b6681 := BT_get hI.1 1 1 2 (0) (0) (900) (by decide) 1 (by decide) (by decide)
  rw [e6680] at b6681
  obtain ⟨w6682, ew6682⟩ : ∃ w : Int32, I (ad g 4) 0 = w := ⟨_, rfl⟩
  have bw6682 := BT_get hI.1 4 0 5 (0) (0) (1000) (by decide) 0 (by decide) (by decide)
  rw [ew6682] at bw6682
  obtain ⟨w6683, ew6683⟩ : ∃ w : Int32, I (ad g 4) 1 = w := ⟨_, rfl⟩
  have bw6683 := BT_get hI.1 4 0 5 (0) (0) (1000) (by decide) 1 (by decide) (by decide)
  rw [ew6683] at bw6683
  obtain ⟨w6684, ew6684⟩ : ∃ w : Int32, I (ad g 27) 1 = w := ⟨_, rfl⟩
  have bw6684 := BT_get hI.1 27 1 2 (0) (0) (4) (by decide) 1 (by decide) (by decide)
  rw [ew6684] at bw6684
  obtain ⟨w6685, ew6685⟩ : ∃ w : Int32, I (ad g 27) 2 = w := ⟨_, rfl⟩
  have bw6685 := BT_get hI.1 27 2 3 (0) (0) (3) (by decide) 2 (by decide) (by decide)
  rw [ew6685] at bw6685
  refine WP_aload_n dX3_faultOfNumber_0 rfl ?_
  refine WP_getr dX3_faultOfNumber_1 fX3_15 rfl (lyx_is hy 3 3 rfl) (rfx hr 3 2 1 (by decide)) ?_
  refine WQ_getiu dX3_faultOfNumber_4 fX3_118 rfl (lyx_is hy 1 5 rfl) (fun v6686 ev6686 => ?_)
  refine WP_istore (ls' := [(0, _), (1, _), (2, _), (3, _), (4, _), (5, _)]) dX3_faultOfNumber_7 (by decide) rfl ?_
  refine WP_iload dX3_faultOfNumber_9 rfl ?_
  refine WP_iload_n dX3_faultOfNumber_11 rfl ?_
  refine WP_callS1 dX3_faultOfNumber_12 ⟨⟨⟨by decide, by decide⟩, zX3_leastOf⟩, lX3_121, tX3_leastOf⟩ (sx_leastOf hy hr hI pa ) (Nat.le_of_ble_eq_true rfl) ?_
  intro r Ia Ja Ra hq
  obtain ⟨⟨ea, eb, ec⟩, v6687, rfl, av6687, bv6687⟩ := hq
  show WP _ _ _ _ (.int _ :: _) _ _ _ _
  rw [ea, eb, ec]
  clear ea eb ec Ia Ja Ra
  refine WQ_icmp_lt 27 dX3_faultOfNumber_15 rfl (fun c6687 => ?_) (fun c6687 => ?_)
  · refine WQ_iconst (2) (2) dX3_faultOfNumber_27 rfl rfl (fun v6689 hv6689 => ?_)
    obtain ⟨w6690, ew6690⟩ : ∃ w : Int32, I (ad g 4) 2 = w := ⟨_, rfl⟩
    have bw6690 := BT_get hI.1 4 0 5 (0) (0) (1000) (by decide) 2 (by decide) (by decide)
    rw [ew6690] at bw6690
    exact WP_iret dX3_faultOfNumber_28 rfl ⟨⟨hI, rfl, ⟨trivial, rfl, rfl, rfl, rfl⟩⟩, _, rfl, by omega, by omega, by (try rw [ew6690]); omega⟩
  · refine WP_iload dX3_faultOfNumber_18 rfl ?_
    refine WP_iload_n dX3_faultOfNumber_20 rfl ?_
    refine WP_callS1 dX3_faultOfNumber_21 ⟨⟨⟨by decide, by decide⟩, zX3_mostOf⟩, lX3_125, tX3_mostOf⟩ (sx_mostOf hy hr hI pa ) (Nat.le_of_ble_eq_true rfl) ?_
    intro r Ia Ja Ra hq
    obtain ⟨⟨ea, eb, ec⟩, v6691, rfl, av6691, bv6691, cv6691⟩ := hq
    show WP _ _ _ _ (.int _ :: _) _ _ _ _
    rw [ea, eb, ec]
    clear ea eb ec Ia Ja Ra
    refine WQ_icmp_le 29 dX3_faultOfNumber_24 rfl (fun c6691 => ?_) (fun c6691 => ?_)
    · refine WP_aload_n dX3_faultOfNumber_29 rfl ?_
      refine WP_getr dX3_faultOfNumber_30 fX3_9 rfl (lyx_is hy 3 3 rfl) (rfx hr 3 3 4 (by decide)) ?_
      refine WP_iload_n dX3_faultOfNumber_33 rfl ?_
      refine WP_iload dX3_faultOfNumber_34 rfl ?_
      refine WQ_iast dX3_faultOfNumber_36 (lyx_is hy 4 13 rfl) (lyx_n hy 4 5 rfl) (by omega) (by omega) (fun I6693 fI6693 => ?_)
      have eI6693 := fI6693
      rw [cl (x := ix) (n := 2) (by omega)] at eI6693
      clear fI6693
      have hI6693 : XI g n L I6693 := by rw [eI6693]; exact (xi_f hy hI (c := 4) (0) (0) (1000) (by decide) (Or.inl (by decide)) (by decide) (by omega) (by omega))
      have e6694 : I6693 (ad g 1) 1 = L := by rw [eI6693, pp_ne _ _ (Or.inl (lyx_ne hy (by decide) (by decide) (by decide)))]; exact e6680
      have e6695 : I6693 (ad g 4) 0 = w6682 := by rw [eI6693, pp_ne _ _ (Or.inr (by decide))]; exact ew6682
      have e6696 : I6693 (ad g 4) 1 = w6683 := by rw [eI6693, pp_ne _ _ (Or.inr (by decide))]; exact ew6683
      have e6697 : I6693 (ad g 27) 1 = w6684 := by rw [eI6693, pp_ne _ _ (Or.inl (lyx_ne hy (by decide) (by decide) (by decide)))]; exact ew6684
      have e6698 : I6693 (ad g 27) 2 = w6685 := by rw [eI6693, pp_ne _ _ (Or.inl (lyx_ne hy (by decide) (by decide) (by decide)))]; exact ew6685
      have e6699 : I6693 (ad g 1) 4 = v6686 := by rw [eI6693, pp_ne _ _ (Or.inl (lyx_ne hy (by decide) (by decide) (by decide)))]; exact ev6686
      have e6700 : I6693 (ad g 4) 2 = v6686 := by rw [eI6693, pp_self]
      clear eI6693
      refine WP_iload_n dX3_faultOfNumber_37 rfl ?_
      refine WQ_bipush (68) (68) dX3_faultOfNumber_38 rfl rfl (fun v6701 hv6701 => ?_)
      refine WQ_icmp_eq 45 dX3_faultOfNumber_40 rfl (fun c6701 => False.elim (by omega)) (fun c6701 => ?_)
      refine WQ_iconst (0) (0) dX3_faultOfNumber_43 rfl rfl (fun v6703 hv6703 => ?_)
      exact WP_iret dX3_faultOfNumber_44 rfl ⟨⟨hI6693, rfl, ⟨trivial, (by rw [e6695, ew6682] <;> exact (eq32 _ _).mpr (by omega)), (by rw [e6696, ew6683] <;> exact (eq32 _ _).mpr (by omega)), (by rw [e6697, ew6684] <;> exact (eq32 _ _).mpr (by omega)), (by rw [e6698, ew6685] <;> exact (eq32 _ _).mpr (by omega))⟩⟩, _, rfl, by omega, by omega, by (try rw [e6700]); omega⟩
    · refine WQ_iconst (2) (2) dX3_faultOfNumber_27 rfl rfl (fun v6704 hv6704 => ?_)
      obtain ⟨w6705, ew6705⟩ : ∃ w : Int32, I (ad g 4) 2 = w := ⟨_, rfl⟩
      have bw6705 := BT_get hI.1 4 0 5 (0) (0) (1000) (by decide) 2 (by decide) (by decide)
      rw [ew6705] at bw6705
      exact WP_iret dX3_faultOfNumber_28 rfl ⟨⟨hI, rfl, ⟨trivial, rfl, rfl, rfl, rfl⟩⟩, _, rfl, by omega, by omega, by (try rw [ew6705]); omega⟩
set_option maxHeartbeats 4000000 in
set_option maxRecDepth 100000 in
theorem sx_part_27_6_0 {g : GG} {n : Int} {L : Int32} (hy : LyX g)  {I : pI} {J : pJ} {R : pR} (hr : RfX g R) (hI : XI g n L I) (pa : Int32) (cz : Int32) (ix : Int32) (pa_lo : 115 ≤ pa.toInt) (pa_hi : pa.toInt ≤ 115) (cz_lo : 6 ≤ cz.toInt) (cz_hi : cz.toInt ≤ 6) (ix_lo : 0 ≤ ix.toInt) (ix_hi : ix.toInt ≤ 0) : SP g mX3_faultOfName [.ref (ad g 3), .int pa, .int cz, .int ix, .ref (ad g 27)] I J R (fun r I' J' R' => (XI g n L I' ∧ R' = R ∧ True ∧ I' (ad g 27) 1 = I (ad g 27) 1 ∧ I' (ad g 27) 2 = I (ad g 27) 2) ∧ ∃ v : Int32, r = some (.int v) ∧ 0 ≤ v.toInt ∧ v.toInt ≤ 5 ∧ (v.toInt = 0 → (I' (ad g 4) 0).toInt ≤ 3)) := by
  refine SP_of ⟨by decide, rfl⟩ (Nat.le_of_ble_eq_true rfl) ?_
  have e6706 : I (ad g 1) 1 = L := hI.2
  have b6707 := BT_get hI.1 1 1 2 (0) (0) (900) (by decide) 1 (by decide) (by decide)
  rw [e6706] at b6707
  obtain ⟨w6708, ew6708⟩ : ∃ w : Int32, I (ad g 27) 1 = w := ⟨_, rfl⟩
  have bw6708 := BT_get hI.1 27 1 2 (0) (0) (4) (by decide) 1 (by decide) (by decide)
  rw [ew6708] at bw6708
  obtain ⟨w6709, ew6709⟩ : ∃ w : Int32, I (ad g 27) 2 = w := ⟨_, rfl⟩
  have bw6709 := BT_get hI.1 27 2 3 (0) (0) (3) (by decide) 2 (by decide) (by decide)
  rw [ew6709] at bw6709
  refine WP_iload_n dX3_faultOfName_0 rfl ?_
  refine WQ_bipush (115) (115) dX3_faultOfName_1 rfl rfl (fun v6710 hv6710 => ?_)
  refine WQ_icmp_eq 12 dX3_faultOfName_3 rfl (fun c6710 => ?_) (fun c6710 => False.elim (by omega))
  refine WQ_iconst (1) (1) dX3_faultOfName_12 rfl rfl (fun v6712 hv6712 => ?_)
  refine WP_goto 17 dX3_faultOfName_13 rfl ?_
  refine WP_istore (ls' := [(0, _), (1, _), (2, _), (3, _), (4, _), (5, _)]) dX3_faultOfName_17 (by decide) rfl ?_
  refine WP_iload dX3_faultOfName_19 rfl ?_
  refine WQ_if_eq 39 dX3_faultOfName_21 rfl (fun c6712 => False.elim (by omega)) (fun c6712 => ?_)
  refine WP_aload dX3_faultOfName_24 rfl ?_
  refine WP_aload_n dX3_faultOfName_26 rfl ?_
  refine WP_getr dX3_faultOfName_27 fX3_15 rfl (lyx_is hy 3 3 rfl) (rfx hr 3 2 1 (by decide)) ?_
  refine WQ_getl dX3_faultOfName_30 fX3_80 rfl (lyx_is hy 1 5 rfl) (fun l6714 el6714 => ?_)
  refine WP_callV1 (k := 7) dX3_faultOfName_33 ⟨⟨⟨by decide, by decide⟩, zX7_sortNamed⟩, lX3_103, by decide, rfl, vX7_sortNamed.1, vX7_sortNamed.2⟩ (lyx_is hy 27 7 rfl) (sx_sortNamed_27 hy hr hI l6714 ) (Nat.le_of_ble_eq_true rfl) ?_
  intro r Ia Ja Ra hq
  obtain ⟨⟨ea, eb, ec⟩, v6715, rfl, av6715, bv6715⟩ := hq
  show WP _ _ _ _ (.int _ :: _) _ _ _ _
  rw [ea, eb, ec]
  clear ea eb ec Ia Ja Ra
  refine WP_goto 51 dX3_faultOfName_36 rfl ?_
  refine WP_istore (ls' := [(0, _), (1, _), (2, _), (3, _), (4, _), (5, _), (6, _)]) dX3_faultOfName_51 (by decide) rfl ?_
  refine WP_iload_n dX3_faultOfName_53 rfl ?_
  refine WQ_bipush (110) (110) dX3_faultOfName_54 rfl rfl (fun v6716 hv6716 => ?_)
  refine WQ_icmp_eq 65 dX3_faultOfName_56 rfl (fun c6716 => False.elim (by omega)) (fun c6716 => ?_)
  refine WP_iload_n dX3_faultOfName_59 rfl ?_
  refine WQ_bipush (109) (109) dX3_faultOfName_60 rfl rfl (fun v6718 hv6718 => ?_)
  refine WQ_icmp_ne 98 dX3_faultOfName_62 rfl (fun c6718 => ?_) (fun c6718 => False.elim (by omega))
  refine WP_iload dX3_faultOfName_98 rfl ?_
  refine WQ_iconst (-1) (-1) dX3_faultOfName_100 rfl rfl (fun v6720 hv6720 => ?_)
  refine WQ_icmp_ne 106 dX3_faultOfName_101 rfl (fun c6720 => ?_) (fun c6720 => ?_)
  · refine WP_aload_n dX3_faultOfName_106 rfl ?_
    refine WP_getr dX3_faultOfName_107 fX3_9 rfl (lyx_is hy 3 3 rfl) (rfx hr 3 3 4 (by decide)) ?_
    refine WP_iload_n dX3_faultOfName_110 rfl ?_
    refine WP_iload dX3_faultOfName_111 rfl ?_
    refine WQ_iast dX3_faultOfName_113 (lyx_is hy 4 13 rfl) (lyx_n hy 4 5 rfl) (by omega) (by omega) (fun I6722 fI6722 => ?_)
    have eI6722 := fI6722
    rw [cl (x := ix) (n := 0) (by omega)] at eI6722
    clear fI6722
    have hI6722 : XI g n L I6722 := by rw [eI6722]; exact (xi_f hy hI (c := 4) (0) (0) (1000) (by decide) (Or.inl (by decide)) (by decide) (by omega) (by omega))
    have e6723 : I6722 (ad g 1) 1 = L := by rw [eI6722, pp_ne _ _ (Or.inl (lyx_ne hy (by decide) (by decide) (by decide)))]; exact e6706
    have e6724 : I6722 (ad g 27) 1 = w6708 := by rw [eI6722, pp_ne _ _ (Or.inl (lyx_ne hy (by decide) (by decide) (by decide)))]; exact ew6708
    have e6725 : I6722 (ad g 27) 2 = w6709 := by rw [eI6722, pp_ne _ _ (Or.inl (lyx_ne hy (by decide) (by decide) (by decide)))]; exact ew6709
    have e6726 : I6722 (ad g 4) 0 = v6715 := by rw [eI6722, pp_self]
    clear eI6722
    refine WP_iload_n dX3_faultOfName_114 rfl ?_
    refine WQ_bipush (7) (7) dX3_faultOfName_115 rfl rfl (fun v6727 hv6727 => ?_)
    refine WQ_icmp_ne 137 dX3_faultOfName_117 rfl (fun c6727 => ?_) (fun c6727 => False.elim (by omega))
    refine WQ_iconst (0) (0) dX3_faultOfName_137 rfl rfl (fun v6729 hv6729 => ?_)
    exact WP_iret dX3_faultOfName_138 rfl ⟨⟨hI6722, rfl, ⟨trivial, (by rw [e6724, ew6708] <;> exact (eq32 _ _).mpr (by omega)), (by rw [e6725, ew6709] <;> exact (eq32 _ _).mpr (by omega))⟩⟩, _, rfl, by omega, by omega, by (try rw [e6726]); omega⟩
  · refine WQ_iconst (5) (5) dX3_faultOfName_104 rfl rfl (fun v6730 hv6730 => ?_)
    obtain ⟨w6731, ew6731⟩ : ∃ w : Int32, I (ad g 4) 0 = w := ⟨_, rfl⟩
    have bw6731 := BT_get hI.1 4 0 5 (0) (0) (1000) (by decide) 0 (by decide) (by decide)
    rw [ew6731] at bw6731
    exact WP_iret dX3_faultOfName_105 rfl ⟨⟨hI, rfl, ⟨trivial, rfl, rfl⟩⟩, _, rfl, by omega, by omega, by (try rw [ew6731]); omega⟩
set_option maxHeartbeats 4000000 in
set_option maxRecDepth 100000 in
theorem sx_part_27_6_1 {g : GG} {n : Int} {L : Int32} (hy : LyX g)  {I : pI} {J : pJ} {R : pR} (hr : RfX g R) (hI : XI g n L I) (pa : Int32) (cz : Int32) (ix : Int32) (pa_lo : 116 ≤ pa.toInt) (pa_hi : pa.toInt ≤ 116) (cz_lo : 6 ≤ cz.toInt) (cz_hi : cz.toInt ≤ 6) (ix_lo : 1 ≤ ix.toInt) (ix_hi : ix.toInt ≤ 1) : SP g mX3_faultOfName [.ref (ad g 3), .int pa, .int cz, .int ix, .ref (ad g 27)] I J R (fun r I' J' R' => (XI g n L I' ∧ R' = R ∧ True ∧ I' (ad g 4) 0 = I (ad g 4) 0 ∧ I' (ad g 27) 1 = I (ad g 27) 1 ∧ I' (ad g 27) 2 = I (ad g 27) 2) ∧ ∃ v : Int32, r = some (.int v) ∧ 0 ≤ v.toInt ∧ v.toInt ≤ 5 ∧ (v.toInt = 0 → (I' (ad g 4) 1).toInt ≤ 2)) := by
  refine SP_of ⟨by decide, rfl⟩ (Nat.le_of_ble_eq_true rfl) ?_
  have e6732 : I (ad g 1) 1 = L := hI.2
  have b6733 := BT_get hI.1 1 1 2 (0) (0) (900) (by decide) 1 (by decide) (by decide)
  rw [e6732] at b6733
  obtain ⟨w6734, ew6734⟩ : ∃ w : Int32, I (ad g 4) 0 = w := ⟨_, rfl⟩
  have bw6734 := BT_get hI.1 4 0 5 (0) (0) (1000) (by decide) 0 (by decide) (by decide)
  rw [ew6734] at bw6734
  obtain ⟨w6735, ew6735⟩ : ∃ w : Int32, I (ad g 27) 1 = w := ⟨_, rfl⟩
  have bw6735 := BT_get hI.1 27 1 2 (0) (0) (4) (by decide) 1 (by decide) (by decide)
  rw [ew6735] at bw6735
  obtain ⟨w6736, ew6736⟩ : ∃ w : Int32, I (ad g 27) 2 = w := ⟨_, rfl⟩
  have bw6736 := BT_get hI.1 27 2 3 (0) (0) (3) (by decide) 2 (by decide) (by decide)
  rw [ew6736] at bw6736
  refine WP_iload_n dX3_faultOfName_0 rfl ?_
  refine WQ_bipush (115) (115) dX3_faultOfName_1 rfl rfl (fun v6737 hv6737 => ?_)
  refine WQ_icmp_eq 12 dX3_faultOfName_3 rfl (fun c6737 => False.elim (by omega)) (fun c6737 => ?_)
  refine WP_iload_n dX3_faultOfName_6 rfl ?_
  refine WQ_bipush (110) (110) dX3_faultOfName_7 rfl rfl (fun v6739 hv6739 => ?_)
  refine WQ_icmp_ne 16 dX3_faultOfName_9 rfl (fun c6739 => ?_) (fun c6739 => False.elim (by omega))
  refine WQ_iconst (0) (0) dX3_faultOfName_16 rfl rfl (fun v6741 hv6741 => ?_)
  refine WP_istore (ls' := [(0, _), (1, _), (2, _), (3, _), (4, _), (5, _)]) dX3_faultOfName_17 (by decide) rfl ?_
  refine WP_iload dX3_faultOfName_19 rfl ?_
  refine WQ_if_eq 39 dX3_faultOfName_21 rfl (fun c6741 => ?_) (fun c6741 => False.elim (by omega))
  refine WP_aload dX3_faultOfName_39 rfl ?_
  refine WP_aload_n dX3_faultOfName_41 rfl ?_
  refine WP_getr dX3_faultOfName_42 fX3_15 rfl (lyx_is hy 3 3 rfl) (rfx hr 3 2 1 (by decide)) ?_
  refine WQ_getl dX3_faultOfName_45 fX3_80 rfl (lyx_is hy 1 5 rfl) (fun l6743 el6743 => ?_)
  refine WP_callV1 (k := 7) dX3_faultOfName_48 ⟨⟨⟨by decide, by decide⟩, zX7_thingNamed⟩, lX3_107, by decide, rfl, vX7_thingNamed.1, vX7_thingNamed.2⟩ (lyx_is hy 27 7 rfl) (sx_thingNamed_27 hy hr hI l6743 ) (Nat.le_of_ble_eq_true rfl) ?_
  intro r Ia Ja Ra hq
  obtain ⟨⟨ea, eb, ec⟩, v6744, rfl, av6744, bv6744⟩ := hq
  show WP _ _ _ _ (.int _ :: _) _ _ _ _
  rw [ea, eb, ec]
  clear ea eb ec Ia Ja Ra
  refine WP_istore (ls' := [(0, _), (1, _), (2, _), (3, _), (4, _), (5, _), (6, _)]) dX3_faultOfName_51 (by decide) rfl ?_
  refine WP_iload_n dX3_faultOfName_53 rfl ?_
  refine WQ_bipush (110) (110) dX3_faultOfName_54 rfl rfl (fun v6745 hv6745 => ?_)
  refine WQ_icmp_eq 65 dX3_faultOfName_56 rfl (fun c6745 => False.elim (by omega)) (fun c6745 => ?_)
  refine WP_iload_n dX3_faultOfName_59 rfl ?_
  refine WQ_bipush (109) (109) dX3_faultOfName_60 rfl rfl (fun v6747 hv6747 => ?_)
  refine WQ_icmp_ne 98 dX3_faultOfName_62 rfl (fun c6747 => ?_) (fun c6747 => False.elim (by omega))
  refine WP_iload dX3_faultOfName_98 rfl ?_
  refine WQ_iconst (-1) (-1) dX3_faultOfName_100 rfl rfl (fun v6749 hv6749 => ?_)
  refine WQ_icmp_ne 106 dX3_faultOfName_101 rfl (fun c6749 => ?_) (fun c6749 => ?_)
  · refine WP_aload_n dX3_faultOfName_106 rfl ?_
    refine WP_getr dX3_faultOfName_107 fX3_9 rfl (lyx_is hy 3 3 rfl) (rfx hr 3 3 4 (by decide)) ?_
    refine WP_iload_n dX3_faultOfName_110 rfl ?_
    refine WP_iload dX3_faultOfName_111 rfl ?_
    refine WQ_iast dX3_faultOfName_113 (lyx_is hy 4 13 rfl) (lyx_n hy 4 5 rfl) (by omega) (by omega) (fun I6751 fI6751 => ?_)
    have eI6751 := fI6751
    rw [cl (x := ix) (n := 1) (by omega)] at eI6751
    clear fI6751
    have hI6751 : XI g n L I6751 := by rw [eI6751]; exact (xi_f hy hI (c := 4) (0) (0) (1000) (by decide) (Or.inl (by decide)) (by decide) (by omega) (by omega))
    have e6752 : I6751 (ad g 1) 1 = L := by rw [eI6751, pp_ne _ _ (Or.inl (lyx_ne hy (by decide) (by decide) (by decide)))]; exact e6732
    have e6753 : I6751 (ad g 4) 0 = w6734 := by rw [eI6751, pp_ne _ _ (Or.inr (by decide))]; exact ew6734
    have e6754 : I6751 (ad g 27) 1 = w6735 := by rw [eI6751, pp_ne _ _ (Or.inl (lyx_ne hy (by decide) (by decide) (by decide)))]; exact ew6735
    have e6755 : I6751 (ad g 27) 2 = w6736 := by rw [eI6751, pp_ne _ _ (Or.inl (lyx_ne hy (by decide) (by decide) (by decide)))]; exact ew6736
    have e6756 : I6751 (ad g 4) 1 = v6744 := by rw [eI6751, pp_self]
    clear eI6751
    refine WP_iload_n dX3_faultOfName_114 rfl ?_
    refine WQ_bipush (7) (7) dX3_faultOfName_115 rfl rfl (fun v6757 hv6757 => ?_)
    refine WQ_icmp_ne 137 dX3_faultOfName_117 rfl (fun c6757 => ?_) (fun c6757 => False.elim (by omega))
    refine WQ_iconst (0) (0) dX3_faultOfName_137 rfl rfl (fun v6759 hv6759 => ?_)
    exact WP_iret dX3_faultOfName_138 rfl ⟨⟨hI6751, rfl, ⟨trivial, (by rw [e6753, ew6734] <;> exact (eq32 _ _).mpr (by omega)), (by rw [e6754, ew6735] <;> exact (eq32 _ _).mpr (by omega)), (by rw [e6755, ew6736] <;> exact (eq32 _ _).mpr (by omega))⟩⟩, _, rfl, by omega, by omega, by (try rw [e6756]); omega⟩
  · refine WQ_iconst (5) (5) dX3_faultOfName_104 rfl rfl (fun v6760 hv6760 => ?_)
    obtain ⟨w6761, ew6761⟩ : ∃ w : Int32, I (ad g 4) 1 = w := ⟨_, rfl⟩
    have bw6761 := BT_get hI.1 4 0 5 (0) (0) (1000) (by decide) 1 (by decide) (by decide)
    rw [ew6761] at bw6761
    exact WP_iret dX3_faultOfName_105 rfl ⟨⟨hI, rfl, ⟨trivial, rfl, rfl, rfl⟩⟩, _, rfl, by omega, by omega, by (try rw [ew6761]); omega⟩
set_option maxHeartbeats 4000000 in
set_option maxRecDepth 100000 in
theorem sx_part_27_6_2 {g : GG} {n : Int} {L : Int32} (hy : LyX g)  {I : pI} {J : pJ} {R : pR} (hr : RfX g R) (hI : XI g n L I) (pa : Int32) (cz : Int32) (ix : Int32) (pa_lo : 68 ≤ pa.toInt) (pa_hi : pa.toInt ≤ 68) (cz_lo : 6 ≤ cz.toInt) (cz_hi : cz.toInt ≤ 6) (ix_lo : 2 ≤ ix.toInt) (ix_hi : ix.toInt ≤ 2) (hb : (I (ad g 4) 0).toInt ≤ 3) : SP g mX3_faultOfNumber [.ref (ad g 3), .int pa, .int cz, .int ix, .ref (ad g 27)] I J R (fun r I' J' R' => (XI g n L I' ∧ R' = R ∧ True ∧ I' (ad g 4) 0 = I (ad g 4) 0 ∧ I' (ad g 4) 1 = I (ad g 4) 1 ∧ I' (ad g 27) 1 = I (ad g 27) 1 ∧ I' (ad g 27) 2 = I (ad g 27) 2) ∧ ∃ v : Int32, r = some (.int v) ∧ 0 ≤ v.toInt ∧ v.toInt ≤ 5 ∧ (v.toInt = 0 → (I' (ad g 4) 2).toInt ≤ 6)) := by
  refine SP_of ⟨by decide, rfl⟩ (Nat.le_of_ble_eq_true rfl) ?_
  have e6762 : I (ad g 1) 1 = L := hI.2
  have b6763 := BT_get hI.1 1 1 2 (0) (0) (900) (by decide) 1 (by decide) (by decide)
  rw [e6762] at b6763
  obtain ⟨w6764, ew6764⟩ : ∃ w : Int32, I (ad g 4) 0 = w := ⟨_, rfl⟩
  have bw6764 := BT_get hI.1 4 0 5 (0) (0) (1000) (by decide) 0 (by decide) (by decide)
  rw [ew6764] at bw6764
  obtain ⟨w6765, ew6765⟩ : ∃ w : Int32, I (ad g 4) 1 = w := ⟨_, rfl⟩
  have bw6765 := BT_get hI.1 4 0 5 (0) (0) (1000) (by decide) 1 (by decide) (by decide)
  rw [ew6765] at bw6765
  obtain ⟨w6766, ew6766⟩ : ∃ w : Int32, I (ad g 27) 1 = w := ⟨_, rfl⟩
  have bw6766 := BT_get hI.1 27 1 2 (0) (0) (4) (by decide) 1 (by decide) (by decide)
  rw [ew6766] at bw6766
  obtain ⟨w6767, ew6767⟩ : ∃ w : Int32, I (ad g 27) 2 = w := ⟨_, rfl⟩
  have bw6767 := BT_get hI.1 27 2 3 (0) (0) (3) (by decide) 2 (by decide) (by decide)
  rw [ew6767] at bw6767
  rw [ew6764] at hb
  refine WP_aload_n dX3_faultOfNumber_0 rfl ?_
  refine WP_getr dX3_faultOfNumber_1 fX3_15 rfl (lyx_is hy 3 3 rfl) (rfx hr 3 2 1 (by decide)) ?_
  refine WQ_getiu dX3_faultOfNumber_4 fX3_118 rfl (lyx_is hy 1 5 rfl) (fun v6768 ev6768 => ?_)
  refine WP_istore (ls' := [(0, _), (1, _), (2, _), (3, _), (4, _), (5, _)]) dX3_faultOfNumber_7 (by decide) rfl ?_
  refine WP_iload dX3_faultOfNumber_9 rfl ?_
  refine WP_iload_n dX3_faultOfNumber_11 rfl ?_
  refine WP_callS1 dX3_faultOfNumber_12 ⟨⟨⟨by decide, by decide⟩, zX3_leastOf⟩, lX3_121, tX3_leastOf⟩ (sx_leastOf hy hr hI pa ) (Nat.le_of_ble_eq_true rfl) ?_
  intro r Ia Ja Ra hq
  obtain ⟨⟨ea, eb, ec⟩, v6769, rfl, av6769, bv6769⟩ := hq
  show WP _ _ _ _ (.int _ :: _) _ _ _ _
  rw [ea, eb, ec]
  clear ea eb ec Ia Ja Ra
  refine WQ_icmp_lt 27 dX3_faultOfNumber_15 rfl (fun c6769 => ?_) (fun c6769 => ?_)
  · refine WQ_iconst (2) (2) dX3_faultOfNumber_27 rfl rfl (fun v6771 hv6771 => ?_)
    obtain ⟨w6772, ew6772⟩ : ∃ w : Int32, I (ad g 4) 2 = w := ⟨_, rfl⟩
    have bw6772 := BT_get hI.1 4 0 5 (0) (0) (1000) (by decide) 2 (by decide) (by decide)
    rw [ew6772] at bw6772
    exact WP_iret dX3_faultOfNumber_28 rfl ⟨⟨hI, rfl, ⟨trivial, rfl, rfl, rfl, rfl⟩⟩, _, rfl, by omega, by omega, by (try rw [ew6772]); omega⟩
  · refine WP_iload dX3_faultOfNumber_18 rfl ?_
    refine WP_iload_n dX3_faultOfNumber_20 rfl ?_
    refine WP_callS1 dX3_faultOfNumber_21 ⟨⟨⟨by decide, by decide⟩, zX3_mostOf⟩, lX3_125, tX3_mostOf⟩ (sx_mostOf hy hr hI pa ) (Nat.le_of_ble_eq_true rfl) ?_
    intro r Ia Ja Ra hq
    obtain ⟨⟨ea, eb, ec⟩, v6773, rfl, av6773, bv6773, cv6773⟩ := hq
    show WP _ _ _ _ (.int _ :: _) _ _ _ _
    rw [ea, eb, ec]
    clear ea eb ec Ia Ja Ra
    refine WQ_icmp_le 29 dX3_faultOfNumber_24 rfl (fun c6773 => ?_) (fun c6773 => ?_)
    · refine WP_aload_n dX3_faultOfNumber_29 rfl ?_
      refine WP_getr dX3_faultOfNumber_30 fX3_9 rfl (lyx_is hy 3 3 rfl) (rfx hr 3 3 4 (by decide)) ?_
      refine WP_iload_n dX3_faultOfNumber_33 rfl ?_
      refine WP_iload dX3_faultOfNumber_34 rfl ?_
      refine WQ_iast dX3_faultOfNumber_36 (lyx_is hy 4 13 rfl) (lyx_n hy 4 5 rfl) (by omega) (by omega) (fun I6775 fI6775 => ?_)
      have eI6775 := fI6775
      rw [cl (x := ix) (n := 2) (by omega)] at eI6775
      clear fI6775
      have hI6775 : XI g n L I6775 := by rw [eI6775]; exact (xi_f hy hI (c := 4) (0) (0) (1000) (by decide) (Or.inl (by decide)) (by decide) (by omega) (by omega))
      have e6776 : I6775 (ad g 1) 1 = L := by rw [eI6775, pp_ne _ _ (Or.inl (lyx_ne hy (by decide) (by decide) (by decide)))]; exact e6762
      have e6777 : I6775 (ad g 4) 0 = w6764 := by rw [eI6775, pp_ne _ _ (Or.inr (by decide))]; exact ew6764
      have e6778 : I6775 (ad g 4) 1 = w6765 := by rw [eI6775, pp_ne _ _ (Or.inr (by decide))]; exact ew6765
      have e6779 : I6775 (ad g 27) 1 = w6766 := by rw [eI6775, pp_ne _ _ (Or.inl (lyx_ne hy (by decide) (by decide) (by decide)))]; exact ew6766
      have e6780 : I6775 (ad g 27) 2 = w6767 := by rw [eI6775, pp_ne _ _ (Or.inl (lyx_ne hy (by decide) (by decide) (by decide)))]; exact ew6767
      have e6781 : I6775 (ad g 1) 4 = v6768 := by rw [eI6775, pp_ne _ _ (Or.inl (lyx_ne hy (by decide) (by decide) (by decide)))]; exact ev6768
      have e6782 : I6775 (ad g 4) 2 = v6768 := by rw [eI6775, pp_self]
      clear eI6775
      refine WP_iload_n dX3_faultOfNumber_37 rfl ?_
      refine WQ_bipush (68) (68) dX3_faultOfNumber_38 rfl rfl (fun v6783 hv6783 => ?_)
      refine WQ_icmp_eq 45 dX3_faultOfNumber_40 rfl (fun c6783 => ?_) (fun c6783 => False.elim (by omega))
      refine WP_aload dX3_faultOfNumber_45 rfl ?_
      refine WP_iload_n dX3_faultOfNumber_47 rfl ?_
      refine WP_iload_n dX3_faultOfNumber_48 rfl ?_
      refine WQ_if_ne 56 dX3_faultOfNumber_49 rfl (fun c6784 => ?_) (fun c6784 => False.elim (by omega))
      refine WP_aload_n dX3_faultOfNumber_56 rfl ?_
      refine WP_getr dX3_faultOfNumber_57 fX3_9 rfl (lyx_is hy 3 3 rfl) (rfx hr 3 3 4 (by decide)) ?_
      refine WQ_iconst (0) (0) dX3_faultOfNumber_60 rfl rfl (fun v6786 hv6786 => ?_)
      refine WQ_ialdm (z := 0) dX3_faultOfNumber_61 (lyx_is hy 4 13 rfl) (lyx_n hy 4 5 rfl) hv6786 (by decide) e6777 ?_
      refine WP_iload dX3_faultOfNumber_62 rfl ?_
      refine WP_callV3 (k := 7) dX3_faultOfNumber_64 ⟨⟨⟨by decide, by decide⟩, zX7_isTold⟩, lX3_114, by decide, rfl, vX7_isTold.1, vX7_isTold.2⟩ (lyx_is hy 27 7 rfl) (sx_isTold_27 hy hr hI6775 cz w6764 v6768 (by omega) (by omega) (by omega) (by omega) ) (Nat.le_of_ble_eq_true rfl) ?_
      intro r Ia Ja Ra hq
      obtain ⟨⟨ea, eb, ec⟩, v6788, rfl, av6788, bv6788⟩ := hq
      show WP _ _ _ _ (.int _ :: _) _ _ _ _
      rw [ea, eb, ec]
      clear ea eb ec Ia Ja Ra
      refine WQ_if_eq 74 dX3_faultOfNumber_67 rfl (fun c6788 => ?_) (fun c6788 => ?_)
      · refine WQ_iconst (0) (0) dX3_faultOfNumber_74 rfl rfl (fun v6790 hv6790 => ?_)
        exact WP_iret dX3_faultOfNumber_75 rfl ⟨⟨hI6775, rfl, ⟨trivial, (by rw [e6777, ew6764] <;> exact (eq32 _ _).mpr (by omega)), (by rw [e6778, ew6765] <;> exact (eq32 _ _).mpr (by omega)), (by rw [e6779, ew6766] <;> exact (eq32 _ _).mpr (by omega)), (by rw [e6780, ew6767] <;> exact (eq32 _ _).mpr (by omega))⟩⟩, _, rfl, by omega, by omega, by (try rw [e6782]); omega⟩
      · refine WQ_iconst (3) (3) dX3_faultOfNumber_70 rfl rfl (fun v6791 hv6791 => ?_)
        refine WP_goto 75 dX3_faultOfNumber_71 rfl ?_
        exact WP_iret dX3_faultOfNumber_75 rfl ⟨⟨hI6775, rfl, ⟨trivial, (by rw [e6777, ew6764] <;> exact (eq32 _ _).mpr (by omega)), (by rw [e6778, ew6765] <;> exact (eq32 _ _).mpr (by omega)), (by rw [e6779, ew6766] <;> exact (eq32 _ _).mpr (by omega)), (by rw [e6780, ew6767] <;> exact (eq32 _ _).mpr (by omega))⟩⟩, _, rfl, by omega, by omega, by (try rw [e6782]); omega⟩
    · refine WQ_iconst (2) (2) dX3_faultOfNumber_27 rfl rfl (fun v6792 hv6792 => ?_)
      obtain ⟨w6793, ew6793⟩ : ∃ w : Int32, I (ad g 4) 2 = w := ⟨_, rfl⟩
      have bw6793 := BT_get hI.1 4 0 5 (0) (0) (1000) (by decide) 2 (by decide) (by decide)
      rw [ew6793] at bw6793
      exact WP_iret dX3_faultOfNumber_28 rfl ⟨⟨hI, rfl, ⟨trivial, rfl, rfl, rfl, rfl⟩⟩, _, rfl, by omega, by omega, by (try rw [ew6793]); omega⟩
set_option maxHeartbeats 4000000 in
set_option maxRecDepth 100000 in
theorem sx_part_27_6_3 {g : GG} {n : Int} {L : Int32} (hy : LyX g)  {I : pI} {J : pJ} {R : pR} (hr : RfX g R) (hI : XI g n L I) (pa : Int32) (cz : Int32) (ix : Int32) (pa_lo : 85 ≤ pa.toInt) (pa_hi : pa.toInt ≤ 85) (cz_lo : 6 ≤ cz.toInt) (cz_hi : cz.toInt ≤ 6) (ix_lo : 3 ≤ ix.toInt) (ix_hi : ix.toInt ≤ 3) : SP g mX3_faultOfNumber [.ref (ad g 3), .int pa, .int cz, .int ix, .ref (ad g 27)] I J R (fun r I' J' R' => (XI g n L I' ∧ R' = R ∧ True ∧ I' (ad g 4) 0 = I (ad g 4) 0 ∧ I' (ad g 4) 1 = I (ad g 4) 1 ∧ I' (ad g 4) 2 = I (ad g 4) 2 ∧ I' (ad g 27) 1 = I (ad g 27) 1 ∧ I' (ad g 27) 2 = I (ad g 27) 2) ∧ ∃ v : Int32, r = some (.int v) ∧ 0 ≤ v.toInt ∧ v.toInt ≤ 5 ∧ (v.toInt = 0 → (I' (ad g 4) 3).toInt ≤ 3)) := by
  refine SP_of ⟨by decide, rfl⟩ (Nat.le_of_ble_eq_true rfl) ?_
  have e6794 : I (ad g 1) 1 = L := hI.2
  have b6795 := BT_get hI.1 1 1 2 (0) (0) (900) (by decide) 1 (by decide) (by decide)
  rw [e6794] at b6795
  obtain ⟨w6796, ew6796⟩ : ∃ w : Int32, I (ad g 4) 0 = w := ⟨_, rfl⟩
  have bw6796 := BT_get hI.1 4 0 5 (0) (0) (1000) (by decide) 0 (by decide) (by decide)
  rw [ew6796] at bw6796
  obtain ⟨w6797, ew6797⟩ : ∃ w : Int32, I (ad g 4) 1 = w := ⟨_, rfl⟩
  have bw6797 := BT_get hI.1 4 0 5 (0) (0) (1000) (by decide) 1 (by decide) (by decide)
  rw [ew6797] at bw6797
  obtain ⟨w6798, ew6798⟩ : ∃ w : Int32, I (ad g 4) 2 = w := ⟨_, rfl⟩
  have bw6798 := BT_get hI.1 4 0 5 (0) (0) (1000) (by decide) 2 (by decide) (by decide)
  rw [ew6798] at bw6798
  obtain ⟨w6799, ew6799⟩ : ∃ w : Int32, I (ad g 27) 1 = w := ⟨_, rfl⟩
  have bw6799 := BT_get hI.1 27 1 2 (0) (0) (4) (by decide) 1 (by decide) (by decide)
  rw [ew6799] at bw6799
  obtain ⟨w6800, ew6800⟩ : ∃ w : Int32, I (ad g 27) 2 = w := ⟨_, rfl⟩
  have bw6800 := BT_get hI.1 27 2 3 (0) (0) (3) (by decide) 2 (by decide) (by decide)
  rw [ew6800] at bw6800
  refine WP_aload_n dX3_faultOfNumber_0 rfl ?_
  refine WP_getr dX3_faultOfNumber_1 fX3_15 rfl (lyx_is hy 3 3 rfl) (rfx hr 3 2 1 (by decide)) ?_
  refine WQ_getiu dX3_faultOfNumber_4 fX3_118 rfl (lyx_is hy 1 5 rfl) (fun v6801 ev6801 => ?_)
  refine WP_istore (ls' := [(0, _), (1, _), (2, _), (3, _), (4, _), (5, _)]) dX3_faultOfNumber_7 (by decide) rfl ?_
  refine WP_iload dX3_faultOfNumber_9 rfl ?_
  refine WP_iload_n dX3_faultOfNumber_11 rfl ?_
  refine WP_callS1 dX3_faultOfNumber_12 ⟨⟨⟨by decide, by decide⟩, zX3_leastOf⟩, lX3_121, tX3_leastOf⟩ (sx_leastOf hy hr hI pa ) (Nat.le_of_ble_eq_true rfl) ?_
  intro r Ia Ja Ra hq
  obtain ⟨⟨ea, eb, ec⟩, v6802, rfl, av6802, bv6802⟩ := hq
  show WP _ _ _ _ (.int _ :: _) _ _ _ _
  rw [ea, eb, ec]
  clear ea eb ec Ia Ja Ra
  refine WQ_icmp_lt 27 dX3_faultOfNumber_15 rfl (fun c6802 => ?_) (fun c6802 => ?_)
  · refine WQ_iconst (2) (2) dX3_faultOfNumber_27 rfl rfl (fun v6804 hv6804 => ?_)
    obtain ⟨w6805, ew6805⟩ : ∃ w : Int32, I (ad g 4) 3 = w := ⟨_, rfl⟩
    have bw6805 := BT_get hI.1 4 0 5 (0) (0) (1000) (by decide) 3 (by decide) (by decide)
    rw [ew6805] at bw6805
    exact WP_iret dX3_faultOfNumber_28 rfl ⟨⟨hI, rfl, ⟨trivial, rfl, rfl, rfl, rfl, rfl⟩⟩, _, rfl, by omega, by omega, by (try rw [ew6805]); omega⟩
  · refine WP_iload dX3_faultOfNumber_18 rfl ?_
    refine WP_iload_n dX3_faultOfNumber_20 rfl ?_
    refine WP_callS1 dX3_faultOfNumber_21 ⟨⟨⟨by decide, by decide⟩, zX3_mostOf⟩, lX3_125, tX3_mostOf⟩ (sx_mostOf hy hr hI pa ) (Nat.le_of_ble_eq_true rfl) ?_
    intro r Ia Ja Ra hq
    obtain ⟨⟨ea, eb, ec⟩, v6806, rfl, av6806, bv6806, cv6806⟩ := hq
    show WP _ _ _ _ (.int _ :: _) _ _ _ _
    rw [ea, eb, ec]
    clear ea eb ec Ia Ja Ra
    refine WQ_icmp_le 29 dX3_faultOfNumber_24 rfl (fun c6806 => ?_) (fun c6806 => ?_)
    · refine WP_aload_n dX3_faultOfNumber_29 rfl ?_
      refine WP_getr dX3_faultOfNumber_30 fX3_9 rfl (lyx_is hy 3 3 rfl) (rfx hr 3 3 4 (by decide)) ?_
      refine WP_iload_n dX3_faultOfNumber_33 rfl ?_
      refine WP_iload dX3_faultOfNumber_34 rfl ?_
      refine WQ_iast dX3_faultOfNumber_36 (lyx_is hy 4 13 rfl) (lyx_n hy 4 5 rfl) (by omega) (by omega) (fun I6808 fI6808 => ?_)
      have eI6808 := fI6808
      rw [cl (x := ix) (n := 3) (by omega)] at eI6808
      clear fI6808
      have hI6808 : XI g n L I6808 := by rw [eI6808]; exact (xi_f hy hI (c := 4) (0) (0) (1000) (by decide) (Or.inl (by decide)) (by decide) (by omega) (by omega))
      have e6809 : I6808 (ad g 1) 1 = L := by rw [eI6808, pp_ne _ _ (Or.inl (lyx_ne hy (by decide) (by decide) (by decide)))]; exact e6794
      have e6810 : I6808 (ad g 4) 0 = w6796 := by rw [eI6808, pp_ne _ _ (Or.inr (by decide))]; exact ew6796
      have e6811 : I6808 (ad g 4) 1 = w6797 := by rw [eI6808, pp_ne _ _ (Or.inr (by decide))]; exact ew6797
      have e6812 : I6808 (ad g 4) 2 = w6798 := by rw [eI6808, pp_ne _ _ (Or.inr (by decide))]; exact ew6798
      have e6813 : I6808 (ad g 27) 1 = w6799 := by rw [eI6808, pp_ne _ _ (Or.inl (lyx_ne hy (by decide) (by decide) (by decide)))]; exact ew6799
      have e6814 : I6808 (ad g 27) 2 = w6800 := by rw [eI6808, pp_ne _ _ (Or.inl (lyx_ne hy (by decide) (by decide) (by decide)))]; exact ew6800
      have e6815 : I6808 (ad g 1) 4 = v6801 := by rw [eI6808, pp_ne _ _ (Or.inl (lyx_ne hy (by decide) (by decide) (by decide)))]; exact ev6801
      have e6816 : I6808 (ad g 4) 3 = v6801 := by rw [eI6808, pp_self]
      clear eI6808
      refine WP_iload_n dX3_faultOfNumber_37 rfl ?_
      refine WQ_bipush (68) (68) dX3_faultOfNumber_38 rfl rfl (fun v6817 hv6817 => ?_)
      refine WQ_icmp_eq 45 dX3_faultOfNumber_40 rfl (fun c6817 => False.elim (by omega)) (fun c6817 => ?_)
      refine WQ_iconst (0) (0) dX3_faultOfNumber_43 rfl rfl (fun v6819 hv6819 => ?_)
      exact WP_iret dX3_faultOfNumber_44 rfl ⟨⟨hI6808, rfl, ⟨trivial, (by rw [e6810, ew6796] <;> exact (eq32 _ _).mpr (by omega)), (by rw [e6811, ew6797] <;> exact (eq32 _ _).mpr (by omega)), (by rw [e6812, ew6798] <;> exact (eq32 _ _).mpr (by omega)), (by rw [e6813, ew6799] <;> exact (eq32 _ _).mpr (by omega)), (by rw [e6814, ew6800] <;> exact (eq32 _ _).mpr (by omega))⟩⟩, _, rfl, by omega, by omega, by (try rw [e6816]); omega⟩
    · refine WQ_iconst (2) (2) dX3_faultOfNumber_27 rfl rfl (fun v6820 hv6820 => ?_)
      obtain ⟨w6821, ew6821⟩ : ∃ w : Int32, I (ad g 4) 3 = w := ⟨_, rfl⟩
      have bw6821 := BT_get hI.1 4 0 5 (0) (0) (1000) (by decide) 3 (by decide) (by decide)
      rw [ew6821] at bw6821
      exact WP_iret dX3_faultOfNumber_28 rfl ⟨⟨hI, rfl, ⟨trivial, rfl, rfl, rfl, rfl, rfl⟩⟩, _, rfl, by omega, by omega, by (try rw [ew6821]); omega⟩
set_option maxHeartbeats 4000000 in
set_option maxRecDepth 100000 in
theorem sx_part_27_6_4 {g : GG} {n : Int} {L : Int32} (hy : LyX g)  {I : pI} {J : pJ} {R : pR} (hr : RfX g R) (hI : XI g n L I) (pa : Int32) (cz : Int32) (ix : Int32) (pa_lo : 86 ≤ pa.toInt) (pa_hi : pa.toInt ≤ 86) (cz_lo : 6 ≤ cz.toInt) (cz_hi : cz.toInt ≤ 6) (ix_lo : 4 ≤ ix.toInt) (ix_hi : ix.toInt ≤ 4) : SP g mX3_faultOfNumber [.ref (ad g 3), .int pa, .int cz, .int ix, .ref (ad g 27)] I J R (fun r I' J' R' => (XI g n L I' ∧ R' = R ∧ True ∧ I' (ad g 4) 0 = I (ad g 4) 0 ∧ I' (ad g 4) 1 = I (ad g 4) 1 ∧ I' (ad g 4) 2 = I (ad g 4) 2 ∧ I' (ad g 4) 3 = I (ad g 4) 3 ∧ I' (ad g 27) 1 = I (ad g 27) 1 ∧ I' (ad g 27) 2 = I (ad g 27) 2) ∧ ∃ v : Int32, r = some (.int v) ∧ 0 ≤ v.toInt ∧ v.toInt ≤ 5 ∧ (v.toInt = 0 → (I' (ad g 4) 4).toInt ≤ 99)) := by
  refine SP_of ⟨by decide, rfl⟩ (Nat.le_of_ble_eq_true rfl) ?_
  have e6822 : I (ad g 1) 1 = L := hI.2
  have b6823 := BT_get hI.1 1 1 2 (0) (0) (900) (by decide) 1 (by decide) (by decide)
  rw [e6822] at b6823
  obtain ⟨w6824, ew6824⟩ : ∃ w : Int32, I (ad g 4) 0 = w := ⟨_, rfl⟩
  have bw6824 := BT_get hI.1 4 0 5 (0) (0) (1000) (by decide) 0 (by decide) (by decide)
  rw [ew6824] at bw6824
  obtain ⟨w6825, ew6825⟩ : ∃ w : Int32, I (ad g 4) 1 = w := ⟨_, rfl⟩
  have bw6825 := BT_get hI.1 4 0 5 (0) (0) (1000) (by decide) 1 (by decide) (by decide)
  rw [ew6825] at bw6825
  obtain ⟨w6826, ew6826⟩ : ∃ w : Int32, I (ad g 4) 2 = w := ⟨_, rfl⟩
  have bw6826 := BT_get hI.1 4 0 5 (0) (0) (1000) (by decide) 2 (by decide) (by decide)
  rw [ew6826] at bw6826
  obtain ⟨w6827, ew6827⟩ : ∃ w : Int32, I (ad g 4) 3 = w := ⟨_, rfl⟩
  have bw6827 := BT_get hI.1 4 0 5 (0) (0) (1000) (by decide) 3 (by decide) (by decide)
  rw [ew6827] at bw6827
  obtain ⟨w6828, ew6828⟩ : ∃ w : Int32, I (ad g 27) 1 = w := ⟨_, rfl⟩
  have bw6828 := BT_get hI.1 27 1 2 (0) (0) (4) (by decide) 1 (by decide) (by decide)
  rw [ew6828] at bw6828
  obtain ⟨w6829, ew6829⟩ : ∃ w : Int32, I (ad g 27) 2 = w := ⟨_, rfl⟩
  have bw6829 := BT_get hI.1 27 2 3 (0) (0) (3) (by decide) 2 (by decide) (by decide)
  rw [ew6829] at bw6829
  refine WP_aload_n dX3_faultOfNumber_0 rfl ?_
  refine WP_getr dX3_faultOfNumber_1 fX3_15 rfl (lyx_is hy 3 3 rfl) (rfx hr 3 2 1 (by decide)) ?_
  refine WQ_getiu dX3_faultOfNumber_4 fX3_118 rfl (lyx_is hy 1 5 rfl) (fun v6830 ev6830 => ?_)
  refine WP_istore (ls' := [(0, _), (1, _), (2, _), (3, _), (4, _), (5, _)]) dX3_faultOfNumber_7 (by decide) rfl ?_
  refine WP_iload dX3_faultOfNumber_9 rfl ?_
  refine WP_iload_n dX3_faultOfNumber_11 rfl ?_
  refine WP_callS1 dX3_faultOfNumber_12 ⟨⟨⟨by decide, by decide⟩, zX3_leastOf⟩, lX3_121, tX3_leastOf⟩ (sx_leastOf hy hr hI pa ) (Nat.le_of_ble_eq_true rfl) ?_
  intro r Ia Ja Ra hq
  obtain ⟨⟨ea, eb, ec⟩, v6831, rfl, av6831, bv6831⟩ := hq
  show WP _ _ _ _ (.int _ :: _) _ _ _ _
  rw [ea, eb, ec]
  clear ea eb ec Ia Ja Ra
  refine WQ_icmp_lt 27 dX3_faultOfNumber_15 rfl (fun c6831 => ?_) (fun c6831 => ?_)
  · refine WQ_iconst (2) (2) dX3_faultOfNumber_27 rfl rfl (fun v6833 hv6833 => ?_)
    obtain ⟨w6834, ew6834⟩ : ∃ w : Int32, I (ad g 4) 4 = w := ⟨_, rfl⟩
    have bw6834 := BT_get hI.1 4 0 5 (0) (0) (1000) (by decide) 4 (by decide) (by decide)
    rw [ew6834] at bw6834
    exact WP_iret dX3_faultOfNumber_28 rfl ⟨⟨hI, rfl, ⟨trivial, rfl, rfl, rfl, rfl, rfl, rfl⟩⟩, _, rfl, by omega, by omega, by (try rw [ew6834]); omega⟩
  · refine WP_iload dX3_faultOfNumber_18 rfl ?_
    refine WP_iload_n dX3_faultOfNumber_20 rfl ?_
    refine WP_callS1 dX3_faultOfNumber_21 ⟨⟨⟨by decide, by decide⟩, zX3_mostOf⟩, lX3_125, tX3_mostOf⟩ (sx_mostOf hy hr hI pa ) (Nat.le_of_ble_eq_true rfl) ?_
    intro r Ia Ja Ra hq
    obtain ⟨⟨ea, eb, ec⟩, v6835, rfl, av6835, bv6835, cv6835⟩ := hq
    show WP _ _ _ _ (.int _ :: _) _ _ _ _
    rw [ea, eb, ec]
    clear ea eb ec Ia Ja Ra
    refine WQ_icmp_le 29 dX3_faultOfNumber_24 rfl (fun c6835 => ?_) (fun c6835 => ?_)
    · refine WP_aload_n dX3_faultOfNumber_29 rfl ?_
      refine WP_getr dX3_faultOfNumber_30 fX3_9 rfl (lyx_is hy 3 3 rfl) (rfx hr 3 3 4 (by decide)) ?_
      refine WP_iload_n dX3_faultOfNumber_33 rfl ?_
      refine WP_iload dX3_faultOfNumber_34 rfl ?_
      refine WQ_iast dX3_faultOfNumber_36 (lyx_is hy 4 13 rfl) (lyx_n hy 4 5 rfl) (by omega) (by omega) (fun I6837 fI6837 => ?_)
      have eI6837 := fI6837
      rw [cl (x := ix) (n := 4) (by omega)] at eI6837
      clear fI6837
      have hI6837 : XI g n L I6837 := by rw [eI6837]; exact (xi_f hy hI (c := 4) (0) (0) (1000) (by decide) (Or.inl (by decide)) (by decide) (by omega) (by omega))
      have e6838 : I6837 (ad g 1) 1 = L := by rw [eI6837, pp_ne _ _ (Or.inl (lyx_ne hy (by decide) (by decide) (by decide)))]; exact e6822
      have e6839 : I6837 (ad g 4) 0 = w6824 := by rw [eI6837, pp_ne _ _ (Or.inr (by decide))]; exact ew6824
      have e6840 : I6837 (ad g 4) 1 = w6825 := by rw [eI6837, pp_ne _ _ (Or.inr (by decide))]; exact ew6825
      have e6841 : I6837 (ad g 4) 2 = w6826 := by rw [eI6837, pp_ne _ _ (Or.inr (by decide))]; exact ew6826
      have e6842 : I6837 (ad g 4) 3 = w6827 := by rw [eI6837, pp_ne _ _ (Or.inr (by decide))]; exact ew6827
      have e6843 : I6837 (ad g 27) 1 = w6828 := by rw [eI6837, pp_ne _ _ (Or.inl (lyx_ne hy (by decide) (by decide) (by decide)))]; exact ew6828
      have e6844 : I6837 (ad g 27) 2 = w6829 := by rw [eI6837, pp_ne _ _ (Or.inl (lyx_ne hy (by decide) (by decide) (by decide)))]; exact ew6829
      have e6845 : I6837 (ad g 1) 4 = v6830 := by rw [eI6837, pp_ne _ _ (Or.inl (lyx_ne hy (by decide) (by decide) (by decide)))]; exact ev6830
      have e6846 : I6837 (ad g 4) 4 = v6830 := by rw [eI6837, pp_self]
      clear eI6837
      refine WP_iload_n dX3_faultOfNumber_37 rfl ?_
      refine WQ_bipush (68) (68) dX3_faultOfNumber_38 rfl rfl (fun v6847 hv6847 => ?_)
      refine WQ_icmp_eq 45 dX3_faultOfNumber_40 rfl (fun c6847 => False.elim (by omega)) (fun c6847 => ?_)
      refine WQ_iconst (0) (0) dX3_faultOfNumber_43 rfl rfl (fun v6849 hv6849 => ?_)
      exact WP_iret dX3_faultOfNumber_44 rfl ⟨⟨hI6837, rfl, ⟨trivial, (by rw [e6839, ew6824] <;> exact (eq32 _ _).mpr (by omega)), (by rw [e6840, ew6825] <;> exact (eq32 _ _).mpr (by omega)), (by rw [e6841, ew6826] <;> exact (eq32 _ _).mpr (by omega)), (by rw [e6842, ew6827] <;> exact (eq32 _ _).mpr (by omega)), (by rw [e6843, ew6828] <;> exact (eq32 _ _).mpr (by omega)), (by rw [e6844, ew6829] <;> exact (eq32 _ _).mpr (by omega))⟩⟩, _, rfl, by omega, by omega, by (try rw [e6846]); omega⟩
    · refine WQ_iconst (2) (2) dX3_faultOfNumber_27 rfl rfl (fun v6850 hv6850 => ?_)
      obtain ⟨w6851, ew6851⟩ : ∃ w : Int32, I (ad g 4) 4 = w := ⟨_, rfl⟩
      have bw6851 := BT_get hI.1 4 0 5 (0) (0) (1000) (by decide) 4 (by decide) (by decide)
      rw [ew6851] at bw6851
      exact WP_iret dX3_faultOfNumber_28 rfl ⟨⟨hI, rfl, ⟨trivial, rfl, rfl, rfl, rfl, rfl, rfl⟩⟩, _, rfl, by omega, by omega, by (try rw [ew6851]); omega⟩
set_option maxHeartbeats 4000000 in
set_option maxRecDepth 100000 in
theorem sx_part_27_7_0 {g : GG} {n : Int} {L : Int32} (hy : LyX g)  {I : pI} {J : pJ} {R : pR} (hr : RfX g R) (hI : XI g n L I) (pa : Int32) (cz : Int32) (ix : Int32) (pa_lo : 115 ≤ pa.toInt) (pa_hi : pa.toInt ≤ 115) (cz_lo : 7 ≤ cz.toInt) (cz_hi : cz.toInt ≤ 7) (ix_lo : 0 ≤ ix.toInt) (ix_hi : ix.toInt ≤ 0) : SP g mX3_faultOfName [.ref (ad g 3), .int pa, .int cz, .int ix, .ref (ad g 27)] I J R (fun r I' J' R' => (XI g n L I' ∧ R' = R ∧ True ∧ I' (ad g 27) 1 = I (ad g 27) 1 ∧ I' (ad g 27) 2 = I (ad g 27) 2) ∧ ∃ v : Int32, r = some (.int v) ∧ 0 ≤ v.toInt ∧ v.toInt ≤ 5 ∧ (v.toInt = 0 → (I' (ad g 4) 0).toInt ≤ 3)) := by
  refine SP_of ⟨by decide, rfl⟩ (Nat.le_of_ble_eq_true rfl) ?_
  have e6852 : I (ad g 1) 1 = L := hI.2
  have b6853 := BT_get hI.1 1 1 2 (0) (0) (900) (by decide) 1 (by decide) (by decide)
  rw [e6852] at b6853
  obtain ⟨w6854, ew6854⟩ : ∃ w : Int32, I (ad g 27) 1 = w := ⟨_, rfl⟩
  have bw6854 := BT_get hI.1 27 1 2 (0) (0) (4) (by decide) 1 (by decide) (by decide)
  rw [ew6854] at bw6854
  obtain ⟨w6855, ew6855⟩ : ∃ w : Int32, I (ad g 27) 2 = w := ⟨_, rfl⟩
  have bw6855 := BT_get hI.1 27 2 3 (0) (0) (3) (by decide) 2 (by decide) (by decide)
  rw [ew6855] at bw6855
  refine WP_iload_n dX3_faultOfName_0 rfl ?_
  refine WQ_bipush (115) (115) dX3_faultOfName_1 rfl rfl (fun v6856 hv6856 => ?_)
  refine WQ_icmp_eq 12 dX3_faultOfName_3 rfl (fun c6856 => ?_) (fun c6856 => False.elim (by omega))
  refine WQ_iconst (1) (1) dX3_faultOfName_12 rfl rfl (fun v6858 hv6858 => ?_)
  refine WP_goto 17 dX3_faultOfName_13 rfl ?_
  refine WP_istore (ls' := [(0, _), (1, _), (2, _), (3, _), (4, _), (5, _)]) dX3_faultOfName_17 (by decide) rfl ?_
  refine WP_iload dX3_faultOfName_19 rfl ?_
  refine WQ_if_eq 39 dX3_faultOfName_21 rfl (fun c6858 => False.elim (by omega)) (fun c6858 => ?_)
  refine WP_aload dX3_faultOfName_24 rfl ?_
  refine WP_aload_n dX3_faultOfName_26 rfl ?_
  refine WP_getr dX3_faultOfName_27 fX3_15 rfl (lyx_is hy 3 3 rfl) (rfx hr 3 2 1 (by decide)) ?_
  refine WQ_getl dX3_faultOfName_30 fX3_80 rfl (lyx_is hy 1 5 rfl) (fun l6860 el6860 => ?_)
  refine WP_callV1 (k := 7) dX3_faultOfName_33 ⟨⟨⟨by decide, by decide⟩, zX7_sortNamed⟩, lX3_103, by decide, rfl, vX7_sortNamed.1, vX7_sortNamed.2⟩ (lyx_is hy 27 7 rfl) (sx_sortNamed_27 hy hr hI l6860 ) (Nat.le_of_ble_eq_true rfl) ?_
  intro r Ia Ja Ra hq
  obtain ⟨⟨ea, eb, ec⟩, v6861, rfl, av6861, bv6861⟩ := hq
  show WP _ _ _ _ (.int _ :: _) _ _ _ _
  rw [ea, eb, ec]
  clear ea eb ec Ia Ja Ra
  refine WP_goto 51 dX3_faultOfName_36 rfl ?_
  refine WP_istore (ls' := [(0, _), (1, _), (2, _), (3, _), (4, _), (5, _), (6, _)]) dX3_faultOfName_51 (by decide) rfl ?_
  refine WP_iload_n dX3_faultOfName_53 rfl ?_
  refine WQ_bipush (110) (110) dX3_faultOfName_54 rfl rfl (fun v6862 hv6862 => ?_)
  refine WQ_icmp_eq 65 dX3_faultOfName_56 rfl (fun c6862 => False.elim (by omega)) (fun c6862 => ?_)
  refine WP_iload_n dX3_faultOfName_59 rfl ?_
  refine WQ_bipush (109) (109) dX3_faultOfName_60 rfl rfl (fun v6864 hv6864 => ?_)
  refine WQ_icmp_ne 98 dX3_faultOfName_62 rfl (fun c6864 => ?_) (fun c6864 => False.elim (by omega))
  refine WP_iload dX3_faultOfName_98 rfl ?_
  refine WQ_iconst (-1) (-1) dX3_faultOfName_100 rfl rfl (fun v6866 hv6866 => ?_)
  refine WQ_icmp_ne 106 dX3_faultOfName_101 rfl (fun c6866 => ?_) (fun c6866 => ?_)
  · refine WP_aload_n dX3_faultOfName_106 rfl ?_
    refine WP_getr dX3_faultOfName_107 fX3_9 rfl (lyx_is hy 3 3 rfl) (rfx hr 3 3 4 (by decide)) ?_
    refine WP_iload_n dX3_faultOfName_110 rfl ?_
    refine WP_iload dX3_faultOfName_111 rfl ?_
    refine WQ_iast dX3_faultOfName_113 (lyx_is hy 4 13 rfl) (lyx_n hy 4 5 rfl) (by omega) (by omega) (fun I6868 fI6868 => ?_)
    have eI6868 := fI6868
    rw [cl (x := ix) (n := 0) (by omega)] at eI6868
    clear fI6868
    have hI6868 : XI g n L I6868 := by rw [eI6868]; exact (xi_f hy hI (c := 4) (0) (0) (1000) (by decide) (Or.inl (by decide)) (by decide) (by omega) (by omega))
    have e6869 : I6868 (ad g 1) 1 = L := by rw [eI6868, pp_ne _ _ (Or.inl (lyx_ne hy (by decide) (by decide) (by decide)))]; exact e6852
    have e6870 : I6868 (ad g 27) 1 = w6854 := by rw [eI6868, pp_ne _ _ (Or.inl (lyx_ne hy (by decide) (by decide) (by decide)))]; exact ew6854
    have e6871 : I6868 (ad g 27) 2 = w6855 := by rw [eI6868, pp_ne _ _ (Or.inl (lyx_ne hy (by decide) (by decide) (by decide)))]; exact ew6855
    have e6872 : I6868 (ad g 4) 0 = v6861 := by rw [eI6868, pp_self]
    clear eI6868
    refine WP_iload_n dX3_faultOfName_114 rfl ?_
    refine WQ_bipush (7) (7) dX3_faultOfName_115 rfl rfl (fun v6873 hv6873 => ?_)
    refine WQ_icmp_ne 137 dX3_faultOfName_117 rfl (fun c6873 => False.elim (by omega)) (fun c6873 => ?_)
    refine WP_aload dX3_faultOfName_120 rfl ?_
    refine WQ_bipush (7) (7) dX3_faultOfName_122 rfl rfl (fun v6875 hv6875 => ?_)
    refine WP_iload dX3_faultOfName_124 rfl ?_
    refine WQ_iconst (0) (0) dX3_faultOfName_126 rfl rfl (fun v6876 hv6876 => ?_)
    refine WP_callV3 (k := 7) dX3_faultOfName_127 ⟨⟨⟨by decide, by decide⟩, zX7_isTold⟩, lX3_114, by decide, rfl, vX7_isTold.1, vX7_isTold.2⟩ (lyx_is hy 27 7 rfl) (sx_isTold_27 hy hr hI6868 v6875 v6861 v6876 (by omega) (by omega) (by omega) (by omega) ) (Nat.le_of_ble_eq_true rfl) ?_
    intro r Ia Ja Ra hq
    obtain ⟨⟨ea, eb, ec⟩, v6877, rfl, av6877, bv6877⟩ := hq
    show WP _ _ _ _ (.int _ :: _) _ _ _ _
    rw [ea, eb, ec]
    clear ea eb ec Ia Ja Ra
    refine WQ_if_eq 137 dX3_faultOfName_130 rfl (fun c6877 => ?_) (fun c6877 => ?_)
    · refine WQ_iconst (0) (0) dX3_faultOfName_137 rfl rfl (fun v6879 hv6879 => ?_)
      exact WP_iret dX3_faultOfName_138 rfl ⟨⟨hI6868, rfl, ⟨trivial, (by rw [e6870, ew6854] <;> exact (eq32 _ _).mpr (by omega)), (by rw [e6871, ew6855] <;> exact (eq32 _ _).mpr (by omega))⟩⟩, _, rfl, by omega, by omega, by (try rw [e6872]); omega⟩
    · refine WQ_iconst (3) (3) dX3_faultOfName_133 rfl rfl (fun v6880 hv6880 => ?_)
      refine WP_goto 138 dX3_faultOfName_134 rfl ?_
      exact WP_iret dX3_faultOfName_138 rfl ⟨⟨hI6868, rfl, ⟨trivial, (by rw [e6870, ew6854] <;> exact (eq32 _ _).mpr (by omega)), (by rw [e6871, ew6855] <;> exact (eq32 _ _).mpr (by omega))⟩⟩, _, rfl, by omega, by omega, by (try rw [e6872]); omega⟩
  · refine WQ_iconst (5) (5) dX3_faultOfName_104 rfl rfl (fun v6881 hv6881 => ?_)
    obtain ⟨w6882, ew6882⟩ : ∃ w : Int32, I (ad g 4) 0 = w := ⟨_, rfl⟩
    have bw6882 := BT_get hI.1 4 0 5 (0) (0) (1000) (by decide) 0 (by decide) (by decide)
    rw [ew6882] at bw6882
    exact WP_iret dX3_faultOfName_105 rfl ⟨⟨hI, rfl, ⟨trivial, rfl, rfl⟩⟩, _, rfl, by omega, by omega, by (try rw [ew6882]); omega⟩
set_option maxHeartbeats 4000000 in
set_option maxRecDepth 100000 in
theorem sx_part_27_7_1 {g : GG} {n : Int} {L : Int32} (hy : LyX g)  {I : pI} {J : pJ} {R : pR} (hr : RfX g R) (hI : XI g n L I) (pa : Int32) (cz : Int32) (ix : Int32) (pa_lo : 73 ≤ pa.toInt) (pa_hi : pa.toInt ≤ 73) (cz_lo : 7 ≤ cz.toInt) (cz_hi : cz.toInt ≤ 7) (ix_lo : 1 ≤ ix.toInt) (ix_hi : ix.toInt ≤ 1) : SP g mX3_faultOfNumber [.ref (ad g 3), .int pa, .int cz, .int ix, .ref (ad g 27)] I J R (fun r I' J' R' => (XI g n L I' ∧ R' = R ∧ True ∧ I' (ad g 4) 0 = I (ad g 4) 0 ∧ I' (ad g 27) 1 = I (ad g 27) 1 ∧ I' (ad g 27) 2 = I (ad g 27) 2) ∧ ∃ v : Int32, r = some (.int v) ∧ 0 ≤ v.toInt ∧ v.toInt ≤ 5 ∧ (v.toInt = 0 → (I' (ad g 4) 1).toInt ≤ 127)) := by
  refine SP_of ⟨by decide, rfl⟩ (Nat.le_of_ble_eq_true rfl) ?_
  have e6883 : I (ad g 1) 1 = L := hI.2
  have b6884 := BT_get hI.1 1 1 2 (0) (0) (900) (by decide) 1 (by decide) (by decide)
  rw [e6883] at b6884
  obtain ⟨w6885, ew6885⟩ : ∃ w : Int32, I (ad g 4) 0 = w := ⟨_, rfl⟩
  have bw6885 := BT_get hI.1 4 0 5 (0) (0) (1000) (by decide) 0 (by decide) (by decide)
  rw [ew6885] at bw6885
  obtain ⟨w6886, ew6886⟩ : ∃ w : Int32, I (ad g 27) 1 = w := ⟨_, rfl⟩
  have bw6886 := BT_get hI.1 27 1 2 (0) (0) (4) (by decide) 1 (by decide) (by decide)
  rw [ew6886] at bw6886
  obtain ⟨w6887, ew6887⟩ : ∃ w : Int32, I (ad g 27) 2 = w := ⟨_, rfl⟩
  have bw6887 := BT_get hI.1 27 2 3 (0) (0) (3) (by decide) 2 (by decide) (by decide)
  rw [ew6887] at bw6887
  refine WP_aload_n dX3_faultOfNumber_0 rfl ?_
  refine WP_getr dX3_faultOfNumber_1 fX3_15 rfl (lyx_is hy 3 3 rfl) (rfx hr 3 2 1 (by decide)) ?_
  refine WQ_getiu dX3_faultOfNumber_4 fX3_118 rfl (lyx_is hy 1 5 rfl) (fun v6888 ev6888 => ?_)
  refine WP_istore (ls' := [(0, _), (1, _), (2, _), (3, _), (4, _), (5, _)]) dX3_faultOfNumber_7 (by decide) rfl ?_
  refine WP_iload dX3_faultOfNumber_9 rfl ?_
  refine WP_iload_n dX3_faultOfNumber_11 rfl ?_
  refine WP_callS1 dX3_faultOfNumber_12 ⟨⟨⟨by decide, by decide⟩, zX3_leastOf⟩, lX3_121, tX3_leastOf⟩ (sx_leastOf hy hr hI pa ) (Nat.le_of_ble_eq_true rfl) ?_
  intro r Ia Ja Ra hq
  obtain ⟨⟨ea, eb, ec⟩, v6889, rfl, av6889, bv6889⟩ := hq
  show WP _ _ _ _ (.int _ :: _) _ _ _ _
  rw [ea, eb, ec]
  clear ea eb ec Ia Ja Ra
  refine WQ_icmp_lt 27 dX3_faultOfNumber_15 rfl (fun c6889 => ?_) (fun c6889 => ?_)
  · refine WQ_iconst (2) (2) dX3_faultOfNumber_27 rfl rfl (fun v6891 hv6891 => ?_)
    obtain ⟨w6892, ew6892⟩ : ∃ w : Int32, I (ad g 4) 1 = w := ⟨_, rfl⟩
    have bw6892 := BT_get hI.1 4 0 5 (0) (0) (1000) (by decide) 1 (by decide) (by decide)
    rw [ew6892] at bw6892
    exact WP_iret dX3_faultOfNumber_28 rfl ⟨⟨hI, rfl, ⟨trivial, rfl, rfl, rfl⟩⟩, _, rfl, by omega, by omega, by (try rw [ew6892]); omega⟩
  · refine WP_iload dX3_faultOfNumber_18 rfl ?_
    refine WP_iload_n dX3_faultOfNumber_20 rfl ?_
    refine WP_callS1 dX3_faultOfNumber_21 ⟨⟨⟨by decide, by decide⟩, zX3_mostOf⟩, lX3_125, tX3_mostOf⟩ (sx_mostOf hy hr hI pa ) (Nat.le_of_ble_eq_true rfl) ?_
    intro r Ia Ja Ra hq
    obtain ⟨⟨ea, eb, ec⟩, v6893, rfl, av6893, bv6893, cv6893⟩ := hq
    show WP _ _ _ _ (.int _ :: _) _ _ _ _
    rw [ea, eb, ec]
    clear ea eb ec Ia Ja Ra
    refine WQ_icmp_le 29 dX3_faultOfNumber_24 rfl (fun c6893 => ?_) (fun c6893 => ?_)
    · refine WP_aload_n dX3_faultOfNumber_29 rfl ?_
      refine WP_getr dX3_faultOfNumber_30 fX3_9 rfl (lyx_is hy 3 3 rfl) (rfx hr 3 3 4 (by decide)) ?_
      refine WP_iload_n dX3_faultOfNumber_33 rfl ?_
      refine WP_iload dX3_faultOfNumber_34 rfl ?_
      refine WQ_iast dX3_faultOfNumber_36 (lyx_is hy 4 13 rfl) (lyx_n hy 4 5 rfl) (by omega) (by omega) (fun I6895 fI6895 => ?_)
      have eI6895 := fI6895
      rw [cl (x := ix) (n := 1) (by omega)] at eI6895
      clear fI6895
      have hI6895 : XI g n L I6895 := by rw [eI6895]; exact (xi_f hy hI (c := 4) (0) (0) (1000) (by decide) (Or.inl (by decide)) (by decide) (by omega) (by omega))
      have e6896 : I6895 (ad g 1) 1 = L := by rw [eI6895, pp_ne _ _ (Or.inl (lyx_ne hy (by decide) (by decide) (by decide)))]; exact e6883
      have e6897 : I6895 (ad g 4) 0 = w6885 := by rw [eI6895, pp_ne _ _ (Or.inr (by decide))]; exact ew6885
      have e6898 : I6895 (ad g 27) 1 = w6886 := by rw [eI6895, pp_ne _ _ (Or.inl (lyx_ne hy (by decide) (by decide) (by decide)))]; exact ew6886
      have e6899 : I6895 (ad g 27) 2 = w6887 := by rw [eI6895, pp_ne _ _ (Or.inl (lyx_ne hy (by decide) (by decide) (by decide)))]; exact ew6887
      have e6900 : I6895 (ad g 1) 4 = v6888 := by rw [eI6895, pp_ne _ _ (Or.inl (lyx_ne hy (by decide) (by decide) (by decide)))]; exact ev6888
      have e6901 : I6895 (ad g 4) 1 = v6888 := by rw [eI6895, pp_self]
      clear eI6895
      refine WP_iload_n dX3_faultOfNumber_37 rfl ?_
      refine WQ_bipush (68) (68) dX3_faultOfNumber_38 rfl rfl (fun v6902 hv6902 => ?_)
      refine WQ_icmp_eq 45 dX3_faultOfNumber_40 rfl (fun c6902 => False.elim (by omega)) (fun c6902 => ?_)
      refine WQ_iconst (0) (0) dX3_faultOfNumber_43 rfl rfl (fun v6904 hv6904 => ?_)
      exact WP_iret dX3_faultOfNumber_44 rfl ⟨⟨hI6895, rfl, ⟨trivial, (by rw [e6897, ew6885] <;> exact (eq32 _ _).mpr (by omega)), (by rw [e6898, ew6886] <;> exact (eq32 _ _).mpr (by omega)), (by rw [e6899, ew6887] <;> exact (eq32 _ _).mpr (by omega))⟩⟩, _, rfl, by omega, by omega, by (try rw [e6901]); omega⟩
    · refine WQ_iconst (2) (2) dX3_faultOfNumber_27 rfl rfl (fun v6905 hv6905 => ?_)
      obtain ⟨w6906, ew6906⟩ : ∃ w : Int32, I (ad g 4) 1 = w := ⟨_, rfl⟩
      have bw6906 := BT_get hI.1 4 0 5 (0) (0) (1000) (by decide) 1 (by decide) (by decide)
      rw [ew6906] at bw6906
      exact WP_iret dX3_faultOfNumber_28 rfl ⟨⟨hI, rfl, ⟨trivial, rfl, rfl, rfl⟩⟩, _, rfl, by omega, by omega, by (try rw [ew6906]); omega⟩
set_option maxHeartbeats 4000000 in
set_option maxRecDepth 100000 in
theorem sx_part_27_8_0 {g : GG} {n : Int} {L : Int32} (hy : LyX g)  {I : pI} {J : pJ} {R : pR} (hr : RfX g R) (hI : XI g n L I) (pa : Int32) (cz : Int32) (ix : Int32) (pa_lo : 115 ≤ pa.toInt) (pa_hi : pa.toInt ≤ 115) (cz_lo : 8 ≤ cz.toInt) (cz_hi : cz.toInt ≤ 8) (ix_lo : 0 ≤ ix.toInt) (ix_hi : ix.toInt ≤ 0) : SP g mX3_faultOfName [.ref (ad g 3), .int pa, .int cz, .int ix, .ref (ad g 27)] I J R (fun r I' J' R' => (XI g n L I' ∧ R' = R ∧ True ∧ I' (ad g 27) 1 = I (ad g 27) 1 ∧ I' (ad g 27) 2 = I (ad g 27) 2) ∧ ∃ v : Int32, r = some (.int v) ∧ 0 ≤ v.toInt ∧ v.toInt ≤ 5 ∧ (v.toInt = 0 → (I' (ad g 4) 0).toInt ≤ 3)) := by
  refine SP_of ⟨by decide, rfl⟩ (Nat.le_of_ble_eq_true rfl) ?_
  have e6907 : I (ad g 1) 1 = L := hI.2
  have b6908 := BT_get hI.1 1 1 2 (0) (0) (900) (by decide) 1 (by decide) (by decide)
  rw [e6907] at b6908
  obtain ⟨w6909, ew6909⟩ : ∃ w : Int32, I (ad g 27) 1 = w := ⟨_, rfl⟩
  have bw6909 := BT_get hI.1 27 1 2 (0) (0) (4) (by decide) 1 (by decide) (by decide)
  rw [ew6909] at bw6909
  obtain ⟨w6910, ew6910⟩ : ∃ w : Int32, I (ad g 27) 2 = w := ⟨_, rfl⟩
  have bw6910 := BT_get hI.1 27 2 3 (0) (0) (3) (by decide) 2 (by decide) (by decide)
  rw [ew6910] at bw6910
  refine WP_iload_n dX3_faultOfName_0 rfl ?_
  refine WQ_bipush (115) (115) dX3_faultOfName_1 rfl rfl (fun v6911 hv6911 => ?_)
  refine WQ_icmp_eq 12 dX3_faultOfName_3 rfl (fun c6911 => ?_) (fun c6911 => False.elim (by omega))
  refine WQ_iconst (1) (1) dX3_faultOfName_12 rfl rfl (fun v6913 hv6913 => ?_)
  refine WP_goto 17 dX3_faultOfName_13 rfl ?_
  refine WP_istore (ls' := [(0, _), (1, _), (2, _), (3, _), (4, _), (5, _)]) dX3_faultOfName_17 (by decide) rfl ?_
  refine WP_iload dX3_faultOfName_19 rfl ?_
  refine WQ_if_eq 39 dX3_faultOfName_21 rfl (fun c6913 => False.elim (by omega)) (fun c6913 => ?_)
  refine WP_aload dX3_faultOfName_24 rfl ?_
  refine WP_aload_n dX3_faultOfName_26 rfl ?_
  refine WP_getr dX3_faultOfName_27 fX3_15 rfl (lyx_is hy 3 3 rfl) (rfx hr 3 2 1 (by decide)) ?_
  refine WQ_getl dX3_faultOfName_30 fX3_80 rfl (lyx_is hy 1 5 rfl) (fun l6915 el6915 => ?_)
  refine WP_callV1 (k := 7) dX3_faultOfName_33 ⟨⟨⟨by decide, by decide⟩, zX7_sortNamed⟩, lX3_103, by decide, rfl, vX7_sortNamed.1, vX7_sortNamed.2⟩ (lyx_is hy 27 7 rfl) (sx_sortNamed_27 hy hr hI l6915 ) (Nat.le_of_ble_eq_true rfl) ?_
  intro r Ia Ja Ra hq
  obtain ⟨⟨ea, eb, ec⟩, v6916, rfl, av6916, bv6916⟩ := hq
  show WP _ _ _ _ (.int _ :: _) _ _ _ _
  rw [ea, eb, ec]
  clear ea eb ec Ia Ja Ra
  refine WP_goto 51 dX3_faultOfName_36 rfl ?_
  refine WP_istore (ls' := [(0, _), (1, _), (2, _), (3, _), (4, _), (5, _), (6, _)]) dX3_faultOfName_51 (by decide) rfl ?_
  refine WP_iload_n dX3_faultOfName_53 rfl ?_
  refine WQ_bipush (110) (110) dX3_faultOfName_54 rfl rfl (fun v6917 hv6917 => ?_)
  refine WQ_icmp_eq 65 dX3_faultOfName_56 rfl (fun c6917 => False.elim (by omega)) (fun c6917 => ?_)
  refine WP_iload_n dX3_faultOfName_59 rfl ?_
  refine WQ_bipush (109) (109) dX3_faultOfName_60 rfl rfl (fun v6919 hv6919 => ?_)
  refine WQ_icmp_ne 98 dX3_faultOfName_62 rfl (fun c6919 => ?_) (fun c6919 => False.elim (by omega))
  refine WP_iload dX3_faultOfName_98 rfl ?_
  refine WQ_iconst (-1) (-1) dX3_faultOfName_100 rfl rfl (fun v6921 hv6921 => ?_)
  refine WQ_icmp_ne 106 dX3_faultOfName_101 rfl (fun c6921 => ?_) (fun c6921 => ?_)
  · refine WP_aload_n dX3_faultOfName_106 rfl ?_
    refine WP_getr dX3_faultOfName_107 fX3_9 rfl (lyx_is hy 3 3 rfl) (rfx hr 3 3 4 (by decide)) ?_
    refine WP_iload_n dX3_faultOfName_110 rfl ?_
    refine WP_iload dX3_faultOfName_111 rfl ?_
    refine WQ_iast dX3_faultOfName_113 (lyx_is hy 4 13 rfl) (lyx_n hy 4 5 rfl) (by omega) (by omega) (fun I6923 fI6923 => ?_)
    have eI6923 := fI6923
    rw [cl (x := ix) (n := 0) (by omega)] at eI6923
    clear fI6923
    have hI6923 : XI g n L I6923 := by rw [eI6923]; exact (xi_f hy hI (c := 4) (0) (0) (1000) (by decide) (Or.inl (by decide)) (by decide) (by omega) (by omega))
    have e6924 : I6923 (ad g 1) 1 = L := by rw [eI6923, pp_ne _ _ (Or.inl (lyx_ne hy (by decide) (by decide) (by decide)))]; exact e6907
    have e6925 : I6923 (ad g 27) 1 = w6909 := by rw [eI6923, pp_ne _ _ (Or.inl (lyx_ne hy (by decide) (by decide) (by decide)))]; exact ew6909
    have e6926 : I6923 (ad g 27) 2 = w6910 := by rw [eI6923, pp_ne _ _ (Or.inl (lyx_ne hy (by decide) (by decide) (by decide)))]; exact ew6910
    have e6927 : I6923 (ad g 4) 0 = v6916 := by rw [eI6923, pp_self]
    clear eI6923
    refine WP_iload_n dX3_faultOfName_114 rfl ?_
    refine WQ_bipush (7) (7) dX3_faultOfName_115 rfl rfl (fun v6928 hv6928 => ?_)
    refine WQ_icmp_ne 137 dX3_faultOfName_117 rfl (fun c6928 => ?_) (fun c6928 => False.elim (by omega))
    refine WQ_iconst (0) (0) dX3_faultOfName_137 rfl rfl (fun v6930 hv6930 => ?_)
    exact WP_iret dX3_faultOfName_138 rfl ⟨⟨hI6923, rfl, ⟨trivial, (by rw [e6925, ew6909] <;> exact (eq32 _ _).mpr (by omega)), (by rw [e6926, ew6910] <;> exact (eq32 _ _).mpr (by omega))⟩⟩, _, rfl, by omega, by omega, by (try rw [e6927]); omega⟩
  · refine WQ_iconst (5) (5) dX3_faultOfName_104 rfl rfl (fun v6931 hv6931 => ?_)
    obtain ⟨w6932, ew6932⟩ : ∃ w : Int32, I (ad g 4) 0 = w := ⟨_, rfl⟩
    have bw6932 := BT_get hI.1 4 0 5 (0) (0) (1000) (by decide) 0 (by decide) (by decide)
    rw [ew6932] at bw6932
    exact WP_iret dX3_faultOfName_105 rfl ⟨⟨hI, rfl, ⟨trivial, rfl, rfl⟩⟩, _, rfl, by omega, by omega, by (try rw [ew6932]); omega⟩
set_option maxHeartbeats 4000000 in
set_option maxRecDepth 100000 in
theorem sx_part_27_9_0 {g : GG} {n : Int} {L : Int32} (hy : LyX g)  {I : pI} {J : pJ} {R : pR} (hr : RfX g R) (hI : XI g n L I) (pa : Int32) (cz : Int32) (ix : Int32) (pa_lo : 116 ≤ pa.toInt) (pa_hi : pa.toInt ≤ 116) (cz_lo : 9 ≤ cz.toInt) (cz_hi : cz.toInt ≤ 9) (ix_lo : 0 ≤ ix.toInt) (ix_hi : ix.toInt ≤ 0) : SP g mX3_faultOfName [.ref (ad g 3), .int pa, .int cz, .int ix, .ref (ad g 27)] I J R (fun r I' J' R' => (XI g n L I' ∧ R' = R ∧ True ∧ I' (ad g 27) 1 = I (ad g 27) 1 ∧ I' (ad g 27) 2 = I (ad g 27) 2) ∧ ∃ v : Int32, r = some (.int v) ∧ 0 ≤ v.toInt ∧ v.toInt ≤ 5 ∧ (v.toInt = 0 → (I' (ad g 4) 0).toInt ≤ 2)) := by
  refine SP_of ⟨by decide, rfl⟩ (Nat.le_of_ble_eq_true rfl) ?_
  have e6933 : I (ad g 1) 1 = L := hI.2
  have b6934 := BT_get hI.1 1 1 2 (0) (0) (900) (by decide) 1 (by decide) (by decide)
  rw [e6933] at b6934
  obtain ⟨w6935, ew6935⟩ : ∃ w : Int32, I (ad g 27) 1 = w := ⟨_, rfl⟩
  have bw6935 := BT_get hI.1 27 1 2 (0) (0) (4) (by decide) 1 (by decide) (by decide)
  rw [ew6935] at bw6935
  obtain ⟨w6936, ew6936⟩ : ∃ w : Int32, I (ad g 27) 2 = w := ⟨_, rfl⟩
  have bw6936 := BT_get hI.1 27 2 3 (0) (0) (3) (by decide) 2 (by decide) (by decide)
  rw [ew6936] at bw6936
  refine WP_iload_n dX3_faultOfName_0 rfl ?_
  refine WQ_bipush (115) (115) dX3_faultOfName_1 rfl rfl (fun v6937 hv6937 => ?_)
  refine WQ_icmp_eq 12 dX3_faultOfName_3 rfl (fun c6937 => False.elim (by omega)) (fun c6937 => ?_)
  refine WP_iload_n dX3_faultOfName_6 rfl ?_
  refine WQ_bipush (110) (110) dX3_faultOfName_7 rfl rfl (fun v6939 hv6939 => ?_)
  refine WQ_icmp_ne 16 dX3_faultOfName_9 rfl (fun c6939 => ?_) (fun c6939 => False.elim (by omega))
  refine WQ_iconst (0) (0) dX3_faultOfName_16 rfl rfl (fun v6941 hv6941 => ?_)
  refine WP_istore (ls' := [(0, _), (1, _), (2, _), (3, _), (4, _), (5, _)]) dX3_faultOfName_17 (by decide) rfl ?_
  refine WP_iload dX3_faultOfName_19 rfl ?_
  refine WQ_if_eq 39 dX3_faultOfName_21 rfl (fun c6941 => ?_) (fun c6941 => False.elim (by omega))
  refine WP_aload dX3_faultOfName_39 rfl ?_
  refine WP_aload_n dX3_faultOfName_41 rfl ?_
  refine WP_getr dX3_faultOfName_42 fX3_15 rfl (lyx_is hy 3 3 rfl) (rfx hr 3 2 1 (by decide)) ?_
  refine WQ_getl dX3_faultOfName_45 fX3_80 rfl (lyx_is hy 1 5 rfl) (fun l6943 el6943 => ?_)
  refine WP_callV1 (k := 7) dX3_faultOfName_48 ⟨⟨⟨by decide, by decide⟩, zX7_thingNamed⟩, lX3_107, by decide, rfl, vX7_thingNamed.1, vX7_thingNamed.2⟩ (lyx_is hy 27 7 rfl) (sx_thingNamed_27 hy hr hI l6943 ) (Nat.le_of_ble_eq_true rfl) ?_
  intro r Ia Ja Ra hq
  obtain ⟨⟨ea, eb, ec⟩, v6944, rfl, av6944, bv6944⟩ := hq
  show WP _ _ _ _ (.int _ :: _) _ _ _ _
  rw [ea, eb, ec]
  clear ea eb ec Ia Ja Ra
  refine WP_istore (ls' := [(0, _), (1, _), (2, _), (3, _), (4, _), (5, _), (6, _)]) dX3_faultOfName_51 (by decide) rfl ?_
  refine WP_iload_n dX3_faultOfName_53 rfl ?_
  refine WQ_bipush (110) (110) dX3_faultOfName_54 rfl rfl (fun v6945 hv6945 => ?_)
  refine WQ_icmp_eq 65 dX3_faultOfName_56 rfl (fun c6945 => False.elim (by omega)) (fun c6945 => ?_)
  refine WP_iload_n dX3_faultOfName_59 rfl ?_
  refine WQ_bipush (109) (109) dX3_faultOfName_60 rfl rfl (fun v6947 hv6947 => ?_)
  refine WQ_icmp_ne 98 dX3_faultOfName_62 rfl (fun c6947 => ?_) (fun c6947 => False.elim (by omega))
  refine WP_iload dX3_faultOfName_98 rfl ?_
  refine WQ_iconst (-1) (-1) dX3_faultOfName_100 rfl rfl (fun v6949 hv6949 => ?_)
  refine WQ_icmp_ne 106 dX3_faultOfName_101 rfl (fun c6949 => ?_) (fun c6949 => ?_)
  · refine WP_aload_n dX3_faultOfName_106 rfl ?_
    refine WP_getr dX3_faultOfName_107 fX3_9 rfl (lyx_is hy 3 3 rfl) (rfx hr 3 3 4 (by decide)) ?_
    refine WP_iload_n dX3_faultOfName_110 rfl ?_
    refine WP_iload dX3_faultOfName_111 rfl ?_
    refine WQ_iast dX3_faultOfName_113 (lyx_is hy 4 13 rfl) (lyx_n hy 4 5 rfl) (by omega) (by omega) (fun I6951 fI6951 => ?_)
    have eI6951 := fI6951
    rw [cl (x := ix) (n := 0) (by omega)] at eI6951
    clear fI6951
    have hI6951 : XI g n L I6951 := by rw [eI6951]; exact (xi_f hy hI (c := 4) (0) (0) (1000) (by decide) (Or.inl (by decide)) (by decide) (by omega) (by omega))
    have e6952 : I6951 (ad g 1) 1 = L := by rw [eI6951, pp_ne _ _ (Or.inl (lyx_ne hy (by decide) (by decide) (by decide)))]; exact e6933
    have e6953 : I6951 (ad g 27) 1 = w6935 := by rw [eI6951, pp_ne _ _ (Or.inl (lyx_ne hy (by decide) (by decide) (by decide)))]; exact ew6935
    have e6954 : I6951 (ad g 27) 2 = w6936 := by rw [eI6951, pp_ne _ _ (Or.inl (lyx_ne hy (by decide) (by decide) (by decide)))]; exact ew6936
    have e6955 : I6951 (ad g 4) 0 = v6944 := by rw [eI6951, pp_self]
    clear eI6951
    refine WP_iload_n dX3_faultOfName_114 rfl ?_
    refine WQ_bipush (7) (7) dX3_faultOfName_115 rfl rfl (fun v6956 hv6956 => ?_)
    refine WQ_icmp_ne 137 dX3_faultOfName_117 rfl (fun c6956 => ?_) (fun c6956 => False.elim (by omega))
    refine WQ_iconst (0) (0) dX3_faultOfName_137 rfl rfl (fun v6958 hv6958 => ?_)
    exact WP_iret dX3_faultOfName_138 rfl ⟨⟨hI6951, rfl, ⟨trivial, (by rw [e6953, ew6935] <;> exact (eq32 _ _).mpr (by omega)), (by rw [e6954, ew6936] <;> exact (eq32 _ _).mpr (by omega))⟩⟩, _, rfl, by omega, by omega, by (try rw [e6955]); omega⟩
  · refine WQ_iconst (5) (5) dX3_faultOfName_104 rfl rfl (fun v6959 hv6959 => ?_)
    obtain ⟨w6960, ew6960⟩ : ∃ w : Int32, I (ad g 4) 0 = w := ⟨_, rfl⟩
    have bw6960 := BT_get hI.1 4 0 5 (0) (0) (1000) (by decide) 0 (by decide) (by decide)
    rw [ew6960] at bw6960
    exact WP_iret dX3_faultOfName_105 rfl ⟨⟨hI, rfl, ⟨trivial, rfl, rfl⟩⟩, _, rfl, by omega, by omega, by (try rw [ew6960]); omega⟩
set_option maxHeartbeats 4000000 in
set_option maxRecDepth 100000 in
theorem sx_part_27_10_0 {g : GG} {n : Int} {L : Int32} (hy : LyX g)  {I : pI} {J : pJ} {R : pR} (hr : RfX g R) (hI : XI g n L I) (pa : Int32) (cz : Int32) (ix : Int32) (pa_lo : 115 ≤ pa.toInt) (pa_hi : pa.toInt ≤ 115) (cz_lo : 10 ≤ cz.toInt) (cz_hi : cz.toInt ≤ 10) (ix_lo : 0 ≤ ix.toInt) (ix_hi : ix.toInt ≤ 0) : SP g mX3_faultOfName [.ref (ad g 3), .int pa, .int cz, .int ix, .ref (ad g 27)] I J R (fun r I' J' R' => (XI g n L I' ∧ R' = R ∧ True ∧ I' (ad g 27) 1 = I (ad g 27) 1 ∧ I' (ad g 27) 2 = I (ad g 27) 2) ∧ ∃ v : Int32, r = some (.int v) ∧ 0 ≤ v.toInt ∧ v.toInt ≤ 5 ∧ (v.toInt = 0 → (I' (ad g 4) 0).toInt ≤ 3)) := by
  refine SP_of ⟨by decide, rfl⟩ (Nat.le_of_ble_eq_true rfl) ?_
  have e6961 : I (ad g 1) 1 = L := hI.2
  have b6962 := BT_get hI.1 1 1 2 (0) (0) (900) (by decide) 1 (by decide) (by decide)
  rw [e6961] at b6962
  obtain ⟨w6963, ew6963⟩ : ∃ w : Int32, I (ad g 27) 1 = w := ⟨_, rfl⟩
  have bw6963 := BT_get hI.1 27 1 2 (0) (0) (4) (by decide) 1 (by decide) (by decide)
  rw [ew6963] at bw6963
  obtain ⟨w6964, ew6964⟩ : ∃ w : Int32, I (ad g 27) 2 = w := ⟨_, rfl⟩
  have bw6964 := BT_get hI.1 27 2 3 (0) (0) (3) (by decide) 2 (by decide) (by decide)
  rw [ew6964] at bw6964
  refine WP_iload_n dX3_faultOfName_0 rfl ?_
  refine WQ_bipush (115) (115) dX3_faultOfName_1 rfl rfl (fun v6965 hv6965 => ?_)
  refine WQ_icmp_eq 12 dX3_faultOfName_3 rfl (fun c6965 => ?_) (fun c6965 => False.elim (by omega))
  refine WQ_iconst (1) (1) dX3_faultOfName_12 rfl rfl (fun v6967 hv6967 => ?_)
  refine WP_goto 17 dX3_faultOfName_13 rfl ?_
  refine WP_istore (ls' := [(0, _), (1, _), (2, _), (3, _), (4, _), (5, _)]) dX3_faultOfName_17 (by decide) rfl ?_
  refine WP_iload dX3_faultOfName_19 rfl ?_
  refine WQ_if_eq 39 dX3_faultOfName_21 rfl (fun c6967 => False.elim (by omega)) (fun c6967 => ?_)
  refine WP_aload dX3_faultOfName_24 rfl ?_
  refine WP_aload_n dX3_faultOfName_26 rfl ?_
  refine WP_getr dX3_faultOfName_27 fX3_15 rfl (lyx_is hy 3 3 rfl) (rfx hr 3 2 1 (by decide)) ?_
  refine WQ_getl dX3_faultOfName_30 fX3_80 rfl (lyx_is hy 1 5 rfl) (fun l6969 el6969 => ?_)
  refine WP_callV1 (k := 7) dX3_faultOfName_33 ⟨⟨⟨by decide, by decide⟩, zX7_sortNamed⟩, lX3_103, by decide, rfl, vX7_sortNamed.1, vX7_sortNamed.2⟩ (lyx_is hy 27 7 rfl) (sx_sortNamed_27 hy hr hI l6969 ) (Nat.le_of_ble_eq_true rfl) ?_
  intro r Ia Ja Ra hq
  obtain ⟨⟨ea, eb, ec⟩, v6970, rfl, av6970, bv6970⟩ := hq
  show WP _ _ _ _ (.int _ :: _) _ _ _ _
  rw [ea, eb, ec]
  clear ea eb ec Ia Ja Ra
  refine WP_goto 51 dX3_faultOfName_36 rfl ?_
  refine WP_istore (ls' := [(0, _), (1, _), (2, _), (3, _), (4, _), (5, _), (6, _)]) dX3_faultOfName_51 (by decide) rfl ?_
  refine WP_iload_n dX3_faultOfName_53 rfl ?_
  refine WQ_bipush (110) (110) dX3_faultOfName_54 rfl rfl (fun v6971 hv6971 => ?_)
  refine WQ_icmp_eq 65 dX3_faultOfName_56 rfl (fun c6971 => False.elim (by omega)) (fun c6971 => ?_)
  refine WP_iload_n dX3_faultOfName_59 rfl ?_
  refine WQ_bipush (109) (109) dX3_faultOfName_60 rfl rfl (fun v6973 hv6973 => ?_)
  refine WQ_icmp_ne 98 dX3_faultOfName_62 rfl (fun c6973 => ?_) (fun c6973 => False.elim (by omega))
  refine WP_iload dX3_faultOfName_98 rfl ?_
  refine WQ_iconst (-1) (-1) dX3_faultOfName_100 rfl rfl (fun v6975 hv6975 => ?_)
  refine WQ_icmp_ne 106 dX3_faultOfName_101 rfl (fun c6975 => ?_) (fun c6975 => ?_)
  · refine WP_aload_n dX3_faultOfName_106 rfl ?_
    refine WP_getr dX3_faultOfName_107 fX3_9 rfl (lyx_is hy 3 3 rfl) (rfx hr 3 3 4 (by decide)) ?_
    refine WP_iload_n dX3_faultOfName_110 rfl ?_
    refine WP_iload dX3_faultOfName_111 rfl ?_
    refine WQ_iast dX3_faultOfName_113 (lyx_is hy 4 13 rfl) (lyx_n hy 4 5 rfl) (by omega) (by omega) (fun I6977 fI6977 => ?_)
    have eI6977 := fI6977
    rw [cl (x := ix) (n := 0) (by omega)] at eI6977
    clear fI6977
    have hI6977 : XI g n L I6977 := by rw [eI6977]; exact (xi_f hy hI (c := 4) (0) (0) (1000) (by decide) (Or.inl (by decide)) (by decide) (by omega) (by omega))
    have e6978 : I6977 (ad g 1) 1 = L := by rw [eI6977, pp_ne _ _ (Or.inl (lyx_ne hy (by decide) (by decide) (by decide)))]; exact e6961
    have e6979 : I6977 (ad g 27) 1 = w6963 := by rw [eI6977, pp_ne _ _ (Or.inl (lyx_ne hy (by decide) (by decide) (by decide)))]; exact ew6963
    have e6980 : I6977 (ad g 27) 2 = w6964 := by rw [eI6977, pp_ne _ _ (Or.inl (lyx_ne hy (by decide) (by decide) (by decide)))]; exact ew6964
    have e6981 : I6977 (ad g 4) 0 = v6970 := by rw [eI6977, pp_self]
    clear eI6977
    refine WP_iload_n dX3_faultOfName_114 rfl ?_
    refine WQ_bipush (7) (7) dX3_faultOfName_115 rfl rfl (fun v6982 hv6982 => ?_)
    refine WQ_icmp_ne 137 dX3_faultOfName_117 rfl (fun c6982 => ?_) (fun c6982 => False.elim (by omega))
    refine WQ_iconst (0) (0) dX3_faultOfName_137 rfl rfl (fun v6984 hv6984 => ?_)
    exact WP_iret dX3_faultOfName_138 rfl ⟨⟨hI6977, rfl, ⟨trivial, (by rw [e6979, ew6963] <;> exact (eq32 _ _).mpr (by omega)), (by rw [e6980, ew6964] <;> exact (eq32 _ _).mpr (by omega))⟩⟩, _, rfl, by omega, by omega, by (try rw [e6981]); omega⟩
  · refine WQ_iconst (5) (5) dX3_faultOfName_104 rfl rfl (fun v6985 hv6985 => ?_)
    obtain ⟨w6986, ew6986⟩ : ∃ w : Int32, I (ad g 4) 0 = w := ⟨_, rfl⟩
    have bw6986 := BT_get hI.1 4 0 5 (0) (0) (1000) (by decide) 0 (by decide) (by decide)
    rw [ew6986] at bw6986
    exact WP_iret dX3_faultOfName_105 rfl ⟨⟨hI, rfl, ⟨trivial, rfl, rfl⟩⟩, _, rfl, by omega, by omega, by (try rw [ew6986]); omega⟩
set_option maxHeartbeats 4000000 in
set_option maxRecDepth 100000 in
theorem sx_part_27_10_1 {g : GG} {n : Int} {L : Int32} (hy : LyX g)  {I : pI} {J : pJ} {R : pR} (hr : RfX g R) (hI : XI g n L I) (pa : Int32) (cz : Int32) (ix : Int32) (pa_lo : 116 ≤ pa.toInt) (pa_hi : pa.toInt ≤ 116) (cz_lo : 10 ≤ cz.toInt) (cz_hi : cz.toInt ≤ 10) (ix_lo : 1 ≤ ix.toInt) (ix_hi : ix.toInt ≤ 1) : SP g mX3_faultOfName [.ref (ad g 3), .int pa, .int cz, .int ix, .ref (ad g 27)] I J R (fun r I' J' R' => (XI g n L I' ∧ R' = R ∧ True ∧ I' (ad g 4) 0 = I (ad g 4) 0 ∧ I' (ad g 27) 1 = I (ad g 27) 1 ∧ I' (ad g 27) 2 = I (ad g 27) 2) ∧ ∃ v : Int32, r = some (.int v) ∧ 0 ≤ v.toInt ∧ v.toInt ≤ 5 ∧ (v.toInt = 0 → (I' (ad g 4) 1).toInt ≤ 2)) := by
  refine SP_of ⟨by decide, rfl⟩ (Nat.le_of_ble_eq_true rfl) ?_
  have e6987 : I (ad g 1) 1 = L := hI.2
  have b6988 := BT_get hI.1 1 1 2 (0) (0) (900) (by decide) 1 (by decide) (by decide)
  rw [e6987] at b6988
  obtain ⟨w6989, ew6989⟩ : ∃ w : Int32, I (ad g 4) 0 = w := ⟨_, rfl⟩
  have bw6989 := BT_get hI.1 4 0 5 (0) (0) (1000) (by decide) 0 (by decide) (by decide)
  rw [ew6989] at bw6989
  obtain ⟨w6990, ew6990⟩ : ∃ w : Int32, I (ad g 27) 1 = w := ⟨_, rfl⟩
  have bw6990 := BT_get hI.1 27 1 2 (0) (0) (4) (by decide) 1 (by decide) (by decide)
  rw [ew6990] at bw6990
  obtain ⟨w6991, ew6991⟩ : ∃ w : Int32, I (ad g 27) 2 = w := ⟨_, rfl⟩
  have bw6991 := BT_get hI.1 27 2 3 (0) (0) (3) (by decide) 2 (by decide) (by decide)
  rw [ew6991] at bw6991
  refine WP_iload_n dX3_faultOfName_0 rfl ?_
  refine WQ_bipush (115) (115) dX3_faultOfName_1 rfl rfl (fun v6992 hv6992 => ?_)
  refine WQ_icmp_eq 12 dX3_faultOfName_3 rfl (fun c6992 => False.elim (by omega)) (fun c6992 => ?_)
  refine WP_iload_n dX3_faultOfName_6 rfl ?_
  refine WQ_bipush (110) (110) dX3_faultOfName_7 rfl rfl (fun v6994 hv6994 => ?_)
  refine WQ_icmp_ne 16 dX3_faultOfName_9 rfl (fun c6994 => ?_) (fun c6994 => False.elim (by omega))
  refine WQ_iconst (0) (0) dX3_faultOfName_16 rfl rfl (fun v6996 hv6996 => ?_)
  refine WP_istore (ls' := [(0, _), (1, _), (2, _), (3, _), (4, _), (5, _)]) dX3_faultOfName_17 (by decide) rfl ?_
  refine WP_iload dX3_faultOfName_19 rfl ?_
  refine WQ_if_eq 39 dX3_faultOfName_21 rfl (fun c6996 => ?_) (fun c6996 => False.elim (by omega))
  refine WP_aload dX3_faultOfName_39 rfl ?_
  refine WP_aload_n dX3_faultOfName_41 rfl ?_
  refine WP_getr dX3_faultOfName_42 fX3_15 rfl (lyx_is hy 3 3 rfl) (rfx hr 3 2 1 (by decide)) ?_
  refine WQ_getl dX3_faultOfName_45 fX3_80 rfl (lyx_is hy 1 5 rfl) (fun l6998 el6998 => ?_)
  refine WP_callV1 (k := 7) dX3_faultOfName_48 ⟨⟨⟨by decide, by decide⟩, zX7_thingNamed⟩, lX3_107, by decide, rfl, vX7_thingNamed.1, vX7_thingNamed.2⟩ (lyx_is hy 27 7 rfl) (sx_thingNamed_27 hy hr hI l6998 ) (Nat.le_of_ble_eq_true rfl) ?_
  intro r Ia Ja Ra hq
  obtain ⟨⟨ea, eb, ec⟩, v6999, rfl, av6999, bv6999⟩ := hq
  show WP _ _ _ _ (.int _ :: _) _ _ _ _
  rw [ea, eb, ec]
  clear ea eb ec Ia Ja Ra
  refine WP_istore (ls' := [(0, _), (1, _), (2, _), (3, _), (4, _), (5, _), (6, _)]) dX3_faultOfName_51 (by decide) rfl ?_
  refine WP_iload_n dX3_faultOfName_53 rfl ?_
  refine WQ_bipush (110) (110) dX3_faultOfName_54 rfl rfl (fun v7000 hv7000 => ?_)
  refine WQ_icmp_eq 65 dX3_faultOfName_56 rfl (fun c7000 => False.elim (by omega)) (fun c7000 => ?_)
  refine WP_iload_n dX3_faultOfName_59 rfl ?_
  refine WQ_bipush (109) (109) dX3_faultOfName_60 rfl rfl (fun v7002 hv7002 => ?_)
  refine WQ_icmp_ne 98 dX3_faultOfName_62 rfl (fun c7002 => ?_) (fun c7002 => False.elim (by omega))
  refine WP_iload dX3_faultOfName_98 rfl ?_
  refine WQ_iconst (-1) (-1) dX3_faultOfName_100 rfl rfl (fun v7004 hv7004 => ?_)
  refine WQ_icmp_ne 106 dX3_faultOfName_101 rfl (fun c7004 => ?_) (fun c7004 => ?_)
  · refine WP_aload_n dX3_faultOfName_106 rfl ?_
    refine WP_getr dX3_faultOfName_107 fX3_9 rfl (lyx_is hy 3 3 rfl) (rfx hr 3 3 4 (by decide)) ?_
    refine WP_iload_n dX3_faultOfName_110 rfl ?_
    refine WP_iload dX3_faultOfName_111 rfl ?_
    refine WQ_iast dX3_faultOfName_113 (lyx_is hy 4 13 rfl) (lyx_n hy 4 5 rfl) (by omega) (by omega) (fun I7006 fI7006 => ?_)
    have eI7006 := fI7006
    rw [cl (x := ix) (n := 1) (by omega)] at eI7006
    clear fI7006
    have hI7006 : XI g n L I7006 := by rw [eI7006]; exact (xi_f hy hI (c := 4) (0) (0) (1000) (by decide) (Or.inl (by decide)) (by decide) (by omega) (by omega))
    have e7007 : I7006 (ad g 1) 1 = L := by rw [eI7006, pp_ne _ _ (Or.inl (lyx_ne hy (by decide) (by decide) (by decide)))]; exact e6987
    have e7008 : I7006 (ad g 4) 0 = w6989 := by rw [eI7006, pp_ne _ _ (Or.inr (by decide))]; exact ew6989
    have e7009 : I7006 (ad g 27) 1 = w6990 := by rw [eI7006, pp_ne _ _ (Or.inl (lyx_ne hy (by decide) (by decide) (by decide)))]; exact ew6990
    have e7010 : I7006 (ad g 27) 2 = w6991 := by rw [eI7006, pp_ne _ _ (Or.inl (lyx_ne hy (by decide) (by decide) (by decide)))]; exact ew6991
    have e7011 : I7006 (ad g 4) 1 = v6999 := by rw [eI7006, pp_self]
    clear eI7006
    refine WP_iload_n dX3_faultOfName_114 rfl ?_
    refine WQ_bipush (7) (7) dX3_faultOfName_115 rfl rfl (fun v7012 hv7012 => ?_)
    refine WQ_icmp_ne 137 dX3_faultOfName_117 rfl (fun c7012 => ?_) (fun c7012 => False.elim (by omega))
    refine WQ_iconst (0) (0) dX3_faultOfName_137 rfl rfl (fun v7014 hv7014 => ?_)
    exact WP_iret dX3_faultOfName_138 rfl ⟨⟨hI7006, rfl, ⟨trivial, (by rw [e7008, ew6989] <;> exact (eq32 _ _).mpr (by omega)), (by rw [e7009, ew6990] <;> exact (eq32 _ _).mpr (by omega)), (by rw [e7010, ew6991] <;> exact (eq32 _ _).mpr (by omega))⟩⟩, _, rfl, by omega, by omega, by (try rw [e7011]); omega⟩
  · refine WQ_iconst (5) (5) dX3_faultOfName_104 rfl rfl (fun v7015 hv7015 => ?_)
    obtain ⟨w7016, ew7016⟩ : ∃ w : Int32, I (ad g 4) 1 = w := ⟨_, rfl⟩
    have bw7016 := BT_get hI.1 4 0 5 (0) (0) (1000) (by decide) 1 (by decide) (by decide)
    rw [ew7016] at bw7016
    exact WP_iret dX3_faultOfName_105 rfl ⟨⟨hI, rfl, ⟨trivial, rfl, rfl, rfl⟩⟩, _, rfl, by omega, by omega, by (try rw [ew7016]); omega⟩
set_option maxHeartbeats 4000000 in
set_option maxRecDepth 100000 in
theorem sx_part_27_10_2 {g : GG} {n : Int} {L : Int32} (hy : LyX g)  {I : pI} {J : pJ} {R : pR} (hr : RfX g R) (hI : XI g n L I) (pa : Int32) (cz : Int32) (ix : Int32) (pa_lo : 68 ≤ pa.toInt) (pa_hi : pa.toInt ≤ 68) (cz_lo : 10 ≤ cz.toInt) (cz_hi : cz.toInt ≤ 10) (ix_lo : 2 ≤ ix.toInt) (ix_hi : ix.toInt ≤ 2) (hb : (I (ad g 4) 0).toInt ≤ 3) : SP g mX3_faultOfNumber [.ref (ad g 3), .int pa, .int cz, .int ix, .ref (ad g 27)] I J R (fun r I' J' R' => (XI g n L I' ∧ R' = R ∧ True ∧ I' (ad g 4) 0 = I (ad g 4) 0 ∧ I' (ad g 4) 1 = I (ad g 4) 1 ∧ I' (ad g 27) 1 = I (ad g 27) 1 ∧ I' (ad g 27) 2 = I (ad g 27) 2) ∧ ∃ v : Int32, r = some (.int v) ∧ 0 ≤ v.toInt ∧ v.toInt ≤ 5 ∧ (v.toInt = 0 → (I' (ad g 4) 2).toInt ≤ 6)) := by
  refine SP_of ⟨by decide, rfl⟩ (Nat.le_of_ble_eq_true rfl) ?_
  have e7017 : I (ad g 1) 1 = L := hI.2
  have b7018 := BT_get hI.1 1 1 2 (0) (0) (900) (by decide) 1 (by decide) (by decide)
  rw [e7017] at b7018
  obtain ⟨w7019, ew7019⟩ : ∃ w : Int32, I (ad g 4) 0 = w := ⟨_, rfl⟩
  have bw7019 := BT_get hI.1 4 0 5 (0) (0) (1000) (by decide) 0 (by decide) (by decide)
  rw [ew7019] at bw7019
  obtain ⟨w7020, ew7020⟩ : ∃ w : Int32, I (ad g 4) 1 = w := ⟨_, rfl⟩
  have bw7020 := BT_get hI.1 4 0 5 (0) (0) (1000) (by decide) 1 (by decide) (by decide)
  rw [ew7020] at bw7020
  obtain ⟨w7021, ew7021⟩ : ∃ w : Int32, I (ad g 27) 1 = w := ⟨_, rfl⟩
  have bw7021 := BT_get hI.1 27 1 2 (0) (0) (4) (by decide) 1 (by decide) (by decide)
  rw [ew7021] at bw7021
  obtain ⟨w7022, ew7022⟩ : ∃ w : Int32, I (ad g 27) 2 = w := ⟨_, rfl⟩
  have bw7022 := BT_get hI.1 27 2 3 (0) (0) (3) (by decide) 2 (by decide) (by decide)
  rw [ew7022] at bw7022
  rw [ew7019] at hb
  refine WP_aload_n dX3_faultOfNumber_0 rfl ?_
  refine WP_getr dX3_faultOfNumber_1 fX3_15 rfl (lyx_is hy 3 3 rfl) (rfx hr 3 2 1 (by decide)) ?_
  refine WQ_getiu dX3_faultOfNumber_4 fX3_118 rfl (lyx_is hy 1 5 rfl) (fun v7023 ev7023 => ?_)
  refine WP_istore (ls' := [(0, _), (1, _), (2, _), (3, _), (4, _), (5, _)]) dX3_faultOfNumber_7 (by decide) rfl ?_
  refine WP_iload dX3_faultOfNumber_9 rfl ?_
  refine WP_iload_n dX3_faultOfNumber_11 rfl ?_
  refine WP_callS1 dX3_faultOfNumber_12 ⟨⟨⟨by decide, by decide⟩, zX3_leastOf⟩, lX3_121, tX3_leastOf⟩ (sx_leastOf hy hr hI pa ) (Nat.le_of_ble_eq_true rfl) ?_
  intro r Ia Ja Ra hq
  obtain ⟨⟨ea, eb, ec⟩, v7024, rfl, av7024, bv7024⟩ := hq
  show WP _ _ _ _ (.int _ :: _) _ _ _ _
  rw [ea, eb, ec]
  clear ea eb ec Ia Ja Ra
  refine WQ_icmp_lt 27 dX3_faultOfNumber_15 rfl (fun c7024 => ?_) (fun c7024 => ?_)
  · refine WQ_iconst (2) (2) dX3_faultOfNumber_27 rfl rfl (fun v7026 hv7026 => ?_)
    obtain ⟨w7027, ew7027⟩ : ∃ w : Int32, I (ad g 4) 2 = w := ⟨_, rfl⟩
    have bw7027 := BT_get hI.1 4 0 5 (0) (0) (1000) (by decide) 2 (by decide) (by decide)
    rw [ew7027] at bw7027
    exact WP_iret dX3_faultOfNumber_28 rfl ⟨⟨hI, rfl, ⟨trivial, rfl, rfl, rfl, rfl⟩⟩, _, rfl, by omega, by omega, by (try rw [ew7027]); omega⟩
  · refine WP_iload dX3_faultOfNumber_18 rfl ?_
    refine WP_iload_n dX3_faultOfNumber_20 rfl ?_
    refine WP_callS1 dX3_faultOfNumber_21 ⟨⟨⟨by decide, by decide⟩, zX3_mostOf⟩, lX3_125, tX3_mostOf⟩ (sx_mostOf hy hr hI pa ) (Nat.le_of_ble_eq_true rfl) ?_
    intro r Ia Ja Ra hq
    obtain ⟨⟨ea, eb, ec⟩, v7028, rfl, av7028, bv7028, cv7028⟩ := hq
    show WP _ _ _ _ (.int _ :: _) _ _ _ _
    rw [ea, eb, ec]
    clear ea eb ec Ia Ja Ra
    refine WQ_icmp_le 29 dX3_faultOfNumber_24 rfl (fun c7028 => ?_) (fun c7028 => ?_)
    · refine WP_aload_n dX3_faultOfNumber_29 rfl ?_
      refine WP_getr dX3_faultOfNumber_30 fX3_9 rfl (lyx_is hy 3 3 rfl) (rfx hr 3 3 4 (by decide)) ?_
      refine WP_iload_n dX3_faultOfNumber_33 rfl ?_
      refine WP_iload dX3_faultOfNumber_34 rfl ?_
      refine WQ_iast dX3_faultOfNumber_36 (lyx_is hy 4 13 rfl) (lyx_n hy 4 5 rfl) (by omega) (by omega) (fun I7030 fI7030 => ?_)
      have eI7030 := fI7030
      rw [cl (x := ix) (n := 2) (by omega)] at eI7030
      clear fI7030
      have hI7030 : XI g n L I7030 := by rw [eI7030]; exact (xi_f hy hI (c := 4) (0) (0) (1000) (by decide) (Or.inl (by decide)) (by decide) (by omega) (by omega))
      have e7031 : I7030 (ad g 1) 1 = L := by rw [eI7030, pp_ne _ _ (Or.inl (lyx_ne hy (by decide) (by decide) (by decide)))]; exact e7017
      have e7032 : I7030 (ad g 4) 0 = w7019 := by rw [eI7030, pp_ne _ _ (Or.inr (by decide))]; exact ew7019
      have e7033 : I7030 (ad g 4) 1 = w7020 := by rw [eI7030, pp_ne _ _ (Or.inr (by decide))]; exact ew7020
      have e7034 : I7030 (ad g 27) 1 = w7021 := by rw [eI7030, pp_ne _ _ (Or.inl (lyx_ne hy (by decide) (by decide) (by decide)))]; exact ew7021
      have e7035 : I7030 (ad g 27) 2 = w7022 := by rw [eI7030, pp_ne _ _ (Or.inl (lyx_ne hy (by decide) (by decide) (by decide)))]; exact ew7022
      have e7036 : I7030 (ad g 1) 4 = v7023 := by rw [eI7030, pp_ne _ _ (Or.inl (lyx_ne hy (by decide) (by decide) (by decide)))]; exact ev7023
      have e7037 : I7030 (ad g 4) 2 = v7023 := by rw [eI7030, pp_self]
      clear eI7030
      refine WP_iload_n dX3_faultOfNumber_37 rfl ?_
      refine WQ_bipush (68) (68) dX3_faultOfNumber_38 rfl rfl (fun v7038 hv7038 => ?_)
      refine WQ_icmp_eq 45 dX3_faultOfNumber_40 rfl (fun c7038 => ?_) (fun c7038 => False.elim (by omega))
      refine WP_aload dX3_faultOfNumber_45 rfl ?_
      refine WP_iload_n dX3_faultOfNumber_47 rfl ?_
      refine WP_iload_n dX3_faultOfNumber_48 rfl ?_
      refine WQ_if_ne 56 dX3_faultOfNumber_49 rfl (fun c7039 => ?_) (fun c7039 => False.elim (by omega))
      refine WP_aload_n dX3_faultOfNumber_56 rfl ?_
      refine WP_getr dX3_faultOfNumber_57 fX3_9 rfl (lyx_is hy 3 3 rfl) (rfx hr 3 3 4 (by decide)) ?_
      refine WQ_iconst (0) (0) dX3_faultOfNumber_60 rfl rfl (fun v7041 hv7041 => ?_)
      refine WQ_ialdm (z := 0) dX3_faultOfNumber_61 (lyx_is hy 4 13 rfl) (lyx_n hy 4 5 rfl) hv7041 (by decide) e7032 ?_
      refine WP_iload dX3_faultOfNumber_62 rfl ?_
      refine WP_callV3 (k := 7) dX3_faultOfNumber_64 ⟨⟨⟨by decide, by decide⟩, zX7_isTold⟩, lX3_114, by decide, rfl, vX7_isTold.1, vX7_isTold.2⟩ (lyx_is hy 27 7 rfl) (sx_isTold_27 hy hr hI7030 cz w7019 v7023 (by omega) (by omega) (by omega) (by omega) ) (Nat.le_of_ble_eq_true rfl) ?_
      intro r Ia Ja Ra hq
      obtain ⟨⟨ea, eb, ec⟩, v7043, rfl, av7043, bv7043⟩ := hq
      show WP _ _ _ _ (.int _ :: _) _ _ _ _
      rw [ea, eb, ec]
      clear ea eb ec Ia Ja Ra
      refine WQ_if_eq 74 dX3_faultOfNumber_67 rfl (fun c7043 => ?_) (fun c7043 => ?_)
      · refine WQ_iconst (0) (0) dX3_faultOfNumber_74 rfl rfl (fun v7045 hv7045 => ?_)
        exact WP_iret dX3_faultOfNumber_75 rfl ⟨⟨hI7030, rfl, ⟨trivial, (by rw [e7032, ew7019] <;> exact (eq32 _ _).mpr (by omega)), (by rw [e7033, ew7020] <;> exact (eq32 _ _).mpr (by omega)), (by rw [e7034, ew7021] <;> exact (eq32 _ _).mpr (by omega)), (by rw [e7035, ew7022] <;> exact (eq32 _ _).mpr (by omega))⟩⟩, _, rfl, by omega, by omega, by (try rw [e7037]); omega⟩
      · refine WQ_iconst (3) (3) dX3_faultOfNumber_70 rfl rfl (fun v7046 hv7046 => ?_)
        refine WP_goto 75 dX3_faultOfNumber_71 rfl ?_
        exact WP_iret dX3_faultOfNumber_75 rfl ⟨⟨hI7030, rfl, ⟨trivial, (by rw [e7032, ew7019] <;> exact (eq32 _ _).mpr (by omega)), (by rw [e7033, ew7020] <;> exact (eq32 _ _).mpr (by omega)), (by rw [e7034, ew7021] <;> exact (eq32 _ _).mpr (by omega)), (by rw [e7035, ew7022] <;> exact (eq32 _ _).mpr (by omega))⟩⟩, _, rfl, by omega, by omega, by (try rw [e7037]); omega⟩
    · refine WQ_iconst (2) (2) dX3_faultOfNumber_27 rfl rfl (fun v7047 hv7047 => ?_)
      obtain ⟨w7048, ew7048⟩ : ∃ w : Int32, I (ad g 4) 2 = w := ⟨_, rfl⟩
      have bw7048 := BT_get hI.1 4 0 5 (0) (0) (1000) (by decide) 2 (by decide) (by decide)
      rw [ew7048] at bw7048
      exact WP_iret dX3_faultOfNumber_28 rfl ⟨⟨hI, rfl, ⟨trivial, rfl, rfl, rfl, rfl⟩⟩, _, rfl, by omega, by omega, by (try rw [ew7048]); omega⟩
set_option maxHeartbeats 4000000 in
set_option maxRecDepth 100000 in
theorem sx_part_27_10_3 {g : GG} {n : Int} {L : Int32} (hy : LyX g)  {I : pI} {J : pJ} {R : pR} (hr : RfX g R) (hI : XI g n L I) (pa : Int32) (cz : Int32) (ix : Int32) (pa_lo : 85 ≤ pa.toInt) (pa_hi : pa.toInt ≤ 85) (cz_lo : 10 ≤ cz.toInt) (cz_hi : cz.toInt ≤ 10) (ix_lo : 3 ≤ ix.toInt) (ix_hi : ix.toInt ≤ 3) : SP g mX3_faultOfNumber [.ref (ad g 3), .int pa, .int cz, .int ix, .ref (ad g 27)] I J R (fun r I' J' R' => (XI g n L I' ∧ R' = R ∧ True ∧ I' (ad g 4) 0 = I (ad g 4) 0 ∧ I' (ad g 4) 1 = I (ad g 4) 1 ∧ I' (ad g 4) 2 = I (ad g 4) 2 ∧ I' (ad g 27) 1 = I (ad g 27) 1 ∧ I' (ad g 27) 2 = I (ad g 27) 2) ∧ ∃ v : Int32, r = some (.int v) ∧ 0 ≤ v.toInt ∧ v.toInt ≤ 5 ∧ (v.toInt = 0 → (I' (ad g 4) 3).toInt ≤ 3)) := by
  refine SP_of ⟨by decide, rfl⟩ (Nat.le_of_ble_eq_true rfl) ?_
  have e7049 : I (ad g 1) 1 = L := hI.2
  have b7050 := BT_get hI.1 1 1 2 (0) (0) (900) (by decide) 1 (by decide) (by decide)
  rw [e7049] at b7050
  obtain ⟨w7051, ew7051⟩ : ∃ w : Int32, I (ad g 4) 0 = w := ⟨_, rfl⟩
  have bw7051 := BT_get hI.1 4 0 5 (0) (0) (1000) (by decide) 0 (by decide) (by decide)
  rw [ew7051] at bw7051
  obtain ⟨w7052, ew7052⟩ : ∃ w : Int32, I (ad g 4) 1 = w := ⟨_, rfl⟩
  have bw7052 := BT_get hI.1 4 0 5 (0) (0) (1000) (by decide) 1 (by decide) (by decide)
  rw [ew7052] at bw7052
  obtain ⟨w7053, ew7053⟩ : ∃ w : Int32, I (ad g 4) 2 = w := ⟨_, rfl⟩
  have bw7053 := BT_get hI.1 4 0 5 (0) (0) (1000) (by decide) 2 (by decide) (by decide)
  rw [ew7053] at bw7053
  obtain ⟨w7054, ew7054⟩ : ∃ w : Int32, I (ad g 27) 1 = w := ⟨_, rfl⟩
  have bw7054 := BT_get hI.1 27 1 2 (0) (0) (4) (by decide) 1 (by decide) (by decide)
  rw [ew7054] at bw7054
  obtain ⟨w7055, ew7055⟩ : ∃ w : Int32, I (ad g 27) 2 = w := ⟨_, rfl⟩
  have bw7055 := BT_get hI.1 27 2 3 (0) (0) (3) (by decide) 2 (by decide) (by decide)
  rw [ew7055] at bw7055
  refine WP_aload_n dX3_faultOfNumber_0 rfl ?_
  refine WP_getr dX3_faultOfNumber_1 fX3_15 rfl (lyx_is hy 3 3 rfl) (rfx hr 3 2 1 (by decide)) ?_
  refine WQ_getiu dX3_faultOfNumber_4 fX3_118 rfl (lyx_is hy 1 5 rfl) (fun v7056 ev7056 => ?_)
  refine WP_istore (ls' := [(0, _), (1, _), (2, _), (3, _), (4, _), (5, _)]) dX3_faultOfNumber_7 (by decide) rfl ?_
  refine WP_iload dX3_faultOfNumber_9 rfl ?_
  refine WP_iload_n dX3_faultOfNumber_11 rfl ?_
  refine WP_callS1 dX3_faultOfNumber_12 ⟨⟨⟨by decide, by decide⟩, zX3_leastOf⟩, lX3_121, tX3_leastOf⟩ (sx_leastOf hy hr hI pa ) (Nat.le_of_ble_eq_true rfl) ?_
  intro r Ia Ja Ra hq
  obtain ⟨⟨ea, eb, ec⟩, v7057, rfl, av7057, bv7057⟩ := hq
  show WP _ _ _ _ (.int _ :: _) _ _ _ _
  rw [ea, eb, ec]
  clear ea eb ec Ia Ja Ra
  refine WQ_icmp_lt 27 dX3_faultOfNumber_15 rfl (fun c7057 => ?_) (fun c7057 => ?_)
  · refine WQ_iconst (2) (2) dX3_faultOfNumber_27 rfl rfl (fun v7059 hv7059 => ?_)
    obtain ⟨w7060, ew7060⟩ : ∃ w : Int32, I (ad g 4) 3 = w := ⟨_, rfl⟩
    have bw7060 := BT_get hI.1 4 0 5 (0) (0) (1000) (by decide) 3 (by decide) (by decide)
    rw [ew7060] at bw7060
    exact WP_iret dX3_faultOfNumber_28 rfl ⟨⟨hI, rfl, ⟨trivial, rfl, rfl, rfl, rfl, rfl⟩⟩, _, rfl, by omega, by omega, by (try rw [ew7060]); omega⟩
  · refine WP_iload dX3_faultOfNumber_18 rfl ?_
    refine WP_iload_n dX3_faultOfNumber_20 rfl ?_
    refine WP_callS1 dX3_faultOfNumber_21 ⟨⟨⟨by decide, by decide⟩, zX3_mostOf⟩, lX3_125, tX3_mostOf⟩ (sx_mostOf hy hr hI pa ) (Nat.le_of_ble_eq_true rfl) ?_
    intro r Ia Ja Ra hq
    obtain ⟨⟨ea, eb, ec⟩, v7061, rfl, av7061, bv7061, cv7061⟩ := hq
    show WP _ _ _ _ (.int _ :: _) _ _ _ _
    rw [ea, eb, ec]
    clear ea eb ec Ia Ja Ra
    refine WQ_icmp_le 29 dX3_faultOfNumber_24 rfl (fun c7061 => ?_) (fun c7061 => ?_)
    · refine WP_aload_n dX3_faultOfNumber_29 rfl ?_
      refine WP_getr dX3_faultOfNumber_30 fX3_9 rfl (lyx_is hy 3 3 rfl) (rfx hr 3 3 4 (by decide)) ?_
      refine WP_iload_n dX3_faultOfNumber_33 rfl ?_
      refine WP_iload dX3_faultOfNumber_34 rfl ?_
      refine WQ_iast dX3_faultOfNumber_36 (lyx_is hy 4 13 rfl) (lyx_n hy 4 5 rfl) (by omega) (by omega) (fun I7063 fI7063 => ?_)
      have eI7063 := fI7063
      rw [cl (x := ix) (n := 3) (by omega)] at eI7063
      clear fI7063
      have hI7063 : XI g n L I7063 := by rw [eI7063]; exact (xi_f hy hI (c := 4) (0) (0) (1000) (by decide) (Or.inl (by decide)) (by decide) (by omega) (by omega))
      have e7064 : I7063 (ad g 1) 1 = L := by rw [eI7063, pp_ne _ _ (Or.inl (lyx_ne hy (by decide) (by decide) (by decide)))]; exact e7049
      have e7065 : I7063 (ad g 4) 0 = w7051 := by rw [eI7063, pp_ne _ _ (Or.inr (by decide))]; exact ew7051
      have e7066 : I7063 (ad g 4) 1 = w7052 := by rw [eI7063, pp_ne _ _ (Or.inr (by decide))]; exact ew7052
      have e7067 : I7063 (ad g 4) 2 = w7053 := by rw [eI7063, pp_ne _ _ (Or.inr (by decide))]; exact ew7053
      have e7068 : I7063 (ad g 27) 1 = w7054 := by rw [eI7063, pp_ne _ _ (Or.inl (lyx_ne hy (by decide) (by decide) (by decide)))]; exact ew7054
      have e7069 : I7063 (ad g 27) 2 = w7055 := by rw [eI7063, pp_ne _ _ (Or.inl (lyx_ne hy (by decide) (by decide) (by decide)))]; exact ew7055
      have e7070 : I7063 (ad g 1) 4 = v7056 := by rw [eI7063, pp_ne _ _ (Or.inl (lyx_ne hy (by decide) (by decide) (by decide)))]; exact ev7056
      have e7071 : I7063 (ad g 4) 3 = v7056 := by rw [eI7063, pp_self]
      clear eI7063
      refine WP_iload_n dX3_faultOfNumber_37 rfl ?_
      refine WQ_bipush (68) (68) dX3_faultOfNumber_38 rfl rfl (fun v7072 hv7072 => ?_)
      refine WQ_icmp_eq 45 dX3_faultOfNumber_40 rfl (fun c7072 => False.elim (by omega)) (fun c7072 => ?_)
      refine WQ_iconst (0) (0) dX3_faultOfNumber_43 rfl rfl (fun v7074 hv7074 => ?_)
      exact WP_iret dX3_faultOfNumber_44 rfl ⟨⟨hI7063, rfl, ⟨trivial, (by rw [e7065, ew7051] <;> exact (eq32 _ _).mpr (by omega)), (by rw [e7066, ew7052] <;> exact (eq32 _ _).mpr (by omega)), (by rw [e7067, ew7053] <;> exact (eq32 _ _).mpr (by omega)), (by rw [e7068, ew7054] <;> exact (eq32 _ _).mpr (by omega)), (by rw [e7069, ew7055] <;> exact (eq32 _ _).mpr (by omega))⟩⟩, _, rfl, by omega, by omega, by (try rw [e7071]); omega⟩
    · refine WQ_iconst (2) (2) dX3_faultOfNumber_27 rfl rfl (fun v7075 hv7075 => ?_)
      obtain ⟨w7076, ew7076⟩ : ∃ w : Int32, I (ad g 4) 3 = w := ⟨_, rfl⟩
      have bw7076 := BT_get hI.1 4 0 5 (0) (0) (1000) (by decide) 3 (by decide) (by decide)
      rw [ew7076] at bw7076
      exact WP_iret dX3_faultOfNumber_28 rfl ⟨⟨hI, rfl, ⟨trivial, rfl, rfl, rfl, rfl, rfl⟩⟩, _, rfl, by omega, by omega, by (try rw [ew7076]); omega⟩
set_option maxHeartbeats 4000000 in
set_option maxRecDepth 100000 in
theorem sx_part_27_10_4 {g : GG} {n : Int} {L : Int32} (hy : LyX g)  {I : pI} {J : pJ} {R : pR} (hr : RfX g R) (hI : XI g n L I) (pa : Int32) (cz : Int32) (ix : Int32) (pa_lo : 80 ≤ pa.toInt) (pa_hi : pa.toInt ≤ 80) (cz_lo : 10 ≤ cz.toInt) (cz_hi : cz.toInt ≤ 10) (ix_lo : 4 ≤ ix.toInt) (ix_hi : ix.toInt ≤ 4) : SP g mX3_faultOfNumber [.ref (ad g 3), .int pa, .int cz, .int ix, .ref (ad g 27)] I J R (fun r I' J' R' => (XI g n L I' ∧ R' = R ∧ True ∧ I' (ad g 4) 0 = I (ad g 4) 0 ∧ I' (ad g 4) 1 = I (ad g 4) 1 ∧ I' (ad g 4) 2 = I (ad g 4) 2 ∧ I' (ad g 4) 3 = I (ad g 4) 3 ∧ I' (ad g 27) 1 = I (ad g 27) 1 ∧ I' (ad g 27) 2 = I (ad g 27) 2) ∧ ∃ v : Int32, r = some (.int v) ∧ 0 ≤ v.toInt ∧ v.toInt ≤ 5 ∧ (v.toInt = 0 → (I' (ad g 4) 4).toInt ≤ 99)) := by
  refine SP_of ⟨by decide, rfl⟩ (Nat.le_of_ble_eq_true rfl) ?_
  have e7077 : I (ad g 1) 1 = L := hI.2
  have b7078 := BT_get hI.1 1 1 2 (0) (0) (900) (by decide) 1 (by decide) (by decide)
  rw [e7077] at b7078
  obtain ⟨w7079, ew7079⟩ : ∃ w : Int32, I (ad g 4) 0 = w := ⟨_, rfl⟩
  have bw7079 := BT_get hI.1 4 0 5 (0) (0) (1000) (by decide) 0 (by decide) (by decide)
  rw [ew7079] at bw7079
  obtain ⟨w7080, ew7080⟩ : ∃ w : Int32, I (ad g 4) 1 = w := ⟨_, rfl⟩
  have bw7080 := BT_get hI.1 4 0 5 (0) (0) (1000) (by decide) 1 (by decide) (by decide)
  rw [ew7080] at bw7080
  obtain ⟨w7081, ew7081⟩ : ∃ w : Int32, I (ad g 4) 2 = w := ⟨_, rfl⟩
  have bw7081 := BT_get hI.1 4 0 5 (0) (0) (1000) (by decide) 2 (by decide) (by decide)
  rw [ew7081] at bw7081
  obtain ⟨w7082, ew7082⟩ : ∃ w : Int32, I (ad g 4) 3 = w := ⟨_, rfl⟩
  have bw7082 := BT_get hI.1 4 0 5 (0) (0) (1000) (by decide) 3 (by decide) (by decide)
  rw [ew7082] at bw7082
  obtain ⟨w7083, ew7083⟩ : ∃ w : Int32, I (ad g 27) 1 = w := ⟨_, rfl⟩
  have bw7083 := BT_get hI.1 27 1 2 (0) (0) (4) (by decide) 1 (by decide) (by decide)
  rw [ew7083] at bw7083
  obtain ⟨w7084, ew7084⟩ : ∃ w : Int32, I (ad g 27) 2 = w := ⟨_, rfl⟩
  have bw7084 := BT_get hI.1 27 2 3 (0) (0) (3) (by decide) 2 (by decide) (by decide)
  rw [ew7084] at bw7084
  refine WP_aload_n dX3_faultOfNumber_0 rfl ?_
  refine WP_getr dX3_faultOfNumber_1 fX3_15 rfl (lyx_is hy 3 3 rfl) (rfx hr 3 2 1 (by decide)) ?_
  refine WQ_getiu dX3_faultOfNumber_4 fX3_118 rfl (lyx_is hy 1 5 rfl) (fun v7085 ev7085 => ?_)
  refine WP_istore (ls' := [(0, _), (1, _), (2, _), (3, _), (4, _), (5, _)]) dX3_faultOfNumber_7 (by decide) rfl ?_
  refine WP_iload dX3_faultOfNumber_9 rfl ?_
  refine WP_iload_n dX3_faultOfNumber_11 rfl ?_
  refine WP_callS1 dX3_faultOfNumber_12 ⟨⟨⟨by decide, by decide⟩, zX3_leastOf⟩, lX3_121, tX3_leastOf⟩ (sx_leastOf hy hr hI pa ) (Nat.le_of_ble_eq_true rfl) ?_
  intro r Ia Ja Ra hq
  obtain ⟨⟨ea, eb, ec⟩, v7086, rfl, av7086, bv7086⟩ := hq
  show WP _ _ _ _ (.int _ :: _) _ _ _ _
  rw [ea, eb, ec]
  clear ea eb ec Ia Ja Ra
  refine WQ_icmp_lt 27 dX3_faultOfNumber_15 rfl (fun c7086 => ?_) (fun c7086 => ?_)
  · refine WQ_iconst (2) (2) dX3_faultOfNumber_27 rfl rfl (fun v7088 hv7088 => ?_)
    obtain ⟨w7089, ew7089⟩ : ∃ w : Int32, I (ad g 4) 4 = w := ⟨_, rfl⟩
    have bw7089 := BT_get hI.1 4 0 5 (0) (0) (1000) (by decide) 4 (by decide) (by decide)
    rw [ew7089] at bw7089
    exact WP_iret dX3_faultOfNumber_28 rfl ⟨⟨hI, rfl, ⟨trivial, rfl, rfl, rfl, rfl, rfl, rfl⟩⟩, _, rfl, by omega, by omega, by (try rw [ew7089]); omega⟩
  · refine WP_iload dX3_faultOfNumber_18 rfl ?_
    refine WP_iload_n dX3_faultOfNumber_20 rfl ?_
    refine WP_callS1 dX3_faultOfNumber_21 ⟨⟨⟨by decide, by decide⟩, zX3_mostOf⟩, lX3_125, tX3_mostOf⟩ (sx_mostOf hy hr hI pa ) (Nat.le_of_ble_eq_true rfl) ?_
    intro r Ia Ja Ra hq
    obtain ⟨⟨ea, eb, ec⟩, v7090, rfl, av7090, bv7090, cv7090⟩ := hq
    show WP _ _ _ _ (.int _ :: _) _ _ _ _
    rw [ea, eb, ec]
    clear ea eb ec Ia Ja Ra
    refine WQ_icmp_le 29 dX3_faultOfNumber_24 rfl (fun c7090 => ?_) (fun c7090 => ?_)
    · refine WP_aload_n dX3_faultOfNumber_29 rfl ?_
      refine WP_getr dX3_faultOfNumber_30 fX3_9 rfl (lyx_is hy 3 3 rfl) (rfx hr 3 3 4 (by decide)) ?_
      refine WP_iload_n dX3_faultOfNumber_33 rfl ?_
      refine WP_iload dX3_faultOfNumber_34 rfl ?_
      refine WQ_iast dX3_faultOfNumber_36 (lyx_is hy 4 13 rfl) (lyx_n hy 4 5 rfl) (by omega) (by omega) (fun I7092 fI7092 => ?_)
      have eI7092 := fI7092
      rw [cl (x := ix) (n := 4) (by omega)] at eI7092
      clear fI7092
      have hI7092 : XI g n L I7092 := by rw [eI7092]; exact (xi_f hy hI (c := 4) (0) (0) (1000) (by decide) (Or.inl (by decide)) (by decide) (by omega) (by omega))
      have e7093 : I7092 (ad g 1) 1 = L := by rw [eI7092, pp_ne _ _ (Or.inl (lyx_ne hy (by decide) (by decide) (by decide)))]; exact e7077
      have e7094 : I7092 (ad g 4) 0 = w7079 := by rw [eI7092, pp_ne _ _ (Or.inr (by decide))]; exact ew7079
      have e7095 : I7092 (ad g 4) 1 = w7080 := by rw [eI7092, pp_ne _ _ (Or.inr (by decide))]; exact ew7080
      have e7096 : I7092 (ad g 4) 2 = w7081 := by rw [eI7092, pp_ne _ _ (Or.inr (by decide))]; exact ew7081
      have e7097 : I7092 (ad g 4) 3 = w7082 := by rw [eI7092, pp_ne _ _ (Or.inr (by decide))]; exact ew7082
      have e7098 : I7092 (ad g 27) 1 = w7083 := by rw [eI7092, pp_ne _ _ (Or.inl (lyx_ne hy (by decide) (by decide) (by decide)))]; exact ew7083
      have e7099 : I7092 (ad g 27) 2 = w7084 := by rw [eI7092, pp_ne _ _ (Or.inl (lyx_ne hy (by decide) (by decide) (by decide)))]; exact ew7084
      have e7100 : I7092 (ad g 1) 4 = v7085 := by rw [eI7092, pp_ne _ _ (Or.inl (lyx_ne hy (by decide) (by decide) (by decide)))]; exact ev7085
      have e7101 : I7092 (ad g 4) 4 = v7085 := by rw [eI7092, pp_self]
      clear eI7092
      refine WP_iload_n dX3_faultOfNumber_37 rfl ?_
      refine WQ_bipush (68) (68) dX3_faultOfNumber_38 rfl rfl (fun v7102 hv7102 => ?_)
      refine WQ_icmp_eq 45 dX3_faultOfNumber_40 rfl (fun c7102 => False.elim (by omega)) (fun c7102 => ?_)
      refine WQ_iconst (0) (0) dX3_faultOfNumber_43 rfl rfl (fun v7104 hv7104 => ?_)
      exact WP_iret dX3_faultOfNumber_44 rfl ⟨⟨hI7092, rfl, ⟨trivial, (by rw [e7094, ew7079] <;> exact (eq32 _ _).mpr (by omega)), (by rw [e7095, ew7080] <;> exact (eq32 _ _).mpr (by omega)), (by rw [e7096, ew7081] <;> exact (eq32 _ _).mpr (by omega)), (by rw [e7097, ew7082] <;> exact (eq32 _ _).mpr (by omega)), (by rw [e7098, ew7083] <;> exact (eq32 _ _).mpr (by omega)), (by rw [e7099, ew7084] <;> exact (eq32 _ _).mpr (by omega))⟩⟩, _, rfl, by omega, by omega, by (try rw [e7101]); omega⟩
    · refine WQ_iconst (2) (2) dX3_faultOfNumber_27 rfl rfl (fun v7105 hv7105 => ?_)
      obtain ⟨w7106, ew7106⟩ : ∃ w : Int32, I (ad g 4) 4 = w := ⟨_, rfl⟩
      have bw7106 := BT_get hI.1 4 0 5 (0) (0) (1000) (by decide) 4 (by decide) (by decide)
      rw [ew7106] at bw7106
      exact WP_iret dX3_faultOfNumber_28 rfl ⟨⟨hI, rfl, ⟨trivial, rfl, rfl, rfl, rfl, rfl, rfl⟩⟩, _, rfl, by omega, by omega, by (try rw [ew7106]); omega⟩
set_option maxHeartbeats 4000000 in
set_option maxRecDepth 100000 in
theorem sx_part_27_11_0 {g : GG} {n : Int} {L : Int32} (hy : LyX g)  {I : pI} {J : pJ} {R : pR} (hr : RfX g R) (hI : XI g n L I) (pa : Int32) (cz : Int32) (ix : Int32) (pa_lo : 86 ≤ pa.toInt) (pa_hi : pa.toInt ≤ 86) (cz_lo : 11 ≤ cz.toInt) (cz_hi : cz.toInt ≤ 11) (ix_lo : 0 ≤ ix.toInt) (ix_hi : ix.toInt ≤ 0) : SP g mX3_faultOfNumber [.ref (ad g 3), .int pa, .int cz, .int ix, .ref (ad g 27)] I J R (fun r I' J' R' => (XI g n L I' ∧ R' = R ∧ True ∧ I' (ad g 27) 1 = I (ad g 27) 1 ∧ I' (ad g 27) 2 = I (ad g 27) 2) ∧ ∃ v : Int32, r = some (.int v) ∧ 0 ≤ v.toInt ∧ v.toInt ≤ 5 ∧ (v.toInt = 0 → (I' (ad g 4) 0).toInt ≤ 99)) := by
  refine SP_of ⟨by decide, rfl⟩ (Nat.le_of_ble_eq_true rfl) ?_
  have e7107 : I (ad g 1) 1 = L := hI.2
  have b7108 := BT_get hI.1 1 1 2 (0) (0) (900) (by decide) 1 (by decide) (by decide)
  rw [e7107] at b7108
  obtain ⟨w7109, ew7109⟩ : ∃ w : Int32, I (ad g 27) 1 = w := ⟨_, rfl⟩
  have bw7109 := BT_get hI.1 27 1 2 (0) (0) (4) (by decide) 1 (by decide) (by decide)
  rw [ew7109] at bw7109
  obtain ⟨w7110, ew7110⟩ : ∃ w : Int32, I (ad g 27) 2 = w := ⟨_, rfl⟩
  have bw7110 := BT_get hI.1 27 2 3 (0) (0) (3) (by decide) 2 (by decide) (by decide)
  rw [ew7110] at bw7110
  refine WP_aload_n dX3_faultOfNumber_0 rfl ?_
  refine WP_getr dX3_faultOfNumber_1 fX3_15 rfl (lyx_is hy 3 3 rfl) (rfx hr 3 2 1 (by decide)) ?_
  refine WQ_getiu dX3_faultOfNumber_4 fX3_118 rfl (lyx_is hy 1 5 rfl) (fun v7111 ev7111 => ?_)
  refine WP_istore (ls' := [(0, _), (1, _), (2, _), (3, _), (4, _), (5, _)]) dX3_faultOfNumber_7 (by decide) rfl ?_
  refine WP_iload dX3_faultOfNumber_9 rfl ?_
  refine WP_iload_n dX3_faultOfNumber_11 rfl ?_
  refine WP_callS1 dX3_faultOfNumber_12 ⟨⟨⟨by decide, by decide⟩, zX3_leastOf⟩, lX3_121, tX3_leastOf⟩ (sx_leastOf hy hr hI pa ) (Nat.le_of_ble_eq_true rfl) ?_
  intro r Ia Ja Ra hq
  obtain ⟨⟨ea, eb, ec⟩, v7112, rfl, av7112, bv7112⟩ := hq
  show WP _ _ _ _ (.int _ :: _) _ _ _ _
  rw [ea, eb, ec]
  clear ea eb ec Ia Ja Ra
  refine WQ_icmp_lt 27 dX3_faultOfNumber_15 rfl (fun c7112 => ?_) (fun c7112 => ?_)
  · refine WQ_iconst (2) (2) dX3_faultOfNumber_27 rfl rfl (fun v7114 hv7114 => ?_)
    obtain ⟨w7115, ew7115⟩ : ∃ w : Int32, I (ad g 4) 0 = w := ⟨_, rfl⟩
    have bw7115 := BT_get hI.1 4 0 5 (0) (0) (1000) (by decide) 0 (by decide) (by decide)
    rw [ew7115] at bw7115
    exact WP_iret dX3_faultOfNumber_28 rfl ⟨⟨hI, rfl, ⟨trivial, rfl, rfl⟩⟩, _, rfl, by omega, by omega, by (try rw [ew7115]); omega⟩
  · refine WP_iload dX3_faultOfNumber_18 rfl ?_
    refine WP_iload_n dX3_faultOfNumber_20 rfl ?_
    refine WP_callS1 dX3_faultOfNumber_21 ⟨⟨⟨by decide, by decide⟩, zX3_mostOf⟩, lX3_125, tX3_mostOf⟩ (sx_mostOf hy hr hI pa ) (Nat.le_of_ble_eq_true rfl) ?_
    intro r Ia Ja Ra hq
    obtain ⟨⟨ea, eb, ec⟩, v7116, rfl, av7116, bv7116, cv7116⟩ := hq
    show WP _ _ _ _ (.int _ :: _) _ _ _ _
    rw [ea, eb, ec]
    clear ea eb ec Ia Ja Ra
    refine WQ_icmp_le 29 dX3_faultOfNumber_24 rfl (fun c7116 => ?_) (fun c7116 => ?_)
    · refine WP_aload_n dX3_faultOfNumber_29 rfl ?_
      refine WP_getr dX3_faultOfNumber_30 fX3_9 rfl (lyx_is hy 3 3 rfl) (rfx hr 3 3 4 (by decide)) ?_
      refine WP_iload_n dX3_faultOfNumber_33 rfl ?_
      refine WP_iload dX3_faultOfNumber_34 rfl ?_
      refine WQ_iast dX3_faultOfNumber_36 (lyx_is hy 4 13 rfl) (lyx_n hy 4 5 rfl) (by omega) (by omega) (fun I7118 fI7118 => ?_)
      have eI7118 := fI7118
      rw [cl (x := ix) (n := 0) (by omega)] at eI7118
      clear fI7118
      have hI7118 : XI g n L I7118 := by rw [eI7118]; exact (xi_f hy hI (c := 4) (0) (0) (1000) (by decide) (Or.inl (by decide)) (by decide) (by omega) (by omega))
      have e7119 : I7118 (ad g 1) 1 = L := by rw [eI7118, pp_ne _ _ (Or.inl (lyx_ne hy (by decide) (by decide) (by decide)))]; exact e7107
      have e7120 : I7118 (ad g 27) 1 = w7109 := by rw [eI7118, pp_ne _ _ (Or.inl (lyx_ne hy (by decide) (by decide) (by decide)))]; exact ew7109
      have e7121 : I7118 (ad g 27) 2 = w7110 := by rw [eI7118, pp_ne _ _ (Or.inl (lyx_ne hy (by decide) (by decide) (by decide)))]; exact ew7110
      have e7122 : I7118 (ad g 1) 4 = v7111 := by rw [eI7118, pp_ne _ _ (Or.inl (lyx_ne hy (by decide) (by decide) (by decide)))]; exact ev7111
      have e7123 : I7118 (ad g 4) 0 = v7111 := by rw [eI7118, pp_self]
      clear eI7118
      refine WP_iload_n dX3_faultOfNumber_37 rfl ?_
      refine WQ_bipush (68) (68) dX3_faultOfNumber_38 rfl rfl (fun v7124 hv7124 => ?_)
      refine WQ_icmp_eq 45 dX3_faultOfNumber_40 rfl (fun c7124 => False.elim (by omega)) (fun c7124 => ?_)
      refine WQ_iconst (0) (0) dX3_faultOfNumber_43 rfl rfl (fun v7126 hv7126 => ?_)
      exact WP_iret dX3_faultOfNumber_44 rfl ⟨⟨hI7118, rfl, ⟨trivial, (by rw [e7120, ew7109] <;> exact (eq32 _ _).mpr (by omega)), (by rw [e7121, ew7110] <;> exact (eq32 _ _).mpr (by omega))⟩⟩, _, rfl, by omega, by omega, by (try rw [e7123]); omega⟩
    · refine WQ_iconst (2) (2) dX3_faultOfNumber_27 rfl rfl (fun v7127 hv7127 => ?_)
      obtain ⟨w7128, ew7128⟩ : ∃ w : Int32, I (ad g 4) 0 = w := ⟨_, rfl⟩
      have bw7128 := BT_get hI.1 4 0 5 (0) (0) (1000) (by decide) 0 (by decide) (by decide)
      rw [ew7128] at bw7128
      exact WP_iret dX3_faultOfNumber_28 rfl ⟨⟨hI, rfl, ⟨trivial, rfl, rfl⟩⟩, _, rfl, by omega, by omega, by (try rw [ew7128]); omega⟩
set_option maxHeartbeats 4000000 in
set_option maxRecDepth 100000 in
theorem sx_part_27_11_1 {g : GG} {n : Int} {L : Int32} (hy : LyX g)  {I : pI} {J : pJ} {R : pR} (hr : RfX g R) (hI : XI g n L I) (pa : Int32) (cz : Int32) (ix : Int32) (pa_lo : 86 ≤ pa.toInt) (pa_hi : pa.toInt ≤ 86) (cz_lo : 11 ≤ cz.toInt) (cz_hi : cz.toInt ≤ 11) (ix_lo : 1 ≤ ix.toInt) (ix_hi : ix.toInt ≤ 1) : SP g mX3_faultOfNumber [.ref (ad g 3), .int pa, .int cz, .int ix, .ref (ad g 27)] I J R (fun r I' J' R' => (XI g n L I' ∧ R' = R ∧ True ∧ I' (ad g 4) 0 = I (ad g 4) 0 ∧ I' (ad g 27) 1 = I (ad g 27) 1 ∧ I' (ad g 27) 2 = I (ad g 27) 2) ∧ ∃ v : Int32, r = some (.int v) ∧ 0 ≤ v.toInt ∧ v.toInt ≤ 5 ∧ (v.toInt = 0 → (I' (ad g 4) 1).toInt ≤ 99)) := by
  refine SP_of ⟨by decide, rfl⟩ (Nat.le_of_ble_eq_true rfl) ?_
  have e7129 : I (ad g 1) 1 = L := hI.2
  have b7130 := BT_get hI.1 1 1 2 (0) (0) (900) (by decide) 1 (by decide) (by decide)
  rw [e7129] at b7130
  obtain ⟨w7131, ew7131⟩ : ∃ w : Int32, I (ad g 4) 0 = w := ⟨_, rfl⟩
  have bw7131 := BT_get hI.1 4 0 5 (0) (0) (1000) (by decide) 0 (by decide) (by decide)
  rw [ew7131] at bw7131
  obtain ⟨w7132, ew7132⟩ : ∃ w : Int32, I (ad g 27) 1 = w := ⟨_, rfl⟩
  have bw7132 := BT_get hI.1 27 1 2 (0) (0) (4) (by decide) 1 (by decide) (by decide)
  rw [ew7132] at bw7132
  obtain ⟨w7133, ew7133⟩ : ∃ w : Int32, I (ad g 27) 2 = w := ⟨_, rfl⟩
  have bw7133 := BT_get hI.1 27 2 3 (0) (0) (3) (by decide) 2 (by decide) (by decide)
  rw [ew7133] at bw7133
  refine WP_aload_n dX3_faultOfNumber_0 rfl ?_
  refine WP_getr dX3_faultOfNumber_1 fX3_15 rfl (lyx_is hy 3 3 rfl) (rfx hr 3 2 1 (by decide)) ?_
  refine WQ_getiu dX3_faultOfNumber_4 fX3_118 rfl (lyx_is hy 1 5 rfl) (fun v7134 ev7134 => ?_)
  refine WP_istore (ls' := [(0, _), (1, _), (2, _), (3, _), (4, _), (5, _)]) dX3_faultOfNumber_7 (by decide) rfl ?_
  refine WP_iload dX3_faultOfNumber_9 rfl ?_
  refine WP_iload_n dX3_faultOfNumber_11 rfl ?_
  refine WP_callS1 dX3_faultOfNumber_12 ⟨⟨⟨by decide, by decide⟩, zX3_leastOf⟩, lX3_121, tX3_leastOf⟩ (sx_leastOf hy hr hI pa ) (Nat.le_of_ble_eq_true rfl) ?_
  intro r Ia Ja Ra hq
  obtain ⟨⟨ea, eb, ec⟩, v7135, rfl, av7135, bv7135⟩ := hq
  show WP _ _ _ _ (.int _ :: _) _ _ _ _
  rw [ea, eb, ec]
  clear ea eb ec Ia Ja Ra
  refine WQ_icmp_lt 27 dX3_faultOfNumber_15 rfl (fun c7135 => ?_) (fun c7135 => ?_)
  · refine WQ_iconst (2) (2) dX3_faultOfNumber_27 rfl rfl (fun v7137 hv7137 => ?_)
    obtain ⟨w7138, ew7138⟩ : ∃ w : Int32, I (ad g 4) 1 = w := ⟨_, rfl⟩
    have bw7138 := BT_get hI.1 4 0 5 (0) (0) (1000) (by decide) 1 (by decide) (by decide)
    rw [ew7138] at bw7138
    exact WP_iret dX3_faultOfNumber_28 rfl ⟨⟨hI, rfl, ⟨trivial, rfl, rfl, rfl⟩⟩, _, rfl, by omega, by omega, by (try rw [ew7138]); omega⟩
  · refine WP_iload dX3_faultOfNumber_18 rfl ?_
    refine WP_iload_n dX3_faultOfNumber_20 rfl ?_
    refine WP_callS1 dX3_faultOfNumber_21 ⟨⟨⟨by decide, by decide⟩, zX3_mostOf⟩, lX3_125, tX3_mostOf⟩ (sx_mostOf hy hr hI pa ) (Nat.le_of_ble_eq_true rfl) ?_
    intro r Ia Ja Ra hq
    obtain ⟨⟨ea, eb, ec⟩, v7139, rfl, av7139, bv7139, cv7139⟩ := hq
    show WP _ _ _ _ (.int _ :: _) _ _ _ _
    rw [ea, eb, ec]
    clear ea eb ec Ia Ja Ra
    refine WQ_icmp_le 29 dX3_faultOfNumber_24 rfl (fun c7139 => ?_) (fun c7139 => ?_)
    · refine WP_aload_n dX3_faultOfNumber_29 rfl ?_
      refine WP_getr dX3_faultOfNumber_30 fX3_9 rfl (lyx_is hy 3 3 rfl) (rfx hr 3 3 4 (by decide)) ?_
      refine WP_iload_n dX3_faultOfNumber_33 rfl ?_
      refine WP_iload dX3_faultOfNumber_34 rfl ?_
      refine WQ_iast dX3_faultOfNumber_36 (lyx_is hy 4 13 rfl) (lyx_n hy 4 5 rfl) (by omega) (by omega) (fun I7141 fI7141 => ?_)
      have eI7141 := fI7141
      rw [cl (x := ix) (n := 1) (by omega)] at eI7141
      clear fI7141
      have hI7141 : XI g n L I7141 := by rw [eI7141]; exact (xi_f hy hI (c := 4) (0) (0) (1000) (by decide) (Or.inl (by decide)) (by decide) (by omega) (by omega))
      have e7142 : I7141 (ad g 1) 1 = L := by rw [eI7141, pp_ne _ _ (Or.inl (lyx_ne hy (by decide) (by decide) (by decide)))]; exact e7129
      have e7143 : I7141 (ad g 4) 0 = w7131 := by rw [eI7141, pp_ne _ _ (Or.inr (by decide))]; exact ew7131
      have e7144 : I7141 (ad g 27) 1 = w7132 := by rw [eI7141, pp_ne _ _ (Or.inl (lyx_ne hy (by decide) (by decide) (by decide)))]; exact ew7132
      have e7145 : I7141 (ad g 27) 2 = w7133 := by rw [eI7141, pp_ne _ _ (Or.inl (lyx_ne hy (by decide) (by decide) (by decide)))]; exact ew7133
      have e7146 : I7141 (ad g 1) 4 = v7134 := by rw [eI7141, pp_ne _ _ (Or.inl (lyx_ne hy (by decide) (by decide) (by decide)))]; exact ev7134
      have e7147 : I7141 (ad g 4) 1 = v7134 := by rw [eI7141, pp_self]
      clear eI7141
      refine WP_iload_n dX3_faultOfNumber_37 rfl ?_
      refine WQ_bipush (68) (68) dX3_faultOfNumber_38 rfl rfl (fun v7148 hv7148 => ?_)
      refine WQ_icmp_eq 45 dX3_faultOfNumber_40 rfl (fun c7148 => False.elim (by omega)) (fun c7148 => ?_)
      refine WQ_iconst (0) (0) dX3_faultOfNumber_43 rfl rfl (fun v7150 hv7150 => ?_)
      exact WP_iret dX3_faultOfNumber_44 rfl ⟨⟨hI7141, rfl, ⟨trivial, (by rw [e7143, ew7131] <;> exact (eq32 _ _).mpr (by omega)), (by rw [e7144, ew7132] <;> exact (eq32 _ _).mpr (by omega)), (by rw [e7145, ew7133] <;> exact (eq32 _ _).mpr (by omega))⟩⟩, _, rfl, by omega, by omega, by (try rw [e7147]); omega⟩
    · refine WQ_iconst (2) (2) dX3_faultOfNumber_27 rfl rfl (fun v7151 hv7151 => ?_)
      obtain ⟨w7152, ew7152⟩ : ∃ w : Int32, I (ad g 4) 1 = w := ⟨_, rfl⟩
      have bw7152 := BT_get hI.1 4 0 5 (0) (0) (1000) (by decide) 1 (by decide) (by decide)
      rw [ew7152] at bw7152
      exact WP_iret dX3_faultOfNumber_28 rfl ⟨⟨hI, rfl, ⟨trivial, rfl, rfl, rfl⟩⟩, _, rfl, by omega, by omega, by (try rw [ew7152]); omega⟩
