set_option maxHeartbeats 4000000 in
set_option maxRecDepth 100000 in
theorem sx_book_6 {g : GG} {n : Int} {L : Int32} (hy : LyX g) {aK aV : Nat → Nat} {fo : Option Nat} (hz : HZ g aK aV fo)  {I : pI} {J : pJ} {R : pR} (hr : RfX g R) (hT : R (ad g 5) 0 = some (ad g 6)) (hI : XI g n L I)   : SP g mX10_book [.ref (ad g 0)] I J R (fun r I' J' R' => ((∃ L2 : Int32, XI g n L2 I' ∧ L2.toInt = 0) ∧ R' = R) ∧ ∃ v : Int32, r = some (.int v)) := by
  refine SP_of ⟨by decide, rfl⟩ (Nat.le_of_ble_eq_true rfl) ?_
  have e20140 : I (ad g 1) 1 = L := hI.2
  have b20141 := BT_get hI.1 1 1 2 (0) (0) (900) (by decide) 1 (by decide) (by decide)
  rw [e20140] at b20141
  refine WP_aload_n dX10_book_0 rfl ?_
  refine WP_getr dX10_book_1 fX10_21 rfl (lyx_is hy 0 10 rfl) (rfx hr 0 1 3 (by decide)) ?_
  refine WP_aload_n dX10_book_4 rfl ?_
  refine WP_getr dX10_book_5 fX10_33 rfl (lyx_is hy 0 10 rfl) (rfx hr 0 2 5 (by decide)) ?_
  refine WP_getr dX10_book_8 fX10_102 rfl (lyx_is hy 5 0 rfl) hT ?_
  refine WP_callV1 (k := 3) dX10_book_11 ⟨⟨⟨by decide, by decide⟩, zX3_readBook⟩, lX10_328, by decide, rfl, vX3_readBook.1, vX3_readBook.2⟩ (lyx_is hy 3 3 rfl) (sx_readBook_6 hy hz hr hI  ) (Nat.le_of_ble_eq_true rfl) ?_
  intro r I20142 J20143 Ra hq
  obtain ⟨⟨hI20142, ec⟩, v20144, rfl⟩ := hq
  show WP _ _ _ _ (.int _ :: _) _ _ _ _
  rw [ec]
  clear ec Ra
  have e20145 : I20142 (ad g 1) 1 = L := hI20142.2
  have b20146 := BT_get hI20142.1 1 1 2 (0) (0) (900) (by decide) 1 (by decide) (by decide)
  rw [e20145] at b20146
  refine WP_istore_n (ls' := [(0, _), (1, _)]) dX10_book_14 (by decide) rfl ?_
  refine WP_aload_n dX10_book_15 rfl ?_
  refine WP_getr dX10_book_16 fX10_12 rfl (lyx_is hy 0 10 rfl) (rfx hr 0 0 1 (by decide)) ?_
  refine WQ_iconst (0) (0) dX10_book_19 rfl rfl (fun v20147 hv20147 => ?_)
  refine WQ_puti dX10_book_20 fX10_90 rfl rfl (lyx_is hy 1 5 rfl) (fun I20148 eI20148 => ?_)
  have hI20148 : XI g n v20147 I20148 := by rw [eI20148]; exact (xi_len hy hI20142 (by omega) (by omega))
  have e20149 : I20148 (ad g 1) 1 = v20147 := by rw [eI20148, pp_self]
  clear eI20148
  refine WP_iload_n dX10_book_23 rfl ?_
  exact WP_iret dX10_book_24 rfl ⟨⟨⟨_, hI20148, by omega⟩, rfl⟩, _, rfl⟩
set_option maxHeartbeats 4000000 in
set_option maxRecDepth 100000 in
theorem sx_values_6 {g : GG} {n : Int} {L : Int32} (hy : LyX g) {aK aV : Nat → Nat} {fo : Option Nat} (hz : HZ g aK aV fo)  {I : pI} {J : pJ} {R : pR} (hr : RfX g R) (hT : R (ad g 5) 0 = some (ad g 6)) (hI : XI g n L I)   : SP g mX10_values [.ref (ad g 0)] I J R (fun r I' J' R' => ((∃ L2 : Int32, XI g n L2 I' ∧ L2.toInt = 0) ∧ R' = R) ∧ ∃ v : Int32, r = some (.int v)) := by
  refine SP_of ⟨by decide, rfl⟩ (Nat.le_of_ble_eq_true rfl) ?_
  have e20150 : I (ad g 1) 1 = L := hI.2
  have b20151 := BT_get hI.1 1 1 2 (0) (0) (900) (by decide) 1 (by decide) (by decide)
  rw [e20150] at b20151
  refine WP_aload_n dX10_values_0 rfl ?_
  refine WP_getr dX10_values_1 fX10_21 rfl (lyx_is hy 0 10 rfl) (rfx hr 0 1 3 (by decide)) ?_
  refine WP_aload_n dX10_values_4 rfl ?_
  refine WP_getr dX10_values_5 fX10_33 rfl (lyx_is hy 0 10 rfl) (rfx hr 0 2 5 (by decide)) ?_
  refine WP_getr dX10_values_8 fX10_102 rfl (lyx_is hy 5 0 rfl) hT ?_
  refine WP_aload_n dX10_values_11 rfl ?_
  refine WP_getr dX10_values_12 fX10_83 rfl (lyx_is hy 0 10 rfl) (rfx hr 0 9 71 (by decide)) ?_
  refine WP_getr dX10_values_15 fX10_296 rfl (lyx_is hy 71 1 rfl) (rfx hr 71 2 72 (by decide)) ?_
  refine WP_callV2 (k := 3) dX10_values_18 ⟨⟨⟨by decide, by decide⟩, zX3_readValues⟩, lX10_299, by decide, rfl, vX3_readValues.1, vX3_readValues.2⟩ (lyx_is hy 3 3 rfl) (sx_readValues_6 hy hz hr hI  ) (Nat.le_of_ble_eq_true rfl) ?_
  intro r I20152 J20153 Ra hq
  obtain ⟨⟨hI20152, ec⟩, v20154, rfl, av20154, bv20154⟩ := hq
  show WP _ _ _ _ (.int _ :: _) _ _ _ _
  rw [ec]
  clear ec Ra
  have e20155 : I20152 (ad g 1) 1 = L := hI20152.2
  have b20156 := BT_get hI20152.1 1 1 2 (0) (0) (900) (by decide) 1 (by decide) (by decide)
  rw [e20155] at b20156
  refine WP_istore_n (ls' := [(0, _), (1, _)]) dX10_values_21 (by decide) rfl ?_
  refine WP_aload_n dX10_values_22 rfl ?_
  refine WP_getr dX10_values_23 fX10_12 rfl (lyx_is hy 0 10 rfl) (rfx hr 0 0 1 (by decide)) ?_
  refine WQ_iconst (0) (0) dX10_values_26 rfl rfl (fun v20157 hv20157 => ?_)
  refine WQ_puti dX10_values_27 fX10_90 rfl rfl (lyx_is hy 1 5 rfl) (fun I20158 eI20158 => ?_)
  have hI20158 : XI g n v20157 I20158 := by rw [eI20158]; exact (xi_len hy hI20152 (by omega) (by omega))
  have e20159 : I20158 (ad g 1) 1 = v20157 := by rw [eI20158, pp_self]
  clear eI20158
  refine WP_iload_n dX10_values_30 rfl ?_
  refine WQ_if_ne 36 dX10_values_31 rfl (fun c20159 => ?_) (fun c20159 => ?_)
  · refine WP_aload_n dX10_values_36 rfl ?_
    refine WP_getr dX10_values_37 fX10_83 rfl (lyx_is hy 0 10 rfl) (rfx hr 0 9 71 (by decide)) ?_
    refine WP_callV0 (k := 1) dX10_values_40 ⟨⟨⟨by decide, by decide⟩, zX1_takeDraft⟩, lX10_303, by decide, rfl, vX1_takeDraft.1, vX1_takeDraft.2⟩ (lyx_is hy 71 1 rfl) (sx_takeDraft hy hr hI20158  ) (Nat.le_of_ble_eq_true rfl) ?_
    intro r I20161 J20162 Ra hq
    obtain ⟨⟨hI20161, ec⟩, rfl⟩ := hq
    rw [ec]
    clear ec Ra
    have e20163 : I20161 (ad g 1) 1 = v20157 := hI20161.2
    have b20164 := BT_get hI20161.1 1 1 2 (0) (0) (900) (by decide) 1 (by decide) (by decide)
    rw [e20163] at b20164
    refine WQ_iconst (1) (1) dX10_values_43 rfl rfl (fun v20165 hv20165 => ?_)
    exact WP_iret dX10_values_44 rfl ⟨⟨⟨_, hI20161, by omega⟩, rfl⟩, _, rfl⟩
  · refine WQ_iconst (-1) (-1) dX10_values_34 rfl rfl (fun v20166 hv20166 => ?_)
    exact WP_iret dX10_values_35 rfl ⟨⟨⟨_, hI20158, by omega⟩, rfl⟩, _, rfl⟩
set_option maxHeartbeats 4000000 in
set_option maxRecDepth 100000 in
theorem sx_town_6 {g : GG} {n : Int} {L : Int32} (hy : LyX g) {aK aV : Nat → Nat} {fo : Option Nat} (hz : HZ g aK aV fo)  {I : pI} {J : pJ} {R : pR} (hr : RfX g R) (hP : NL g R) (hT : R (ad g 5) 0 = some (ad g 6)) (hI : XI g n L I)   (hn : 0 ≤ n) (hsp : R (ad g 0) 10 = some (ad g 27)) : SP g mX10_town [.ref (ad g 0)] I J R (fun r I' J' R' => ((∃ L2 : Int32, XI g n L2 I' ∧ L2.toInt = 0) ∧ (RfX g R' ∧ TS g R' ∧ NL g R')) ∧ ∃ v : Int32, r = some (.int v)) := by
  refine SP_of ⟨by decide, rfl⟩ (Nat.le_of_ble_eq_true rfl) ?_
  have e20167 : I (ad g 1) 1 = L := hI.2
  have b20168 := BT_get hI.1 1 1 2 (0) (0) (900) (by decide) 1 (by decide) (by decide)
  rw [e20167] at b20168
  refine WP_aload_n dX10_town_0 rfl ?_
  refine WP_getr dX10_town_1 fX10_21 rfl (lyx_is hy 0 10 rfl) (rfx hr 0 1 3 (by decide)) ?_
  refine WP_aload_n dX10_town_4 rfl ?_
  refine WP_getr dX10_town_5 fX10_37 rfl (lyx_is hy 0 10 rfl) hsp ?_
  refine WP_callV1 (k := 3) dX10_town_8 ⟨⟨⟨by decide, by decide⟩, zX3_readTown⟩, lX10_98, by decide, rfl, vX3_readTown.1, vX3_readTown.2⟩ (lyx_is hy 3 3 rfl) (sx_readTown_27 hy hz hr hI  ) (Nat.le_of_ble_eq_true rfl) ?_
  intro r I20169 J20170 Ra hq
  obtain ⟨⟨hI20169, ec⟩, v20171, rfl, av20171, bv20171⟩ := hq
  show WP _ _ _ _ (.int _ :: _) _ _ _ _
  rw [ec]
  clear ec Ra
  have e20172 : I20169 (ad g 1) 1 = L := hI20169.2
  have b20173 := BT_get hI20169.1 1 1 2 (0) (0) (900) (by decide) 1 (by decide) (by decide)
  rw [e20172] at b20173
  refine WP_istore_n (ls' := [(0, _), (1, _)]) dX10_town_11 (by decide) rfl ?_
  refine WP_aload_n dX10_town_12 rfl ?_
  refine WP_getr dX10_town_13 fX10_12 rfl (lyx_is hy 0 10 rfl) (rfx hr 0 0 1 (by decide)) ?_
  refine WQ_iconst (0) (0) dX10_town_16 rfl rfl (fun v20174 hv20174 => ?_)
  refine WQ_puti dX10_town_17 fX10_90 rfl rfl (lyx_is hy 1 5 rfl) (fun I20175 eI20175 => ?_)
  have hI20175 : XI g n v20174 I20175 := by rw [eI20175]; exact (xi_len hy hI20169 (by omega) (by omega))
  have e20176 : I20175 (ad g 1) 1 = v20174 := by rw [eI20175, pp_self]
  clear eI20175
  refine WP_iload_n dX10_town_20 rfl ?_
  refine WQ_if_ne 26 dX10_town_21 rfl (fun c20176 => ?_) (fun c20176 => ?_)
  · refine WP_aload_n dX10_town_26 rfl ?_
    refine WP_getr dX10_town_27 fX10_33 rfl (lyx_is hy 0 10 rfl) (rfx hr 0 2 5 (by decide)) ?_
    refine WP_getr dX10_town_30 fX10_102 rfl (lyx_is hy 5 0 rfl) hT ?_
    refine WP_astore_n (ls' := [(0, _), (1, _), (2, _)]) dX10_town_33 (by decide) rfl ?_
    refine WP_aload_n dX10_town_34 rfl ?_
    refine WP_getr dX10_town_35 fX10_33 rfl (lyx_is hy 0 10 rfl) (rfx hr 0 2 5 (by decide)) ?_
    refine WP_aload_n dX10_town_38 rfl ?_
    refine WP_getr dX10_town_39 fX10_37 rfl (lyx_is hy 0 10 rfl) hsp ?_
    refine WP_putr dX10_town_42 fX10_102 rfl rfl rfl rfl (lyx_is hy 5 0 rfl) ?_
    obtain ⟨R20178, eR20178⟩ : ∃ R9 : pR, R9 = pp R (ad g 5) 0 (some (ad g 27)) := ⟨_, rfl⟩
    rw [← eR20178]
    have hrR20178 : RfX g R20178 := by rw [eR20178]; exact rfx_pt hy hr (by decide)
    have hPR20178 : NL g R20178 := by rw [eR20178]; exact nl_pt hy hP (by decide) (by decide)
    have hOR20178 : R20178 (ad g 0) 10 = some (ad g 27) := by rw [eR20178, pp_ne _ _ (Or.inl (lyx_ne hy (by decide) (by decide) (by decide)))]; exact hsp
    have hQR20178 : R20178 (ad g 5) 0 = some (ad g 27) := by rw [eR20178, pp_self]
    clear eR20178
    refine WP_aload_n dX10_town_45 rfl ?_
    refine WP_aload_n dX10_town_46 rfl ?_
    refine WP_putr dX10_town_47 fX10_37 rfl rfl rfl rfl (lyx_is hy 0 10 rfl) ?_
    obtain ⟨R20179, eR20179⟩ : ∃ R9 : pR, R9 = pp R20178 (ad g 0) 10 (some (ad g 6)) := ⟨_, rfl⟩
    rw [← eR20179]
    have hrR20179 : RfX g R20179 := by rw [eR20179]; exact rfx_pt hy hrR20178 (by decide)
    have hPR20179 : NL g R20179 := by rw [eR20179]; exact nl_pt hy hPR20178 (by decide) (by decide)
    have hOR20179 : R20179 (ad g 5) 0 = some (ad g 27) := by rw [eR20179, pp_ne _ _ (Or.inl (lyx_ne hy (by decide) (by decide) (by decide)))]; exact hQR20178
    have hQR20179 : R20179 (ad g 0) 10 = some (ad g 6) := by rw [eR20179, pp_self]
    clear eR20179
    refine WP_aload_n dX10_town_50 rfl ?_
    refine WP_callV0 (k := 10) dX10_town_51 ⟨⟨⟨by decide, by decide⟩, zX10_settle⟩, lX10_87, by decide, rfl, vX10_settle.1, vX10_settle.2⟩ (lyx_is hy 0 10 rfl) (sx_settle_27 hy hrR20179 hOR20179 hI20175   (by omega)) (Nat.le_of_ble_eq_true rfl) ?_
    intro r I20180 J20181 Ra hq
    obtain ⟨⟨hI20180, ec⟩, rfl⟩ := hq
    rw [ec]
    clear ec Ra
    have e20182 : I20180 (ad g 1) 1 = v20174 := hI20180.2
    have b20183 := BT_get hI20180.1 1 1 2 (0) (0) (900) (by decide) 1 (by decide) (by decide)
    rw [e20182] at b20183
    refine WP_aload_n dX10_town_54 rfl ?_
    refine WP_getr dX10_town_55 fX10_33 rfl (lyx_is hy 0 10 rfl) (rfx hrR20179 0 2 5 (by decide)) ?_
    refine WP_getr dX10_town_58 fX10_102 rfl (lyx_is hy 5 0 rfl) hOR20179 ?_
    refine WQ_getiu dX10_town_61 fX10_105 rfl (lyx_is hy 27 7 rfl) (fun v20184 ev20184 => ?_)
    exact WP_iret dX10_town_64 rfl ⟨⟨⟨_, hI20180, by omega⟩, ⟨hrR20179, (Or.inr ⟨hOR20179, hQR20179⟩), hPR20179⟩⟩, _, rfl⟩
  · refine WQ_iconst (-1) (-1) dX10_town_24 rfl rfl (fun v20185 hv20185 => ?_)
    exact WP_iret dX10_town_25 rfl ⟨⟨⟨_, hI20175, by omega⟩, ⟨hr, (Or.inl ⟨hT, hsp⟩), hP⟩⟩, _, rfl⟩
set_option maxHeartbeats 4000000 in
set_option maxRecDepth 100000 in
theorem sx_book_27 {g : GG} {n : Int} {L : Int32} (hy : LyX g) {aK aV : Nat → Nat} {fo : Option Nat} (hz : HZ g aK aV fo)  {I : pI} {J : pJ} {R : pR} (hr : RfX g R) (hT : R (ad g 5) 0 = some (ad g 27)) (hI : XI g n L I)   : SP g mX10_book [.ref (ad g 0)] I J R (fun r I' J' R' => ((∃ L2 : Int32, XI g n L2 I' ∧ L2.toInt = 0) ∧ R' = R) ∧ ∃ v : Int32, r = some (.int v)) := by
  refine SP_of ⟨by decide, rfl⟩ (Nat.le_of_ble_eq_true rfl) ?_
  have e20186 : I (ad g 1) 1 = L := hI.2
  have b20187 := BT_get hI.1 1 1 2 (0) (0) (900) (by decide) 1 (by decide) (by decide)
  rw [e20186] at b20187
  refine WP_aload_n dX10_book_0 rfl ?_
  refine WP_getr dX10_book_1 fX10_21 rfl (lyx_is hy 0 10 rfl) (rfx hr 0 1 3 (by decide)) ?_
  refine WP_aload_n dX10_book_4 rfl ?_
  refine WP_getr dX10_book_5 fX10_33 rfl (lyx_is hy 0 10 rfl) (rfx hr 0 2 5 (by decide)) ?_
  refine WP_getr dX10_book_8 fX10_102 rfl (lyx_is hy 5 0 rfl) hT ?_
  refine WP_callV1 (k := 3) dX10_book_11 ⟨⟨⟨by decide, by decide⟩, zX3_readBook⟩, lX10_328, by decide, rfl, vX3_readBook.1, vX3_readBook.2⟩ (lyx_is hy 3 3 rfl) (sx_readBook_27 hy hz hr hI  ) (Nat.le_of_ble_eq_true rfl) ?_
  intro r I20188 J20189 Ra hq
  obtain ⟨⟨hI20188, ec⟩, v20190, rfl⟩ := hq
  show WP _ _ _ _ (.int _ :: _) _ _ _ _
  rw [ec]
  clear ec Ra
  have e20191 : I20188 (ad g 1) 1 = L := hI20188.2
  have b20192 := BT_get hI20188.1 1 1 2 (0) (0) (900) (by decide) 1 (by decide) (by decide)
  rw [e20191] at b20192
  refine WP_istore_n (ls' := [(0, _), (1, _)]) dX10_book_14 (by decide) rfl ?_
  refine WP_aload_n dX10_book_15 rfl ?_
  refine WP_getr dX10_book_16 fX10_12 rfl (lyx_is hy 0 10 rfl) (rfx hr 0 0 1 (by decide)) ?_
  refine WQ_iconst (0) (0) dX10_book_19 rfl rfl (fun v20193 hv20193 => ?_)
  refine WQ_puti dX10_book_20 fX10_90 rfl rfl (lyx_is hy 1 5 rfl) (fun I20194 eI20194 => ?_)
  have hI20194 : XI g n v20193 I20194 := by rw [eI20194]; exact (xi_len hy hI20188 (by omega) (by omega))
  have e20195 : I20194 (ad g 1) 1 = v20193 := by rw [eI20194, pp_self]
  clear eI20194
  refine WP_iload_n dX10_book_23 rfl ?_
  exact WP_iret dX10_book_24 rfl ⟨⟨⟨_, hI20194, by omega⟩, rfl⟩, _, rfl⟩
set_option maxHeartbeats 4000000 in
set_option maxRecDepth 100000 in
theorem sx_values_27 {g : GG} {n : Int} {L : Int32} (hy : LyX g) {aK aV : Nat → Nat} {fo : Option Nat} (hz : HZ g aK aV fo)  {I : pI} {J : pJ} {R : pR} (hr : RfX g R) (hT : R (ad g 5) 0 = some (ad g 27)) (hI : XI g n L I)   : SP g mX10_values [.ref (ad g 0)] I J R (fun r I' J' R' => ((∃ L2 : Int32, XI g n L2 I' ∧ L2.toInt = 0) ∧ R' = R) ∧ ∃ v : Int32, r = some (.int v)) := by
  refine SP_of ⟨by decide, rfl⟩ (Nat.le_of_ble_eq_true rfl) ?_
  have e20196 : I (ad g 1) 1 = L := hI.2
  have b20197 := BT_get hI.1 1 1 2 (0) (0) (900) (by decide) 1 (by decide) (by decide)
  rw [e20196] at b20197
  refine WP_aload_n dX10_values_0 rfl ?_
  refine WP_getr dX10_values_1 fX10_21 rfl (lyx_is hy 0 10 rfl) (rfx hr 0 1 3 (by decide)) ?_
  refine WP_aload_n dX10_values_4 rfl ?_
  refine WP_getr dX10_values_5 fX10_33 rfl (lyx_is hy 0 10 rfl) (rfx hr 0 2 5 (by decide)) ?_
  refine WP_getr dX10_values_8 fX10_102 rfl (lyx_is hy 5 0 rfl) hT ?_
  refine WP_aload_n dX10_values_11 rfl ?_
  refine WP_getr dX10_values_12 fX10_83 rfl (lyx_is hy 0 10 rfl) (rfx hr 0 9 71 (by decide)) ?_
  refine WP_getr dX10_values_15 fX10_296 rfl (lyx_is hy 71 1 rfl) (rfx hr 71 2 72 (by decide)) ?_
  refine WP_callV2 (k := 3) dX10_values_18 ⟨⟨⟨by decide, by decide⟩, zX3_readValues⟩, lX10_299, by decide, rfl, vX3_readValues.1, vX3_readValues.2⟩ (lyx_is hy 3 3 rfl) (sx_readValues_27 hy hz hr hI  ) (Nat.le_of_ble_eq_true rfl) ?_
  intro r I20198 J20199 Ra hq
  obtain ⟨⟨hI20198, ec⟩, v20200, rfl, av20200, bv20200⟩ := hq
  show WP _ _ _ _ (.int _ :: _) _ _ _ _
  rw [ec]
  clear ec Ra
  have e20201 : I20198 (ad g 1) 1 = L := hI20198.2
  have b20202 := BT_get hI20198.1 1 1 2 (0) (0) (900) (by decide) 1 (by decide) (by decide)
  rw [e20201] at b20202
  refine WP_istore_n (ls' := [(0, _), (1, _)]) dX10_values_21 (by decide) rfl ?_
  refine WP_aload_n dX10_values_22 rfl ?_
  refine WP_getr dX10_values_23 fX10_12 rfl (lyx_is hy 0 10 rfl) (rfx hr 0 0 1 (by decide)) ?_
  refine WQ_iconst (0) (0) dX10_values_26 rfl rfl (fun v20203 hv20203 => ?_)
  refine WQ_puti dX10_values_27 fX10_90 rfl rfl (lyx_is hy 1 5 rfl) (fun I20204 eI20204 => ?_)
  have hI20204 : XI g n v20203 I20204 := by rw [eI20204]; exact (xi_len hy hI20198 (by omega) (by omega))
  have e20205 : I20204 (ad g 1) 1 = v20203 := by rw [eI20204, pp_self]
  clear eI20204
  refine WP_iload_n dX10_values_30 rfl ?_
  refine WQ_if_ne 36 dX10_values_31 rfl (fun c20205 => ?_) (fun c20205 => ?_)
  · refine WP_aload_n dX10_values_36 rfl ?_
    refine WP_getr dX10_values_37 fX10_83 rfl (lyx_is hy 0 10 rfl) (rfx hr 0 9 71 (by decide)) ?_
    refine WP_callV0 (k := 1) dX10_values_40 ⟨⟨⟨by decide, by decide⟩, zX1_takeDraft⟩, lX10_303, by decide, rfl, vX1_takeDraft.1, vX1_takeDraft.2⟩ (lyx_is hy 71 1 rfl) (sx_takeDraft hy hr hI20204  ) (Nat.le_of_ble_eq_true rfl) ?_
    intro r I20207 J20208 Ra hq
    obtain ⟨⟨hI20207, ec⟩, rfl⟩ := hq
    rw [ec]
    clear ec Ra
    have e20209 : I20207 (ad g 1) 1 = v20203 := hI20207.2
    have b20210 := BT_get hI20207.1 1 1 2 (0) (0) (900) (by decide) 1 (by decide) (by decide)
    rw [e20209] at b20210
    refine WQ_iconst (1) (1) dX10_values_43 rfl rfl (fun v20211 hv20211 => ?_)
    exact WP_iret dX10_values_44 rfl ⟨⟨⟨_, hI20207, by omega⟩, rfl⟩, _, rfl⟩
  · refine WQ_iconst (-1) (-1) dX10_values_34 rfl rfl (fun v20212 hv20212 => ?_)
    exact WP_iret dX10_values_35 rfl ⟨⟨⟨_, hI20204, by omega⟩, rfl⟩, _, rfl⟩
set_option maxHeartbeats 4000000 in
set_option maxRecDepth 100000 in
theorem sx_town_27 {g : GG} {n : Int} {L : Int32} (hy : LyX g) {aK aV : Nat → Nat} {fo : Option Nat} (hz : HZ g aK aV fo)  {I : pI} {J : pJ} {R : pR} (hr : RfX g R) (hP : NL g R) (hT : R (ad g 5) 0 = some (ad g 27)) (hI : XI g n L I)   (hn : 0 ≤ n) (hsp : R (ad g 0) 10 = some (ad g 6)) : SP g mX10_town [.ref (ad g 0)] I J R (fun r I' J' R' => ((∃ L2 : Int32, XI g n L2 I' ∧ L2.toInt = 0) ∧ (RfX g R' ∧ TS g R' ∧ NL g R')) ∧ ∃ v : Int32, r = some (.int v)) := by
  refine SP_of ⟨by decide, rfl⟩ (Nat.le_of_ble_eq_true rfl) ?_
  have e20213 : I (ad g 1) 1 = L := hI.2
  have b20214 := BT_get hI.1 1 1 2 (0) (0) (900) (by decide) 1 (by decide) (by decide)
  rw [e20213] at b20214
  refine WP_aload_n dX10_town_0 rfl ?_
  refine WP_getr dX10_town_1 fX10_21 rfl (lyx_is hy 0 10 rfl) (rfx hr 0 1 3 (by decide)) ?_
  refine WP_aload_n dX10_town_4 rfl ?_
  refine WP_getr dX10_town_5 fX10_37 rfl (lyx_is hy 0 10 rfl) hsp ?_
  refine WP_callV1 (k := 3) dX10_town_8 ⟨⟨⟨by decide, by decide⟩, zX3_readTown⟩, lX10_98, by decide, rfl, vX3_readTown.1, vX3_readTown.2⟩ (lyx_is hy 3 3 rfl) (sx_readTown_6 hy hz hr hI  ) (Nat.le_of_ble_eq_true rfl) ?_
  intro r I20215 J20216 Ra hq
  obtain ⟨⟨hI20215, ec⟩, v20217, rfl, av20217, bv20217⟩ := hq
  show WP _ _ _ _ (.int _ :: _) _ _ _ _
  rw [ec]
  clear ec Ra
  have e20218 : I20215 (ad g 1) 1 = L := hI20215.2
  have b20219 := BT_get hI20215.1 1 1 2 (0) (0) (900) (by decide) 1 (by decide) (by decide)
  rw [e20218] at b20219
  refine WP_istore_n (ls' := [(0, _), (1, _)]) dX10_town_11 (by decide) rfl ?_
  refine WP_aload_n dX10_town_12 rfl ?_
  refine WP_getr dX10_town_13 fX10_12 rfl (lyx_is hy 0 10 rfl) (rfx hr 0 0 1 (by decide)) ?_
  refine WQ_iconst (0) (0) dX10_town_16 rfl rfl (fun v20220 hv20220 => ?_)
  refine WQ_puti dX10_town_17 fX10_90 rfl rfl (lyx_is hy 1 5 rfl) (fun I20221 eI20221 => ?_)
  have hI20221 : XI g n v20220 I20221 := by rw [eI20221]; exact (xi_len hy hI20215 (by omega) (by omega))
  have e20222 : I20221 (ad g 1) 1 = v20220 := by rw [eI20221, pp_self]
  clear eI20221
  refine WP_iload_n dX10_town_20 rfl ?_
  refine WQ_if_ne 26 dX10_town_21 rfl (fun c20222 => ?_) (fun c20222 => ?_)
  · refine WP_aload_n dX10_town_26 rfl ?_
    refine WP_getr dX10_town_27 fX10_33 rfl (lyx_is hy 0 10 rfl) (rfx hr 0 2 5 (by decide)) ?_
    refine WP_getr dX10_town_30 fX10_102 rfl (lyx_is hy 5 0 rfl) hT ?_
    refine WP_astore_n (ls' := [(0, _), (1, _), (2, _)]) dX10_town_33 (by decide) rfl ?_
    refine WP_aload_n dX10_town_34 rfl ?_
    refine WP_getr dX10_town_35 fX10_33 rfl (lyx_is hy 0 10 rfl) (rfx hr 0 2 5 (by decide)) ?_
    refine WP_aload_n dX10_town_38 rfl ?_
    refine WP_getr dX10_town_39 fX10_37 rfl (lyx_is hy 0 10 rfl) hsp ?_
    refine WP_putr dX10_town_42 fX10_102 rfl rfl rfl rfl (lyx_is hy 5 0 rfl) ?_
    obtain ⟨R20224, eR20224⟩ : ∃ R9 : pR, R9 = pp R (ad g 5) 0 (some (ad g 6)) := ⟨_, rfl⟩
    rw [← eR20224]
    have hrR20224 : RfX g R20224 := by rw [eR20224]; exact rfx_pt hy hr (by decide)
    have hPR20224 : NL g R20224 := by rw [eR20224]; exact nl_pt hy hP (by decide) (by decide)
    have hOR20224 : R20224 (ad g 0) 10 = some (ad g 6) := by rw [eR20224, pp_ne _ _ (Or.inl (lyx_ne hy (by decide) (by decide) (by decide)))]; exact hsp
    have hQR20224 : R20224 (ad g 5) 0 = some (ad g 6) := by rw [eR20224, pp_self]
    clear eR20224
    refine WP_aload_n dX10_town_45 rfl ?_
    refine WP_aload_n dX10_town_46 rfl ?_
    refine WP_putr dX10_town_47 fX10_37 rfl rfl rfl rfl (lyx_is hy 0 10 rfl) ?_
    obtain ⟨R20225, eR20225⟩ : ∃ R9 : pR, R9 = pp R20224 (ad g 0) 10 (some (ad g 27)) := ⟨_, rfl⟩
    rw [← eR20225]
    have hrR20225 : RfX g R20225 := by rw [eR20225]; exact rfx_pt hy hrR20224 (by decide)
    have hPR20225 : NL g R20225 := by rw [eR20225]; exact nl_pt hy hPR20224 (by decide) (by decide)
    have hOR20225 : R20225 (ad g 5) 0 = some (ad g 6) := by rw [eR20225, pp_ne _ _ (Or.inl (lyx_ne hy (by decide) (by decide) (by decide)))]; exact hQR20224
    have hQR20225 : R20225 (ad g 0) 10 = some (ad g 27) := by rw [eR20225, pp_self]
    clear eR20225
    refine WP_aload_n dX10_town_50 rfl ?_
    refine WP_callV0 (k := 10) dX10_town_51 ⟨⟨⟨by decide, by decide⟩, zX10_settle⟩, lX10_87, by decide, rfl, vX10_settle.1, vX10_settle.2⟩ (lyx_is hy 0 10 rfl) (sx_settle_6 hy hrR20225 hOR20225 hI20221   (by omega)) (Nat.le_of_ble_eq_true rfl) ?_
    intro r I20226 J20227 Ra hq
    obtain ⟨⟨hI20226, ec⟩, rfl⟩ := hq
    rw [ec]
    clear ec Ra
    have e20228 : I20226 (ad g 1) 1 = v20220 := hI20226.2
    have b20229 := BT_get hI20226.1 1 1 2 (0) (0) (900) (by decide) 1 (by decide) (by decide)
    rw [e20228] at b20229
    refine WP_aload_n dX10_town_54 rfl ?_
    refine WP_getr dX10_town_55 fX10_33 rfl (lyx_is hy 0 10 rfl) (rfx hrR20225 0 2 5 (by decide)) ?_
    refine WP_getr dX10_town_58 fX10_102 rfl (lyx_is hy 5 0 rfl) hOR20225 ?_
    refine WQ_getiu dX10_town_61 fX10_105 rfl (lyx_is hy 6 7 rfl) (fun v20230 ev20230 => ?_)
    exact WP_iret dX10_town_64 rfl ⟨⟨⟨_, hI20226, by omega⟩, ⟨hrR20225, (Or.inl ⟨hOR20225, hQR20225⟩), hPR20225⟩⟩, _, rfl⟩
  · refine WQ_iconst (-1) (-1) dX10_town_24 rfl rfl (fun v20231 hv20231 => ?_)
    exact WP_iret dX10_town_25 rfl ⟨⟨⟨_, hI20221, by omega⟩, ⟨hr, (Or.inr ⟨hT, hsp⟩), hP⟩⟩, _, rfl⟩
