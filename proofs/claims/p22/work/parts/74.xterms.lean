set_option maxHeartbeats 4000000 in
set_option maxRecDepth 100000 in
theorem sx_mostFromStore_50 {g : GG} {n : Int} {L : Int32} (hy : LyX g)  {I : pI} {J : pJ} {R : pR} (hr : RfX g R) (hI : XI g n L I) (st : Int32) (st_lo : 0 ≤ st.toInt) (st_hi : st.toInt ≤ 5) : SP g mX6_mostFromStore [.ref (ad g 50), .int st] I J R (fun r I' J' R' => (I' = I ∧ J' = J ∧ R' = R) ∧ ∃ v : Int32, r = some (.int v) ∧ 0 ≤ v.toInt ∧ v.toInt ≤ 3 ∧ v.toInt ≤ st.toInt) := by
  refine SP_of ⟨by decide, rfl⟩ (Nat.le_of_ble_eq_true rfl) ?_
  have e1195 : I (ad g 1) 1 = L := hI.2
  have b1196 := BT_get hI.1 1 1 2 (0) (0) (900) (by decide) 1 (by decide) (by decide)
  rw [e1195] at b1196
  refine WP_aload_n dX6_mostFromStore_0 rfl ?_
  refine WQ_geti dX6_mostFromStore_1 fX6_60 rfl (lyx_is hy 50 6 rfl) (BT_get hI.1 50 7 8 (0) (0) (1) (by decide) 7 (by decide) (by decide)) (fun v1197 ev1197 av1197 bv1197 => ?_)
  refine WQ_if_ne 11 dX6_mostFromStore_4 rfl (fun c1197 => ?_) (fun c1197 => ?_)
  · refine WP_iload_n dX6_mostFromStore_11 rfl ?_
    refine WP_aload_n dX6_mostFromStore_12 rfl ?_
    refine WQ_geti dX6_mostFromStore_13 fX6_36 rfl (lyx_is hy 50 6 rfl) (BT_get hI.1 50 1 2 (0) (0) (3) (by decide) 1 (by decide) (by decide)) (fun v1199 ev1199 av1199 bv1199 => ?_)
    refine WQ_icmp_ge 23 dX6_mostFromStore_16 rfl (fun c1199 => ?_) (fun c1199 => ?_)
    · refine WP_aload_n dX6_mostFromStore_23 rfl ?_
      refine WQ_getim dX6_mostFromStore_24 fX6_36 rfl (lyx_is hy 50 6 rfl) ev1199 ?_
      exact WP_iret dX6_mostFromStore_27 rfl ⟨⟨rfl, rfl, rfl⟩, _, rfl, by omega, by omega, by omega⟩
    · refine WP_iload_n dX6_mostFromStore_19 rfl ?_
      refine WP_goto 27 dX6_mostFromStore_20 rfl ?_
      exact WP_iret dX6_mostFromStore_27 rfl ⟨⟨rfl, rfl, rfl⟩, _, rfl, by omega, by omega, by omega⟩
  · refine WQ_iconst (0) (0) dX6_mostFromStore_7 rfl rfl (fun v1201 hv1201 => ?_)
    refine WP_goto 27 dX6_mostFromStore_8 rfl ?_
    exact WP_iret dX6_mostFromStore_27 rfl ⟨⟨rfl, rfl, rfl⟩, _, rfl, by omega, by omega, by omega⟩
set_option maxHeartbeats 4000000 in
set_option maxRecDepth 100000 in
theorem sx_priceOf_50 {g : GG} {n : Int} {L : Int32} (hy : LyX g)  {I : pI} {J : pJ} {R : pR} (hr : RfX g R) (hI : XI g n L I) (ea : Int32) (so : Int32) (ea_lo : 0 ≤ ea.toInt) (ea_hi : ea.toInt ≤ 3) (so_lo : 0 ≤ so.toInt) (so_hi : so.toInt ≤ 3) : SP g mX6_priceOf [.ref (ad g 50), .int ea, .int so] I J R (fun r I' J' R' => (I' = I ∧ J' = J ∧ R' = R) ∧ ∃ v : Int32, r = some (.int v) ∧ 0 ≤ v.toInt ∧ v.toInt ≤ 120) := by
  refine SP_of ⟨by decide, rfl⟩ (Nat.le_of_ble_eq_true rfl) ?_
  have e1202 : I (ad g 1) 1 = L := hI.2
  have b1203 := BT_get hI.1 1 1 2 (0) (0) (900) (by decide) 1 (by decide) (by decide)
  rw [e1202] at b1203
  refine WP_iload_n dX6_priceOf_0 rfl ?_
  refine WP_aload_n dX6_priceOf_1 rfl ?_
  refine WQ_geti dX6_priceOf_2 fX6_48 rfl (lyx_is hy 50 6 rfl) (BT_get hI.1 50 3 4 (0) (0) (20) (by decide) 3 (by decide) (by decide)) (fun v1204 ev1204 av1204 bv1204 => ?_)
  refine WQ_imulb (3) (20) dX6_priceOf_5 ⟨by omega, by omega⟩ ⟨by omega, by omega⟩ (by decide) (fun v1205 pv1205 av1205 bv1205 cv1205 => ?_)
  refine WP_iload_n dX6_priceOf_6 rfl ?_
  refine WP_aload_n dX6_priceOf_7 rfl ?_
  refine WQ_geti dX6_priceOf_8 fX6_51 rfl (lyx_is hy 50 6 rfl) (BT_get hI.1 50 4 5 (0) (0) (20) (by decide) 4 (by decide) (by decide)) (fun v1206 ev1206 av1206 bv1206 => ?_)
  refine WQ_imulb (3) (20) dX6_priceOf_11 ⟨by omega, by omega⟩ ⟨by omega, by omega⟩ (by decide) (fun v1207 pv1207 av1207 bv1207 cv1207 => ?_)
  refine WQ_iadd dX6_priceOf_12 (by omega) (by omega) (fun v1208 hv1208 => ?_)
  exact WP_iret dX6_priceOf_13 rfl ⟨⟨rfl, rfl, rfl⟩, _, rfl, by omega, by omega⟩
set_option maxHeartbeats 4000000 in
set_option maxRecDepth 100000 in
theorem sx_load_50_6 {g : GG} {n : Int} {L : Int32} (hy : LyX g)  {I : pI} {J : pJ} {R : pR} (hr : RfX g R) (hT : R (ad g 5) 0 = some (ad g 6)) (hI : XI g n L I) (so : Int32) (da : Int32) (so_lo : 0 ≤ so.toInt) (so_hi : so.toInt ≤ 3) (da_lo : 0 ≤ da.toInt) (da_hi : da.toInt ≤ 6) : SP g mX6_load [.ref (ad g 50), .ref (ad g 5), .int so, .int da] I J R (fun r I' J' R' => (XI g n L I' ∧ R' = R ∧ fz 74 g [50] I I' ∧ fz 74 g [] J J') ∧ r = none) := by
  refine SP_of ⟨by decide, rfl⟩ (Nat.le_of_ble_eq_true rfl) ?_
  have e1209 : I (ad g 1) 1 = L := hI.2
  have b1210 := BT_get hI.1 1 1 2 (0) (0) (900) (by decide) 1 (by decide) (by decide)
  rw [e1209] at b1210
  have fr0 : fz 74 g [50] I I := fz_rf
  have frj0 : fz 74 g [] J J := fz_rf
  refine WP_aload_n dX6_load_0 rfl ?_
  refine WP_getr dX6_load_1 fX6_15 rfl (lyx_is hy 5 0 rfl) hT ?_
  refine WP_astore (ls' := [(0, _), (1, _), (2, _), (3, _), (4, _)]) dX6_load_4 (by decide) rfl ?_
  refine WP_iload_n dX6_load_6 rfl ?_
  refine WQ_bipush (7) (7) dX6_load_7 rfl rfl (fun v1211 hv1211 => ?_)
  refine WQ_imulk (7) dX6_load_9 hv1211 (by omega) (by omega) (fun v1212 hv1212 => ?_)
  refine WP_iload_n dX6_load_10 rfl ?_
  refine WQ_iadd dX6_load_11 (by omega) (by omega) (fun v1213 hv1213 => ?_)
  refine WP_istore (ls' := [(0, _), (1, _), (2, _), (3, _), (4, _), (5, _)]) dX6_load_12 (by decide) rfl ?_
  refine WP_aload dX6_load_14 rfl ?_
  refine WQ_geti dX6_load_16 fX6_21 rfl (lyx_is hy 6 7 rfl) (BT_get hI.1 6 4 5 (-1) (0) (2) (by decide) 4 (by decide) (by decide)) (fun v1214 ev1214 av1214 bv1214 => ?_)
  refine WP_istore (ls' := [(0, _), (1, _), (2, _), (3, _), (4, _), (5, _), (6, _)]) dX6_load_19 (by decide) rfl ?_
  refine WP_aload dX6_load_21 rfl ?_
  refine WP_getr dX6_load_23 fX6_26 rfl (lyx_is hy 6 7 rfl) (rfx hr 6 9 11 (by decide)) ?_
  refine WP_iload_n dX6_load_26 rfl ?_
  refine WQ_ialdu dX6_load_27 (lyx_is hy 11 13 rfl) (lyx_n hy 11 4 rfl) (by omega) (by omega) (fun v1215 => ?_)
  refine WP_iload_n dX6_load_28 rfl ?_
  refine WQ_ishru dX6_load_29 (fun v1216 => ?_)
  refine WQ_iconst (1) (1) dX6_load_30 rfl rfl (fun v1217 hv1217 => ?_)
  refine WQ_iandu dX6_load_31 (fun v1218 => ?_)
  have jn40_1221 : ∀ (v1221 : Int32), 0 ≤ v1221.toInt → v1221.toInt ≤ 1 → WP g mX6_load 40 [(0, .ref (ad g 50)), (1, .ref (ad g 5)), (2, .int so), (3, .int da), (4, .ref (ad g 6)), (5, .int v1213), (6, .int v1214)] [.int v1221] I J R (fun r I' J' R' => (XI g n L I' ∧ R' = R ∧ fz 74 g [50] I I' ∧ fz 74 g [] J J') ∧ r = none) := by
    intro v1221 av1221 bv1221
    refine WP_istore (ls' := [(0, _), (1, _), (2, _), (3, _), (4, _), (5, _), (6, _), (7, _)]) dX6_load_40 (by decide) rfl ?_
    refine WP_aload_n dX6_load_42 rfl ?_
    refine WP_aload dX6_load_43 rfl ?_
    refine WP_getr dX6_load_45 fX6_30 rfl (lyx_is hy 6 7 rfl) (rfx hr 6 11 13 (by decide)) ?_
    refine WP_iload dX6_load_48 rfl ?_
    refine WQ_iald dX6_load_50 (lyx_is hy 13 13 rfl) (lyx_n hy 13 28 rfl) (by omega) (by omega) (fun q hq => BT_get hI.1 13 0 28 (-1) (0) (2) (by decide) q (Nat.zero_le _) hq) (fun v1223 av1223 bv1223 ev1223 => ?_)
    clear ev1223
    refine WQ_puti dX6_load_51 fX6_9 rfl rfl (lyx_is hy 50 6 rfl) (fun I1224 eI1224 => ?_)
    have hI1224 : XI g n L I1224 := by rw [eI1224]; exact (xi_f hy hI (c := 50) (-1) (0) (2) (by decide) (Or.inl (by decide)) (by decide) (by omega) (by omega))
    have e1225 : I1224 (ad g 1) 1 = L := by rw [eI1224, pp_ne _ _ (Or.inl (lyx_ne hy (by decide) (by decide) (by decide)))]; exact e1209
    have e1226 : I1224 (ad g 6) 4 = v1214 := by rw [eI1224, pp_ne _ _ (Or.inl (lyx_ne hy (by decide) (by decide) (by decide)))]; exact ev1214
    have e1227 : I1224 (ad g 50) 0 = v1223 := by rw [eI1224, pp_self]
    have fr1228 : fz 74 g [50] I I1224 := by rw [eI1224]; exact fzx_pp hy fr0 (by decide) (by decide)
    clear eI1224
    refine WP_aload_n dX6_load_54 rfl ?_
    refine WP_aload dX6_load_55 rfl ?_
    refine WP_getr dX6_load_57 fX6_33 rfl (lyx_is hy 6 7 rfl) (rfx hr 6 12 14 (by decide)) ?_
    refine WP_iload dX6_load_60 rfl ?_
    refine WQ_iald dX6_load_62 (lyx_is hy 14 13 rfl) (lyx_n hy 14 28 rfl) (by omega) (by omega) (fun q hq => BT_get hI1224.1 14 0 28 (0) (0) (3) (by decide) q (Nat.zero_le _) hq) (fun v1229 av1229 bv1229 ev1229 => ?_)
    clear ev1229
    refine WQ_puti dX6_load_63 fX6_36 rfl rfl (lyx_is hy 50 6 rfl) (fun I1230 eI1230 => ?_)
    have hI1230 : XI g n L I1230 := by rw [eI1230]; exact (xi_f hy hI1224 (c := 50) (0) (0) (3) (by decide) (Or.inl (by decide)) (by decide) (by omega) (by omega))
    have e1231 : I1230 (ad g 1) 1 = L := by rw [eI1230, pp_ne _ _ (Or.inl (lyx_ne hy (by decide) (by decide) (by decide)))]; exact e1225
    have e1232 : I1230 (ad g 6) 4 = v1214 := by rw [eI1230, pp_ne _ _ (Or.inl (lyx_ne hy (by decide) (by decide) (by decide)))]; exact e1226
    have e1233 : I1230 (ad g 50) 0 = v1223 := by rw [eI1230, pp_ne _ _ (Or.inr (by decide))]; exact e1227
    have e1234 : I1230 (ad g 50) 1 = v1229 := by rw [eI1230, pp_self]
    have fr1235 : fz 74 g [50] I I1230 := by rw [eI1230]; exact fzx_pp hy fr1228 (by decide) (by decide)
    clear eI1230
    refine WP_aload_n dX6_load_66 rfl ?_
    refine WP_aload dX6_load_67 rfl ?_
    refine WP_getr dX6_load_69 fX6_39 rfl (lyx_is hy 6 7 rfl) (rfx hr 6 13 15 (by decide)) ?_
    refine WP_iload dX6_load_72 rfl ?_
    refine WQ_iald dX6_load_74 (lyx_is hy 15 13 rfl) (lyx_n hy 15 28 rfl) (by omega) (by omega) (fun q hq => BT_get hI1230.1 15 0 28 (0) (0) (99) (by decide) q (Nat.zero_le _) hq) (fun v1236 av1236 bv1236 ev1236 => ?_)
    clear ev1236
    refine WQ_puti dX6_load_75 fX6_42 rfl rfl (lyx_is hy 50 6 rfl) (fun I1237 eI1237 => ?_)
    have hI1237 : XI g n L I1237 := by rw [eI1237]; exact (xi_f hy hI1230 (c := 50) (0) (0) (99) (by decide) (Or.inl (by decide)) (by decide) (by omega) (by omega))
    have e1238 : I1237 (ad g 1) 1 = L := by rw [eI1237, pp_ne _ _ (Or.inl (lyx_ne hy (by decide) (by decide) (by decide)))]; exact e1231
    have e1239 : I1237 (ad g 6) 4 = v1214 := by rw [eI1237, pp_ne _ _ (Or.inl (lyx_ne hy (by decide) (by decide) (by decide)))]; exact e1232
    have e1240 : I1237 (ad g 50) 0 = v1223 := by rw [eI1237, pp_ne _ _ (Or.inr (by decide))]; exact e1233
    have e1241 : I1237 (ad g 50) 1 = v1229 := by rw [eI1237, pp_ne _ _ (Or.inr (by decide))]; exact e1234
    have e1242 : I1237 (ad g 50) 2 = v1236 := by rw [eI1237, pp_self]
    have fr1243 : fz 74 g [50] I I1237 := by rw [eI1237]; exact fzx_pp hy fr1235 (by decide) (by decide)
    clear eI1237
    refine WP_aload_n dX6_load_78 rfl ?_
    refine WP_aload_n dX6_load_79 rfl ?_
    refine WQ_getim dX6_load_80 fX6_9 rfl (lyx_is hy 50 6 rfl) e1240 ?_
    refine WQ_iconst (-1) (-1) dX6_load_83 rfl rfl (fun v1244 hv1244 => ?_)
    have jn105_1250 : ∀ (v1250 : Int32), 0 ≤ v1250.toInt → v1250.toInt ≤ 20 → WP g mX6_load 105 [(0, .ref (ad g 50)), (1, .ref (ad g 5)), (2, .int so), (3, .int da), (4, .ref (ad g 6)), (5, .int v1213), (6, .int v1214), (7, .int v1221)] [.int v1250, .ref (ad g 50)] I1237 J R (fun r I' J' R' => (XI g n L I' ∧ R' = R ∧ fz 74 g [50] I I' ∧ fz 74 g [] J J') ∧ r = none) := by
      intro v1250 av1250 bv1250
      refine WQ_puti dX6_load_105 fX6_48 rfl rfl (lyx_is hy 50 6 rfl) (fun I1252 eI1252 => ?_)
      have hI1252 : XI g n L I1252 := by rw [eI1252]; exact (xi_f hy hI1237 (c := 50) (0) (0) (20) (by decide) (Or.inl (by decide)) (by decide) (by omega) (by omega))
      have e1253 : I1252 (ad g 1) 1 = L := by rw [eI1252, pp_ne _ _ (Or.inl (lyx_ne hy (by decide) (by decide) (by decide)))]; exact e1238
      have e1254 : I1252 (ad g 6) 4 = v1214 := by rw [eI1252, pp_ne _ _ (Or.inl (lyx_ne hy (by decide) (by decide) (by decide)))]; exact e1239
      have e1255 : I1252 (ad g 50) 0 = v1223 := by rw [eI1252, pp_ne _ _ (Or.inr (by decide))]; exact e1240
      have e1256 : I1252 (ad g 50) 1 = v1229 := by rw [eI1252, pp_ne _ _ (Or.inr (by decide))]; exact e1241
      have e1257 : I1252 (ad g 50) 2 = v1236 := by rw [eI1252, pp_ne _ _ (Or.inr (by decide))]; exact e1242
      have e1258 : I1252 (ad g 50) 3 = v1250 := by rw [eI1252, pp_self]
      have fr1259 : fz 74 g [50] I I1252 := by rw [eI1252]; exact fzx_pp hy fr1243 (by decide) (by decide)
      clear eI1252
      refine WP_aload_n dX6_load_108 rfl ?_
      refine WP_iload dX6_load_109 rfl ?_
      refine WQ_iconst (-1) (-1) dX6_load_111 rfl rfl (fun v1260 hv1260 => ?_)
      have jn131_1266 : ∀ (v1266 : Int32), 0 ≤ v1266.toInt → v1266.toInt ≤ 20 → WP g mX6_load 131 [(0, .ref (ad g 50)), (1, .ref (ad g 5)), (2, .int so), (3, .int da), (4, .ref (ad g 6)), (5, .int v1213), (6, .int v1214), (7, .int v1221)] [.int v1266, .ref (ad g 50)] I1252 J R (fun r I' J' R' => (XI g n L I' ∧ R' = R ∧ fz 74 g [50] I I' ∧ fz 74 g [] J J') ∧ r = none) := by
        intro v1266 av1266 bv1266
        refine WQ_puti dX6_load_131 fX6_51 rfl rfl (lyx_is hy 50 6 rfl) (fun I1268 eI1268 => ?_)
        have hI1268 : XI g n L I1268 := by rw [eI1268]; exact (xi_f hy hI1252 (c := 50) (0) (0) (20) (by decide) (Or.inl (by decide)) (by decide) (by omega) (by omega))
        have e1269 : I1268 (ad g 1) 1 = L := by rw [eI1268, pp_ne _ _ (Or.inl (lyx_ne hy (by decide) (by decide) (by decide)))]; exact e1253
        have e1270 : I1268 (ad g 6) 4 = v1214 := by rw [eI1268, pp_ne _ _ (Or.inl (lyx_ne hy (by decide) (by decide) (by decide)))]; exact e1254
        have e1271 : I1268 (ad g 50) 0 = v1223 := by rw [eI1268, pp_ne _ _ (Or.inr (by decide))]; exact e1255
        have e1272 : I1268 (ad g 50) 1 = v1229 := by rw [eI1268, pp_ne _ _ (Or.inr (by decide))]; exact e1256
        have e1273 : I1268 (ad g 50) 2 = v1236 := by rw [eI1268, pp_ne _ _ (Or.inr (by decide))]; exact e1257
        have e1274 : I1268 (ad g 50) 3 = v1250 := by rw [eI1268, pp_ne _ _ (Or.inr (by decide))]; exact e1258
        have e1275 : I1268 (ad g 50) 4 = v1266 := by rw [eI1268, pp_self]
        have fr1276 : fz 74 g [50] I I1268 := by rw [eI1268]; exact fzx_pp hy fr1259 (by decide) (by decide)
        clear eI1268
        refine WP_aload_n dX6_load_134 rfl ?_
        refine WP_iload dX6_load_135 rfl ?_
        have jn148_1278 : ∀ (v1278 : Int32), 0 ≤ v1278.toInt → v1278.toInt ≤ 3 → WP g mX6_load 148 [(0, .ref (ad g 50)), (1, .ref (ad g 5)), (2, .int so), (3, .int da), (4, .ref (ad g 6)), (5, .int v1213), (6, .int v1214), (7, .int v1221)] [.int v1278, .ref (ad g 50)] I1268 J R (fun r I' J' R' => (XI g n L I' ∧ R' = R ∧ fz 74 g [50] I I' ∧ fz 74 g [] J J') ∧ r = none) := by
          intro v1278 av1278 bv1278
          refine WQ_puti dX6_load_148 fX6_54 rfl rfl (lyx_is hy 50 6 rfl) (fun I1280 eI1280 => ?_)
          have hI1280 : XI g n L I1280 := by rw [eI1280]; exact (xi_f hy hI1268 (c := 50) (0) (0) (3) (by decide) (Or.inl (by decide)) (by decide) (by omega) (by omega))
          have e1281 : I1280 (ad g 1) 1 = L := by rw [eI1280, pp_ne _ _ (Or.inl (lyx_ne hy (by decide) (by decide) (by decide)))]; exact e1269
          have e1282 : I1280 (ad g 6) 4 = v1214 := by rw [eI1280, pp_ne _ _ (Or.inl (lyx_ne hy (by decide) (by decide) (by decide)))]; exact e1270
          have e1283 : I1280 (ad g 50) 0 = v1223 := by rw [eI1280, pp_ne _ _ (Or.inr (by decide))]; exact e1271
          have e1284 : I1280 (ad g 50) 1 = v1229 := by rw [eI1280, pp_ne _ _ (Or.inr (by decide))]; exact e1272
          have e1285 : I1280 (ad g 50) 2 = v1236 := by rw [eI1280, pp_ne _ _ (Or.inr (by decide))]; exact e1273
          have e1286 : I1280 (ad g 50) 3 = v1250 := by rw [eI1280, pp_ne _ _ (Or.inr (by decide))]; exact e1274
          have e1287 : I1280 (ad g 50) 4 = v1266 := by rw [eI1280, pp_ne _ _ (Or.inr (by decide))]; exact e1275
          have e1288 : I1280 (ad g 50) 5 = v1278 := by rw [eI1280, pp_self]
          have fr1289 : fz 74 g [50] I I1280 := by rw [eI1280]; exact fzx_pp hy fr1276 (by decide) (by decide)
          clear eI1280
          refine WP_aload_n dX6_load_151 rfl ?_
          refine WP_iload dX6_load_152 rfl ?_
          have jn168_1295 : ∀ (v1295 : Int32), 0 ≤ v1295.toInt → v1295.toInt ≤ 2 → WP g mX6_load 168 [(0, .ref (ad g 50)), (1, .ref (ad g 5)), (2, .int so), (3, .int da), (4, .ref (ad g 6)), (5, .int v1213), (6, .int v1214), (7, .int v1221)] [.int v1295, .ref (ad g 50)] I1280 J R (fun r I' J' R' => (XI g n L I' ∧ R' = R ∧ fz 74 g [50] I I' ∧ fz 74 g [] J J') ∧ r = none) := by
            intro v1295 av1295 bv1295
            refine WQ_puti dX6_load_168 fX6_57 rfl rfl (lyx_is hy 50 6 rfl) (fun I1297 eI1297 => ?_)
            have hI1297 : XI g n L I1297 := by rw [eI1297]; exact (xi_f hy hI1280 (c := 50) (0) (0) (2) (by decide) (Or.inl (by decide)) (by decide) (by omega) (by omega))
            have e1298 : I1297 (ad g 1) 1 = L := by rw [eI1297, pp_ne _ _ (Or.inl (lyx_ne hy (by decide) (by decide) (by decide)))]; exact e1281
            have e1299 : I1297 (ad g 6) 4 = v1214 := by rw [eI1297, pp_ne _ _ (Or.inl (lyx_ne hy (by decide) (by decide) (by decide)))]; exact e1282
            have e1300 : I1297 (ad g 50) 0 = v1223 := by rw [eI1297, pp_ne _ _ (Or.inr (by decide))]; exact e1283
            have e1301 : I1297 (ad g 50) 1 = v1229 := by rw [eI1297, pp_ne _ _ (Or.inr (by decide))]; exact e1284
            have e1302 : I1297 (ad g 50) 2 = v1236 := by rw [eI1297, pp_ne _ _ (Or.inr (by decide))]; exact e1285
            have e1303 : I1297 (ad g 50) 3 = v1250 := by rw [eI1297, pp_ne _ _ (Or.inr (by decide))]; exact e1286
            have e1304 : I1297 (ad g 50) 4 = v1266 := by rw [eI1297, pp_ne _ _ (Or.inr (by decide))]; exact e1287
            have e1305 : I1297 (ad g 50) 5 = v1278 := by rw [eI1297, pp_ne _ _ (Or.inr (by decide))]; exact e1288
            have e1306 : I1297 (ad g 50) 6 = v1295 := by rw [eI1297, pp_self]
            have fr1307 : fz 74 g [50] I I1297 := by rw [eI1297]; exact fzx_pp hy fr1289 (by decide) (by decide)
            clear eI1297
            refine WP_aload_n dX6_load_171 rfl ?_
            refine WP_aload_n dX6_load_172 rfl ?_
            refine WQ_getim dX6_load_173 fX6_9 rfl (lyx_is hy 50 6 rfl) e1300 ?_
            refine WQ_iconst (-1) (-1) dX6_load_176 rfl rfl (fun v1308 hv1308 => ?_)
            have jn194_1313 : ∀ (v1313 : Int32), 0 ≤ v1313.toInt → v1313.toInt ≤ 1 → WP g mX6_load 194 [(0, .ref (ad g 50)), (1, .ref (ad g 5)), (2, .int so), (3, .int da), (4, .ref (ad g 6)), (5, .int v1213), (6, .int v1214), (7, .int v1221)] [.int v1313, .ref (ad g 50)] I1297 J R (fun r I' J' R' => (XI g n L I' ∧ R' = R ∧ fz 74 g [50] I I' ∧ fz 74 g [] J J') ∧ r = none) := by
              intro v1313 av1313 bv1313
              refine WQ_putz dX6_load_194 fX6_60 rfl rfl (by omega) (lyx_is hy 50 6 rfl) (fun I1315 eI1315 => ?_)
              have hI1315 : XI g n L I1315 := by rw [eI1315]; exact (xi_f hy hI1297 (c := 50) (0) (0) (1) (by decide) (Or.inl (by decide)) (by decide) (by omega) (by omega))
              have e1316 : I1315 (ad g 1) 1 = L := by rw [eI1315, pp_ne _ _ (Or.inl (lyx_ne hy (by decide) (by decide) (by decide)))]; exact e1298
              have e1317 : I1315 (ad g 6) 4 = v1214 := by rw [eI1315, pp_ne _ _ (Or.inl (lyx_ne hy (by decide) (by decide) (by decide)))]; exact e1299
              have e1318 : I1315 (ad g 50) 0 = v1223 := by rw [eI1315, pp_ne _ _ (Or.inr (by decide))]; exact e1300
              have e1319 : I1315 (ad g 50) 1 = v1229 := by rw [eI1315, pp_ne _ _ (Or.inr (by decide))]; exact e1301
              have e1320 : I1315 (ad g 50) 2 = v1236 := by rw [eI1315, pp_ne _ _ (Or.inr (by decide))]; exact e1302
              have e1321 : I1315 (ad g 50) 3 = v1250 := by rw [eI1315, pp_ne _ _ (Or.inr (by decide))]; exact e1303
              have e1322 : I1315 (ad g 50) 4 = v1266 := by rw [eI1315, pp_ne _ _ (Or.inr (by decide))]; exact e1304
              have e1323 : I1315 (ad g 50) 5 = v1278 := by rw [eI1315, pp_ne _ _ (Or.inr (by decide))]; exact e1305
              have e1324 : I1315 (ad g 50) 6 = v1295 := by rw [eI1315, pp_ne _ _ (Or.inr (by decide))]; exact e1306
              have e1325 : I1315 (ad g 50) 7 = v1313 := by rw [eI1315, pp_self]
              have fr1326 : fz 74 g [50] I I1315 := by rw [eI1315]; exact fzx_pp hy fr1307 (by decide) (by decide)
              clear eI1315
              refine WP_aload_n dX6_load_197 rfl ?_
              refine WP_aload_n dX6_load_198 rfl ?_
              refine WP_getr dX6_load_199 fX6_64 rfl (lyx_is hy 5 0 rfl) (rfx hr 5 2 23 (by decide)) ?_
              refine WP_iload_n dX6_load_202 rfl ?_
              refine WQ_iald dX6_load_203 (lyx_is hy 23 13 rfl) (lyx_n hy 23 7 rfl) (by omega) (by omega) (fun q hq => BT_get hI1315.1 23 0 7 (0) (0) (900) (by decide) q (Nat.zero_le _) hq) (fun v1327 av1327 bv1327 ev1327 => ?_)
              clear ev1327
              have jn212_1330 : ∀ (v1330 : Int32), 0 ≤ v1330.toInt → v1330.toInt ≤ 1 → WP g mX6_load 212 [(0, .ref (ad g 50)), (1, .ref (ad g 5)), (2, .int so), (3, .int da), (4, .ref (ad g 6)), (5, .int v1213), (6, .int v1214), (7, .int v1221)] [.int v1330, .ref (ad g 50)] I1315 J R (fun r I' J' R' => (XI g n L I' ∧ R' = R ∧ fz 74 g [50] I I' ∧ fz 74 g [] J J') ∧ r = none) := by
                intro v1330 av1330 bv1330
                refine WQ_putz dX6_load_212 fX6_67 rfl rfl (by omega) (lyx_is hy 50 6 rfl) (fun I1332 eI1332 => ?_)
                have hI1332 : XI g n L I1332 := by rw [eI1332]; exact (xi_f hy hI1315 (c := 50) (0) (0) (1) (by decide) (Or.inl (by decide)) (by decide) (by omega) (by omega))
                have e1333 : I1332 (ad g 1) 1 = L := by rw [eI1332, pp_ne _ _ (Or.inl (lyx_ne hy (by decide) (by decide) (by decide)))]; exact e1316
                have e1334 : I1332 (ad g 6) 4 = v1214 := by rw [eI1332, pp_ne _ _ (Or.inl (lyx_ne hy (by decide) (by decide) (by decide)))]; exact e1317
                have e1335 : I1332 (ad g 50) 0 = v1223 := by rw [eI1332, pp_ne _ _ (Or.inr (by decide))]; exact e1318
                have e1336 : I1332 (ad g 50) 1 = v1229 := by rw [eI1332, pp_ne _ _ (Or.inr (by decide))]; exact e1319
                have e1337 : I1332 (ad g 50) 2 = v1236 := by rw [eI1332, pp_ne _ _ (Or.inr (by decide))]; exact e1320
                have e1338 : I1332 (ad g 50) 3 = v1250 := by rw [eI1332, pp_ne _ _ (Or.inr (by decide))]; exact e1321
                have e1339 : I1332 (ad g 50) 4 = v1266 := by rw [eI1332, pp_ne _ _ (Or.inr (by decide))]; exact e1322
                have e1340 : I1332 (ad g 50) 5 = v1278 := by rw [eI1332, pp_ne _ _ (Or.inr (by decide))]; exact e1323
                have e1341 : I1332 (ad g 50) 6 = v1295 := by rw [eI1332, pp_ne _ _ (Or.inr (by decide))]; exact e1324
                have e1342 : I1332 (ad g 50) 7 = v1313 := by rw [eI1332, pp_ne _ _ (Or.inr (by decide))]; exact e1325
                have e1343 : I1332 (ad g 50) 8 = v1330 := by rw [eI1332, pp_self]
                have fr1344 : fz 74 g [50] I I1332 := by rw [eI1332]; exact fzx_pp hy fr1326 (by decide) (by decide)
                clear eI1332
                exact WP_vret dX6_load_215 rfl ⟨⟨hI1332, rfl, fr1344, frj0⟩, rfl⟩
              refine WQ_if_le 211 dX6_load_204 rfl (fun c1344 => ?_) (fun c1344 => ?_)
              · refine WQ_iconst (0) (0) dX6_load_211 rfl rfl (fun v1346 hv1346 => ?_)
                exact WP_sub (fc rfl (fc rfl (fc rfl (fc rfl (fc rfl (fc rfl (fc rfl (fc rfl fn)))))))) (jn212_1330 v1346 (by omega) (by omega))
              · refine WQ_iconst (1) (1) dX6_load_207 rfl rfl (fun v1347 hv1347 => ?_)
                refine WP_goto 212 dX6_load_208 rfl ?_
                exact WP_sub (fc rfl (fc rfl (fc rfl (fc rfl (fc rfl (fc rfl (fc rfl (fc rfl fn)))))))) (jn212_1330 v1347 (by omega) (by omega))
            refine WQ_icmp_eq 193 dX6_load_177 rfl (fun c1347 => ?_) (fun c1347 => ?_)
            · refine WQ_iconst (0) (0) dX6_load_193 rfl rfl (fun v1349 hv1349 => ?_)
              exact WP_sub (fc rfl (fc rfl (fc rfl (fc rfl (fc rfl (fc rfl (fc rfl (fc rfl fn)))))))) (jn194_1313 v1349 (by omega) (by omega))
            · refine WP_aload_n dX6_load_180 rfl ?_
              refine WQ_getim dX6_load_181 fX6_9 rfl (lyx_is hy 50 6 rfl) e1300 ?_
              refine WP_iload dX6_load_184 rfl ?_
              refine WQ_icmp_ne 193 dX6_load_186 rfl (fun c1349 => ?_) (fun c1349 => ?_)
              · refine WQ_iconst (0) (0) dX6_load_193 rfl rfl (fun v1351 hv1351 => ?_)
                exact WP_sub (fc rfl (fc rfl (fc rfl (fc rfl (fc rfl (fc rfl (fc rfl (fc rfl fn)))))))) (jn194_1313 v1351 (by omega) (by omega))
              · refine WQ_iconst (1) (1) dX6_load_189 rfl rfl (fun v1352 hv1352 => ?_)
                refine WP_goto 194 dX6_load_190 rfl ?_
                exact WP_sub (fc rfl (fc rfl (fc rfl (fc rfl (fc rfl (fc rfl (fc rfl (fc rfl fn)))))))) (jn194_1313 v1352 (by omega) (by omega))
          refine WQ_if_ne 163 dX6_load_154 rfl (fun c1352 => ?_) (fun c1352 => ?_)
          · refine WQ_iconst (0) (0) dX6_load_163 rfl rfl (fun v1354 hv1354 => ?_)
            refine WP_goto 168 dX6_load_164 rfl ?_
            exact WP_sub (fc rfl (fc rfl (fc rfl (fc rfl (fc rfl (fc rfl (fc rfl (fc rfl fn)))))))) (jn168_1295 v1354 (by omega) (by omega))
          · refine WP_iload dX6_load_157 rfl ?_
            refine WQ_iconst (-1) (-1) dX6_load_159 rfl rfl (fun v1355 hv1355 => ?_)
            refine WQ_icmp_ne 167 dX6_load_160 rfl (fun c1355 => ?_) (fun c1355 => ?_)
            · refine WQ_iconst (2) (2) dX6_load_167 rfl rfl (fun v1357 hv1357 => ?_)
              exact WP_sub (fc rfl (fc rfl (fc rfl (fc rfl (fc rfl (fc rfl (fc rfl (fc rfl fn)))))))) (jn168_1295 v1357 (by omega) (by omega))
            · refine WQ_iconst (0) (0) dX6_load_163 rfl rfl (fun v1358 hv1358 => ?_)
              refine WP_goto 168 dX6_load_164 rfl ?_
              exact WP_sub (fc rfl (fc rfl (fc rfl (fc rfl (fc rfl (fc rfl (fc rfl (fc rfl fn)))))))) (jn168_1295 v1358 (by omega) (by omega))
        refine WQ_if_eq 144 dX6_load_137 rfl (fun c1358 => ?_) (fun c1358 => ?_)
        · refine WP_aload_n dX6_load_144 rfl ?_
          refine WQ_getim dX6_load_145 fX6_36 rfl (lyx_is hy 50 6 rfl) e1272 ?_
          exact WP_sub (fc rfl (fc rfl (fc rfl (fc rfl (fc rfl (fc rfl (fc rfl (fc rfl fn)))))))) (jn148_1278 v1229 (by omega) (by omega))
        · refine WQ_iconst (0) (0) dX6_load_140 rfl rfl (fun v1360 hv1360 => ?_)
          refine WP_goto 148 dX6_load_141 rfl ?_
          exact WP_sub (fc rfl (fc rfl (fc rfl (fc rfl (fc rfl (fc rfl (fc rfl (fc rfl fn)))))))) (jn148_1278 v1360 (by omega) (by omega))
      refine WQ_icmp_ne 119 dX6_load_112 rfl (fun c1360 => ?_) (fun c1360 => ?_)
      · refine WP_aload_n dX6_load_119 rfl ?_
        refine WP_getr dX6_load_120 fX6_45 rfl (lyx_is hy 5 0 rfl) (rfx hr 5 1 22 (by decide)) ?_
        refine WP_iload dX6_load_123 rfl ?_
        refine WQ_bipush (7) (7) dX6_load_125 rfl rfl (fun v1362 hv1362 => ?_)
        refine WQ_imulk (7) dX6_load_127 hv1362 (by omega) (by omega) (fun v1363 hv1363 => ?_)
        refine WP_iload_n dX6_load_128 rfl ?_
        refine WQ_iadd dX6_load_129 (by omega) (by omega) (fun v1364 hv1364 => ?_)
        refine WQ_iald dX6_load_130 (lyx_is hy 22 13 rfl) (lyx_n hy 22 21 rfl) (by omega) (by omega) (fun q hq => BT_get hI1252.1 22 0 21 (0) (0) (20) (by decide) q (Nat.zero_le _) hq) (fun v1365 av1365 bv1365 ev1365 => ?_)
        clear ev1365
        exact WP_sub (fc rfl (fc rfl (fc rfl (fc rfl (fc rfl (fc rfl (fc rfl (fc rfl fn)))))))) (jn131_1266 v1365 (by omega) (by omega))
      · refine WQ_iconst (0) (0) dX6_load_115 rfl rfl (fun v1366 hv1366 => ?_)
        refine WP_goto 131 dX6_load_116 rfl ?_
        exact WP_sub (fc rfl (fc rfl (fc rfl (fc rfl (fc rfl (fc rfl (fc rfl (fc rfl fn)))))))) (jn131_1266 v1366 (by omega) (by omega))
    refine WQ_icmp_ne 91 dX6_load_84 rfl (fun c1366 => ?_) (fun c1366 => ?_)
    · refine WP_aload_n dX6_load_91 rfl ?_
      refine WP_getr dX6_load_92 fX6_45 rfl (lyx_is hy 5 0 rfl) (rfx hr 5 1 22 (by decide)) ?_
      refine WP_aload_n dX6_load_95 rfl ?_
      refine WQ_getim dX6_load_96 fX6_9 rfl (lyx_is hy 50 6 rfl) e1240 ?_
      refine WQ_bipush (7) (7) dX6_load_99 rfl rfl (fun v1368 hv1368 => ?_)
      refine WQ_imulk (7) dX6_load_101 hv1368 (by omega) (by omega) (fun v1369 hv1369 => ?_)
      refine WP_iload_n dX6_load_102 rfl ?_
      refine WQ_iadd dX6_load_103 (by omega) (by omega) (fun v1370 hv1370 => ?_)
      refine WQ_iald dX6_load_104 (lyx_is hy 22 13 rfl) (lyx_n hy 22 21 rfl) (by omega) (by omega) (fun q hq => BT_get hI1237.1 22 0 21 (0) (0) (20) (by decide) q (Nat.zero_le _) hq) (fun v1371 av1371 bv1371 ev1371 => ?_)
      clear ev1371
      exact WP_sub (fc rfl (fc rfl (fc rfl (fc rfl (fc rfl (fc rfl (fc rfl (fc rfl fn)))))))) (jn105_1250 v1371 (by omega) (by omega))
    · refine WQ_iconst (0) (0) dX6_load_87 rfl rfl (fun v1372 hv1372 => ?_)
      refine WP_goto 105 dX6_load_88 rfl ?_
      exact WP_sub (fc rfl (fc rfl (fc rfl (fc rfl (fc rfl (fc rfl (fc rfl (fc rfl fn)))))))) (jn105_1250 v1372 (by omega) (by omega))
  refine WX_if_eq 39 dX6_load_32 rfl ?_ ?_
  · refine WQ_iconst (0) (0) dX6_load_39 rfl rfl (fun v1373 hv1373 => ?_)
    exact WP_sub (fc rfl (fc rfl (fc rfl (fc rfl (fc rfl (fc rfl (fc rfl fn))))))) (jn40_1221 v1373 (by omega) (by omega))
  · refine WQ_iconst (1) (1) dX6_load_35 rfl rfl (fun v1374 hv1374 => ?_)
    refine WP_goto 40 dX6_load_36 rfl ?_
    exact WP_sub (fc rfl (fc rfl (fc rfl (fc rfl (fc rfl (fc rfl (fc rfl fn))))))) (jn40_1221 v1374 (by omega) (by omega))
set_option maxHeartbeats 4000000 in
set_option maxRecDepth 100000 in
theorem sx_load_50_27 {g : GG} {n : Int} {L : Int32} (hy : LyX g)  {I : pI} {J : pJ} {R : pR} (hr : RfX g R) (hT : R (ad g 5) 0 = some (ad g 27)) (hI : XI g n L I) (so : Int32) (da : Int32) (so_lo : 0 ≤ so.toInt) (so_hi : so.toInt ≤ 3) (da_lo : 0 ≤ da.toInt) (da_hi : da.toInt ≤ 6) : SP g mX6_load [.ref (ad g 50), .ref (ad g 5), .int so, .int da] I J R (fun r I' J' R' => (XI g n L I' ∧ R' = R ∧ fz 74 g [50] I I' ∧ fz 74 g [] J J') ∧ r = none) := by
  refine SP_of ⟨by decide, rfl⟩ (Nat.le_of_ble_eq_true rfl) ?_
  have e1375 : I (ad g 1) 1 = L := hI.2
  have b1376 := BT_get hI.1 1 1 2 (0) (0) (900) (by decide) 1 (by decide) (by decide)
  rw [e1375] at b1376
  have fr0 : fz 74 g [50] I I := fz_rf
  have frj0 : fz 74 g [] J J := fz_rf
  refine WP_aload_n dX6_load_0 rfl ?_
  refine WP_getr dX6_load_1 fX6_15 rfl (lyx_is hy 5 0 rfl) hT ?_
  refine WP_astore (ls' := [(0, _), (1, _), (2, _), (3, _), (4, _)]) dX6_load_4 (by decide) rfl ?_
  refine WP_iload_n dX6_load_6 rfl ?_
  refine WQ_bipush (7) (7) dX6_load_7 rfl rfl (fun v1377 hv1377 => ?_)
  refine WQ_imulk (7) dX6_load_9 hv1377 (by omega) (by omega) (fun v1378 hv1378 => ?_)
  refine WP_iload_n dX6_load_10 rfl ?_
  refine WQ_iadd dX6_load_11 (by omega) (by omega) (fun v1379 hv1379 => ?_)
  refine WP_istore (ls' := [(0, _), (1, _), (2, _), (3, _), (4, _), (5, _)]) dX6_load_12 (by decide) rfl ?_
  refine WP_aload dX6_load_14 rfl ?_
  refine WQ_geti dX6_load_16 fX6_21 rfl (lyx_is hy 27 7 rfl) (BT_get hI.1 27 4 5 (-1) (0) (2) (by decide) 4 (by decide) (by decide)) (fun v1380 ev1380 av1380 bv1380 => ?_)
  refine WP_istore (ls' := [(0, _), (1, _), (2, _), (3, _), (4, _), (5, _), (6, _)]) dX6_load_19 (by decide) rfl ?_
  refine WP_aload dX6_load_21 rfl ?_
  refine WP_getr dX6_load_23 fX6_26 rfl (lyx_is hy 27 7 rfl) (rfx hr 27 9 32 (by decide)) ?_
  refine WP_iload_n dX6_load_26 rfl ?_
  refine WQ_ialdu dX6_load_27 (lyx_is hy 32 13 rfl) (lyx_n hy 32 4 rfl) (by omega) (by omega) (fun v1381 => ?_)
  refine WP_iload_n dX6_load_28 rfl ?_
  refine WQ_ishru dX6_load_29 (fun v1382 => ?_)
  refine WQ_iconst (1) (1) dX6_load_30 rfl rfl (fun v1383 hv1383 => ?_)
  refine WQ_iandu dX6_load_31 (fun v1384 => ?_)
  have jn40_1387 : ∀ (v1387 : Int32), 0 ≤ v1387.toInt → v1387.toInt ≤ 1 → WP g mX6_load 40 [(0, .ref (ad g 50)), (1, .ref (ad g 5)), (2, .int so), (3, .int da), (4, .ref (ad g 27)), (5, .int v1379), (6, .int v1380)] [.int v1387] I J R (fun r I' J' R' => (XI g n L I' ∧ R' = R ∧ fz 74 g [50] I I' ∧ fz 74 g [] J J') ∧ r = none) := by
    intro v1387 av1387 bv1387
    refine WP_istore (ls' := [(0, _), (1, _), (2, _), (3, _), (4, _), (5, _), (6, _), (7, _)]) dX6_load_40 (by decide) rfl ?_
    refine WP_aload_n dX6_load_42 rfl ?_
    refine WP_aload dX6_load_43 rfl ?_
    refine WP_getr dX6_load_45 fX6_30 rfl (lyx_is hy 27 7 rfl) (rfx hr 27 11 34 (by decide)) ?_
    refine WP_iload dX6_load_48 rfl ?_
    refine WQ_iald dX6_load_50 (lyx_is hy 34 13 rfl) (lyx_n hy 34 28 rfl) (by omega) (by omega) (fun q hq => BT_get hI.1 34 0 28 (-1) (0) (2) (by decide) q (Nat.zero_le _) hq) (fun v1389 av1389 bv1389 ev1389 => ?_)
    clear ev1389
    refine WQ_puti dX6_load_51 fX6_9 rfl rfl (lyx_is hy 50 6 rfl) (fun I1390 eI1390 => ?_)
    have hI1390 : XI g n L I1390 := by rw [eI1390]; exact (xi_f hy hI (c := 50) (-1) (0) (2) (by decide) (Or.inl (by decide)) (by decide) (by omega) (by omega))
    have e1391 : I1390 (ad g 1) 1 = L := by rw [eI1390, pp_ne _ _ (Or.inl (lyx_ne hy (by decide) (by decide) (by decide)))]; exact e1375
    have e1392 : I1390 (ad g 27) 4 = v1380 := by rw [eI1390, pp_ne _ _ (Or.inl (lyx_ne hy (by decide) (by decide) (by decide)))]; exact ev1380
    have e1393 : I1390 (ad g 50) 0 = v1389 := by rw [eI1390, pp_self]
    have fr1394 : fz 74 g [50] I I1390 := by rw [eI1390]; exact fzx_pp hy fr0 (by decide) (by decide)
    clear eI1390
    refine WP_aload_n dX6_load_54 rfl ?_
    refine WP_aload dX6_load_55 rfl ?_
    refine WP_getr dX6_load_57 fX6_33 rfl (lyx_is hy 27 7 rfl) (rfx hr 27 12 35 (by decide)) ?_
    refine WP_iload dX6_load_60 rfl ?_
    refine WQ_iald dX6_load_62 (lyx_is hy 35 13 rfl) (lyx_n hy 35 28 rfl) (by omega) (by omega) (fun q hq => BT_get hI1390.1 35 0 28 (0) (0) (3) (by decide) q (Nat.zero_le _) hq) (fun v1395 av1395 bv1395 ev1395 => ?_)
    clear ev1395
    refine WQ_puti dX6_load_63 fX6_36 rfl rfl (lyx_is hy 50 6 rfl) (fun I1396 eI1396 => ?_)
    have hI1396 : XI g n L I1396 := by rw [eI1396]; exact (xi_f hy hI1390 (c := 50) (0) (0) (3) (by decide) (Or.inl (by decide)) (by decide) (by omega) (by omega))
    have e1397 : I1396 (ad g 1) 1 = L := by rw [eI1396, pp_ne _ _ (Or.inl (lyx_ne hy (by decide) (by decide) (by decide)))]; exact e1391
    have e1398 : I1396 (ad g 27) 4 = v1380 := by rw [eI1396, pp_ne _ _ (Or.inl (lyx_ne hy (by decide) (by decide) (by decide)))]; exact e1392
    have e1399 : I1396 (ad g 50) 0 = v1389 := by rw [eI1396, pp_ne _ _ (Or.inr (by decide))]; exact e1393
    have e1400 : I1396 (ad g 50) 1 = v1395 := by rw [eI1396, pp_self]
    have fr1401 : fz 74 g [50] I I1396 := by rw [eI1396]; exact fzx_pp hy fr1394 (by decide) (by decide)
    clear eI1396
    refine WP_aload_n dX6_load_66 rfl ?_
    refine WP_aload dX6_load_67 rfl ?_
    refine WP_getr dX6_load_69 fX6_39 rfl (lyx_is hy 27 7 rfl) (rfx hr 27 13 36 (by decide)) ?_
    refine WP_iload dX6_load_72 rfl ?_
    refine WQ_iald dX6_load_74 (lyx_is hy 36 13 rfl) (lyx_n hy 36 28 rfl) (by omega) (by omega) (fun q hq => BT_get hI1396.1 36 0 28 (0) (0) (99) (by decide) q (Nat.zero_le _) hq) (fun v1402 av1402 bv1402 ev1402 => ?_)
    clear ev1402
    refine WQ_puti dX6_load_75 fX6_42 rfl rfl (lyx_is hy 50 6 rfl) (fun I1403 eI1403 => ?_)
    have hI1403 : XI g n L I1403 := by rw [eI1403]; exact (xi_f hy hI1396 (c := 50) (0) (0) (99) (by decide) (Or.inl (by decide)) (by decide) (by omega) (by omega))
    have e1404 : I1403 (ad g 1) 1 = L := by rw [eI1403, pp_ne _ _ (Or.inl (lyx_ne hy (by decide) (by decide) (by decide)))]; exact e1397
    have e1405 : I1403 (ad g 27) 4 = v1380 := by rw [eI1403, pp_ne _ _ (Or.inl (lyx_ne hy (by decide) (by decide) (by decide)))]; exact e1398
    have e1406 : I1403 (ad g 50) 0 = v1389 := by rw [eI1403, pp_ne _ _ (Or.inr (by decide))]; exact e1399
    have e1407 : I1403 (ad g 50) 1 = v1395 := by rw [eI1403, pp_ne _ _ (Or.inr (by decide))]; exact e1400
    have e1408 : I1403 (ad g 50) 2 = v1402 := by rw [eI1403, pp_self]
    have fr1409 : fz 74 g [50] I I1403 := by rw [eI1403]; exact fzx_pp hy fr1401 (by decide) (by decide)
    clear eI1403
    refine WP_aload_n dX6_load_78 rfl ?_
    refine WP_aload_n dX6_load_79 rfl ?_
    refine WQ_getim dX6_load_80 fX6_9 rfl (lyx_is hy 50 6 rfl) e1406 ?_
    refine WQ_iconst (-1) (-1) dX6_load_83 rfl rfl (fun v1410 hv1410 => ?_)
    have jn105_1416 : ∀ (v1416 : Int32), 0 ≤ v1416.toInt → v1416.toInt ≤ 20 → WP g mX6_load 105 [(0, .ref (ad g 50)), (1, .ref (ad g 5)), (2, .int so), (3, .int da), (4, .ref (ad g 27)), (5, .int v1379), (6, .int v1380), (7, .int v1387)] [.int v1416, .ref (ad g 50)] I1403 J R (fun r I' J' R' => (XI g n L I' ∧ R' = R ∧ fz 74 g [50] I I' ∧ fz 74 g [] J J') ∧ r = none) := by
      intro v1416 av1416 bv1416
      refine WQ_puti dX6_load_105 fX6_48 rfl rfl (lyx_is hy 50 6 rfl) (fun I1418 eI1418 => ?_)
      have hI1418 : XI g n L I1418 := by rw [eI1418]; exact (xi_f hy hI1403 (c := 50) (0) (0) (20) (by decide) (Or.inl (by decide)) (by decide) (by omega) (by omega))
      have e1419 : I1418 (ad g 1) 1 = L := by rw [eI1418, pp_ne _ _ (Or.inl (lyx_ne hy (by decide) (by decide) (by decide)))]; exact e1404
      have e1420 : I1418 (ad g 27) 4 = v1380 := by rw [eI1418, pp_ne _ _ (Or.inl (lyx_ne hy (by decide) (by decide) (by decide)))]; exact e1405
      have e1421 : I1418 (ad g 50) 0 = v1389 := by rw [eI1418, pp_ne _ _ (Or.inr (by decide))]; exact e1406
      have e1422 : I1418 (ad g 50) 1 = v1395 := by rw [eI1418, pp_ne _ _ (Or.inr (by decide))]; exact e1407
      have e1423 : I1418 (ad g 50) 2 = v1402 := by rw [eI1418, pp_ne _ _ (Or.inr (by decide))]; exact e1408
      have e1424 : I1418 (ad g 50) 3 = v1416 := by rw [eI1418, pp_self]
      have fr1425 : fz 74 g [50] I I1418 := by rw [eI1418]; exact fzx_pp hy fr1409 (by decide) (by decide)
      clear eI1418
      refine WP_aload_n dX6_load_108 rfl ?_
      refine WP_iload dX6_load_109 rfl ?_
      refine WQ_iconst (-1) (-1) dX6_load_111 rfl rfl (fun v1426 hv1426 => ?_)
      have jn131_1432 : ∀ (v1432 : Int32), 0 ≤ v1432.toInt → v1432.toInt ≤ 20 → WP g mX6_load 131 [(0, .ref (ad g 50)), (1, .ref (ad g 5)), (2, .int so), (3, .int da), (4, .ref (ad g 27)), (5, .int v1379), (6, .int v1380), (7, .int v1387)] [.int v1432, .ref (ad g 50)] I1418 J R (fun r I' J' R' => (XI g n L I' ∧ R' = R ∧ fz 74 g [50] I I' ∧ fz 74 g [] J J') ∧ r = none) := by
        intro v1432 av1432 bv1432
        refine WQ_puti dX6_load_131 fX6_51 rfl rfl (lyx_is hy 50 6 rfl) (fun I1434 eI1434 => ?_)
        have hI1434 : XI g n L I1434 := by rw [eI1434]; exact (xi_f hy hI1418 (c := 50) (0) (0) (20) (by decide) (Or.inl (by decide)) (by decide) (by omega) (by omega))
        have e1435 : I1434 (ad g 1) 1 = L := by rw [eI1434, pp_ne _ _ (Or.inl (lyx_ne hy (by decide) (by decide) (by decide)))]; exact e1419
        have e1436 : I1434 (ad g 27) 4 = v1380 := by rw [eI1434, pp_ne _ _ (Or.inl (lyx_ne hy (by decide) (by decide) (by decide)))]; exact e1420
        have e1437 : I1434 (ad g 50) 0 = v1389 := by rw [eI1434, pp_ne _ _ (Or.inr (by decide))]; exact e1421
        have e1438 : I1434 (ad g 50) 1 = v1395 := by rw [eI1434, pp_ne _ _ (Or.inr (by decide))]; exact e1422
        have e1439 : I1434 (ad g 50) 2 = v1402 := by rw [eI1434, pp_ne _ _ (Or.inr (by decide))]; exact e1423
        have e1440 : I1434 (ad g 50) 3 = v1416 := by rw [eI1434, pp_ne _ _ (Or.inr (by decide))]; exact e1424
        have e1441 : I1434 (ad g 50) 4 = v1432 := by rw [eI1434, pp_self]
        have fr1442 : fz 74 g [50] I I1434 := by rw [eI1434]; exact fzx_pp hy fr1425 (by decide) (by decide)
        clear eI1434
        refine WP_aload_n dX6_load_134 rfl ?_
        refine WP_iload dX6_load_135 rfl ?_
        have jn148_1444 : ∀ (v1444 : Int32), 0 ≤ v1444.toInt → v1444.toInt ≤ 3 → WP g mX6_load 148 [(0, .ref (ad g 50)), (1, .ref (ad g 5)), (2, .int so), (3, .int da), (4, .ref (ad g 27)), (5, .int v1379), (6, .int v1380), (7, .int v1387)] [.int v1444, .ref (ad g 50)] I1434 J R (fun r I' J' R' => (XI g n L I' ∧ R' = R ∧ fz 74 g [50] I I' ∧ fz 74 g [] J J') ∧ r = none) := by
          intro v1444 av1444 bv1444
          refine WQ_puti dX6_load_148 fX6_54 rfl rfl (lyx_is hy 50 6 rfl) (fun I1446 eI1446 => ?_)
          have hI1446 : XI g n L I1446 := by rw [eI1446]; exact (xi_f hy hI1434 (c := 50) (0) (0) (3) (by decide) (Or.inl (by decide)) (by decide) (by omega) (by omega))
          have e1447 : I1446 (ad g 1) 1 = L := by rw [eI1446, pp_ne _ _ (Or.inl (lyx_ne hy (by decide) (by decide) (by decide)))]; exact e1435
          have e1448 : I1446 (ad g 27) 4 = v1380 := by rw [eI1446, pp_ne _ _ (Or.inl (lyx_ne hy (by decide) (by decide) (by decide)))]; exact e1436
          have e1449 : I1446 (ad g 50) 0 = v1389 := by rw [eI1446, pp_ne _ _ (Or.inr (by decide))]; exact e1437
          have e1450 : I1446 (ad g 50) 1 = v1395 := by rw [eI1446, pp_ne _ _ (Or.inr (by decide))]; exact e1438
          have e1451 : I1446 (ad g 50) 2 = v1402 := by rw [eI1446, pp_ne _ _ (Or.inr (by decide))]; exact e1439
          have e1452 : I1446 (ad g 50) 3 = v1416 := by rw [eI1446, pp_ne _ _ (Or.inr (by decide))]; exact e1440
          have e1453 : I1446 (ad g 50) 4 = v1432 := by rw [eI1446, pp_ne _ _ (Or.inr (by decide))]; exact e1441
          have e1454 : I1446 (ad g 50) 5 = v1444 := by rw [eI1446, pp_self]
          have fr1455 : fz 74 g [50] I I1446 := by rw [eI1446]; exact fzx_pp hy fr1442 (by decide) (by decide)
          clear eI1446
          refine WP_aload_n dX6_load_151 rfl ?_
          refine WP_iload dX6_load_152 rfl ?_
          have jn168_1461 : ∀ (v1461 : Int32), 0 ≤ v1461.toInt → v1461.toInt ≤ 2 → WP g mX6_load 168 [(0, .ref (ad g 50)), (1, .ref (ad g 5)), (2, .int so), (3, .int da), (4, .ref (ad g 27)), (5, .int v1379), (6, .int v1380), (7, .int v1387)] [.int v1461, .ref (ad g 50)] I1446 J R (fun r I' J' R' => (XI g n L I' ∧ R' = R ∧ fz 74 g [50] I I' ∧ fz 74 g [] J J') ∧ r = none) := by
            intro v1461 av1461 bv1461
            refine WQ_puti dX6_load_168 fX6_57 rfl rfl (lyx_is hy 50 6 rfl) (fun I1463 eI1463 => ?_)
            have hI1463 : XI g n L I1463 := by rw [eI1463]; exact (xi_f hy hI1446 (c := 50) (0) (0) (2) (by decide) (Or.inl (by decide)) (by decide) (by omega) (by omega))
            have e1464 : I1463 (ad g 1) 1 = L := by rw [eI1463, pp_ne _ _ (Or.inl (lyx_ne hy (by decide) (by decide) (by decide)))]; exact e1447
            have e1465 : I1463 (ad g 27) 4 = v1380 := by rw [eI1463, pp_ne _ _ (Or.inl (lyx_ne hy (by decide) (by decide) (by decide)))]; exact e1448
            have e1466 : I1463 (ad g 50) 0 = v1389 := by rw [eI1463, pp_ne _ _ (Or.inr (by decide))]; exact e1449
            have e1467 : I1463 (ad g 50) 1 = v1395 := by rw [eI1463, pp_ne _ _ (Or.inr (by decide))]; exact e1450
            have e1468 : I1463 (ad g 50) 2 = v1402 := by rw [eI1463, pp_ne _ _ (Or.inr (by decide))]; exact e1451
            have e1469 : I1463 (ad g 50) 3 = v1416 := by rw [eI1463, pp_ne _ _ (Or.inr (by decide))]; exact e1452
            have e1470 : I1463 (ad g 50) 4 = v1432 := by rw [eI1463, pp_ne _ _ (Or.inr (by decide))]; exact e1453
            have e1471 : I1463 (ad g 50) 5 = v1444 := by rw [eI1463, pp_ne _ _ (Or.inr (by decide))]; exact e1454
            have e1472 : I1463 (ad g 50) 6 = v1461 := by rw [eI1463, pp_self]
            have fr1473 : fz 74 g [50] I I1463 := by rw [eI1463]; exact fzx_pp hy fr1455 (by decide) (by decide)
            clear eI1463
            refine WP_aload_n dX6_load_171 rfl ?_
            refine WP_aload_n dX6_load_172 rfl ?_
            refine WQ_getim dX6_load_173 fX6_9 rfl (lyx_is hy 50 6 rfl) e1466 ?_
            refine WQ_iconst (-1) (-1) dX6_load_176 rfl rfl (fun v1474 hv1474 => ?_)
            have jn194_1479 : ∀ (v1479 : Int32), 0 ≤ v1479.toInt → v1479.toInt ≤ 1 → WP g mX6_load 194 [(0, .ref (ad g 50)), (1, .ref (ad g 5)), (2, .int so), (3, .int da), (4, .ref (ad g 27)), (5, .int v1379), (6, .int v1380), (7, .int v1387)] [.int v1479, .ref (ad g 50)] I1463 J R (fun r I' J' R' => (XI g n L I' ∧ R' = R ∧ fz 74 g [50] I I' ∧ fz 74 g [] J J') ∧ r = none) := by
              intro v1479 av1479 bv1479
              refine WQ_putz dX6_load_194 fX6_60 rfl rfl (by omega) (lyx_is hy 50 6 rfl) (fun I1481 eI1481 => ?_)
              have hI1481 : XI g n L I1481 := by rw [eI1481]; exact (xi_f hy hI1463 (c := 50) (0) (0) (1) (by decide) (Or.inl (by decide)) (by decide) (by omega) (by omega))
              have e1482 : I1481 (ad g 1) 1 = L := by rw [eI1481, pp_ne _ _ (Or.inl (lyx_ne hy (by decide) (by decide) (by decide)))]; exact e1464
              have e1483 : I1481 (ad g 27) 4 = v1380 := by rw [eI1481, pp_ne _ _ (Or.inl (lyx_ne hy (by decide) (by decide) (by decide)))]; exact e1465
              have e1484 : I1481 (ad g 50) 0 = v1389 := by rw [eI1481, pp_ne _ _ (Or.inr (by decide))]; exact e1466
              have e1485 : I1481 (ad g 50) 1 = v1395 := by rw [eI1481, pp_ne _ _ (Or.inr (by decide))]; exact e1467
              have e1486 : I1481 (ad g 50) 2 = v1402 := by rw [eI1481, pp_ne _ _ (Or.inr (by decide))]; exact e1468
              have e1487 : I1481 (ad g 50) 3 = v1416 := by rw [eI1481, pp_ne _ _ (Or.inr (by decide))]; exact e1469
              have e1488 : I1481 (ad g 50) 4 = v1432 := by rw [eI1481, pp_ne _ _ (Or.inr (by decide))]; exact e1470
              have e1489 : I1481 (ad g 50) 5 = v1444 := by rw [eI1481, pp_ne _ _ (Or.inr (by decide))]; exact e1471
              have e1490 : I1481 (ad g 50) 6 = v1461 := by rw [eI1481, pp_ne _ _ (Or.inr (by decide))]; exact e1472
              have e1491 : I1481 (ad g 50) 7 = v1479 := by rw [eI1481, pp_self]
              have fr1492 : fz 74 g [50] I I1481 := by rw [eI1481]; exact fzx_pp hy fr1473 (by decide) (by decide)
              clear eI1481
              refine WP_aload_n dX6_load_197 rfl ?_
              refine WP_aload_n dX6_load_198 rfl ?_
              refine WP_getr dX6_load_199 fX6_64 rfl (lyx_is hy 5 0 rfl) (rfx hr 5 2 23 (by decide)) ?_
              refine WP_iload_n dX6_load_202 rfl ?_
              refine WQ_iald dX6_load_203 (lyx_is hy 23 13 rfl) (lyx_n hy 23 7 rfl) (by omega) (by omega) (fun q hq => BT_get hI1481.1 23 0 7 (0) (0) (900) (by decide) q (Nat.zero_le _) hq) (fun v1493 av1493 bv1493 ev1493 => ?_)
              clear ev1493
              have jn212_1496 : ∀ (v1496 : Int32), 0 ≤ v1496.toInt → v1496.toInt ≤ 1 → WP g mX6_load 212 [(0, .ref (ad g 50)), (1, .ref (ad g 5)), (2, .int so), (3, .int da), (4, .ref (ad g 27)), (5, .int v1379), (6, .int v1380), (7, .int v1387)] [.int v1496, .ref (ad g 50)] I1481 J R (fun r I' J' R' => (XI g n L I' ∧ R' = R ∧ fz 74 g [50] I I' ∧ fz 74 g [] J J') ∧ r = none) := by
                intro v1496 av1496 bv1496
                refine WQ_putz dX6_load_212 fX6_67 rfl rfl (by omega) (lyx_is hy 50 6 rfl) (fun I1498 eI1498 => ?_)
                have hI1498 : XI g n L I1498 := by rw [eI1498]; exact (xi_f hy hI1481 (c := 50) (0) (0) (1) (by decide) (Or.inl (by decide)) (by decide) (by omega) (by omega))
                have e1499 : I1498 (ad g 1) 1 = L := by rw [eI1498, pp_ne _ _ (Or.inl (lyx_ne hy (by decide) (by decide) (by decide)))]; exact e1482
                have e1500 : I1498 (ad g 27) 4 = v1380 := by rw [eI1498, pp_ne _ _ (Or.inl (lyx_ne hy (by decide) (by decide) (by decide)))]; exact e1483
                have e1501 : I1498 (ad g 50) 0 = v1389 := by rw [eI1498, pp_ne _ _ (Or.inr (by decide))]; exact e1484
                have e1502 : I1498 (ad g 50) 1 = v1395 := by rw [eI1498, pp_ne _ _ (Or.inr (by decide))]; exact e1485
                have e1503 : I1498 (ad g 50) 2 = v1402 := by rw [eI1498, pp_ne _ _ (Or.inr (by decide))]; exact e1486
                have e1504 : I1498 (ad g 50) 3 = v1416 := by rw [eI1498, pp_ne _ _ (Or.inr (by decide))]; exact e1487
                have e1505 : I1498 (ad g 50) 4 = v1432 := by rw [eI1498, pp_ne _ _ (Or.inr (by decide))]; exact e1488
                have e1506 : I1498 (ad g 50) 5 = v1444 := by rw [eI1498, pp_ne _ _ (Or.inr (by decide))]; exact e1489
                have e1507 : I1498 (ad g 50) 6 = v1461 := by rw [eI1498, pp_ne _ _ (Or.inr (by decide))]; exact e1490
                have e1508 : I1498 (ad g 50) 7 = v1479 := by rw [eI1498, pp_ne _ _ (Or.inr (by decide))]; exact e1491
                have e1509 : I1498 (ad g 50) 8 = v1496 := by rw [eI1498, pp_self]
                have fr1510 : fz 74 g [50] I I1498 := by rw [eI1498]; exact fzx_pp hy fr1492 (by decide) (by decide)
                clear eI1498
                exact WP_vret dX6_load_215 rfl ⟨⟨hI1498, rfl, fr1510, frj0⟩, rfl⟩
              refine WQ_if_le 211 dX6_load_204 rfl (fun c1510 => ?_) (fun c1510 => ?_)
              · refine WQ_iconst (0) (0) dX6_load_211 rfl rfl (fun v1512 hv1512 => ?_)
                exact WP_sub (fc rfl (fc rfl (fc rfl (fc rfl (fc rfl (fc rfl (fc rfl (fc rfl fn)))))))) (jn212_1496 v1512 (by omega) (by omega))
              · refine WQ_iconst (1) (1) dX6_load_207 rfl rfl (fun v1513 hv1513 => ?_)
                refine WP_goto 212 dX6_load_208 rfl ?_
                exact WP_sub (fc rfl (fc rfl (fc rfl (fc rfl (fc rfl (fc rfl (fc rfl (fc rfl fn)))))))) (jn212_1496 v1513 (by omega) (by omega))
            refine WQ_icmp_eq 193 dX6_load_177 rfl (fun c1513 => ?_) (fun c1513 => ?_)
            · refine WQ_iconst (0) (0) dX6_load_193 rfl rfl (fun v1515 hv1515 => ?_)
              exact WP_sub (fc rfl (fc rfl (fc rfl (fc rfl (fc rfl (fc rfl (fc rfl (fc rfl fn)))))))) (jn194_1479 v1515 (by omega) (by omega))
            · refine WP_aload_n dX6_load_180 rfl ?_
              refine WQ_getim dX6_load_181 fX6_9 rfl (lyx_is hy 50 6 rfl) e1466 ?_
              refine WP_iload dX6_load_184 rfl ?_
              refine WQ_icmp_ne 193 dX6_load_186 rfl (fun c1515 => ?_) (fun c1515 => ?_)
              · refine WQ_iconst (0) (0) dX6_load_193 rfl rfl (fun v1517 hv1517 => ?_)
                exact WP_sub (fc rfl (fc rfl (fc rfl (fc rfl (fc rfl (fc rfl (fc rfl (fc rfl fn)))))))) (jn194_1479 v1517 (by omega) (by omega))
              · refine WQ_iconst (1) (1) dX6_load_189 rfl rfl (fun v1518 hv1518 => ?_)
                refine WP_goto 194 dX6_load_190 rfl ?_
                exact WP_sub (fc rfl (fc rfl (fc rfl (fc rfl (fc rfl (fc rfl (fc rfl (fc rfl fn)))))))) (jn194_1479 v1518 (by omega) (by omega))
          refine WQ_if_ne 163 dX6_load_154 rfl (fun c1518 => ?_) (fun c1518 => ?_)
          · refine WQ_iconst (0) (0) dX6_load_163 rfl rfl (fun v1520 hv1520 => ?_)
            refine WP_goto 168 dX6_load_164 rfl ?_
            exact WP_sub (fc rfl (fc rfl (fc rfl (fc rfl (fc rfl (fc rfl (fc rfl (fc rfl fn)))))))) (jn168_1461 v1520 (by omega) (by omega))
          · refine WP_iload dX6_load_157 rfl ?_
            refine WQ_iconst (-1) (-1) dX6_load_159 rfl rfl (fun v1521 hv1521 => ?_)
            refine WQ_icmp_ne 167 dX6_load_160 rfl (fun c1521 => ?_) (fun c1521 => ?_)
            · refine WQ_iconst (2) (2) dX6_load_167 rfl rfl (fun v1523 hv1523 => ?_)
              exact WP_sub (fc rfl (fc rfl (fc rfl (fc rfl (fc rfl (fc rfl (fc rfl (fc rfl fn)))))))) (jn168_1461 v1523 (by omega) (by omega))
            · refine WQ_iconst (0) (0) dX6_load_163 rfl rfl (fun v1524 hv1524 => ?_)
              refine WP_goto 168 dX6_load_164 rfl ?_
              exact WP_sub (fc rfl (fc rfl (fc rfl (fc rfl (fc rfl (fc rfl (fc rfl (fc rfl fn)))))))) (jn168_1461 v1524 (by omega) (by omega))
        refine WQ_if_eq 144 dX6_load_137 rfl (fun c1524 => ?_) (fun c1524 => ?_)
        · refine WP_aload_n dX6_load_144 rfl ?_
          refine WQ_getim dX6_load_145 fX6_36 rfl (lyx_is hy 50 6 rfl) e1438 ?_
          exact WP_sub (fc rfl (fc rfl (fc rfl (fc rfl (fc rfl (fc rfl (fc rfl (fc rfl fn)))))))) (jn148_1444 v1395 (by omega) (by omega))
        · refine WQ_iconst (0) (0) dX6_load_140 rfl rfl (fun v1526 hv1526 => ?_)
          refine WP_goto 148 dX6_load_141 rfl ?_
          exact WP_sub (fc rfl (fc rfl (fc rfl (fc rfl (fc rfl (fc rfl (fc rfl (fc rfl fn)))))))) (jn148_1444 v1526 (by omega) (by omega))
      refine WQ_icmp_ne 119 dX6_load_112 rfl (fun c1526 => ?_) (fun c1526 => ?_)
      · refine WP_aload_n dX6_load_119 rfl ?_
        refine WP_getr dX6_load_120 fX6_45 rfl (lyx_is hy 5 0 rfl) (rfx hr 5 1 22 (by decide)) ?_
        refine WP_iload dX6_load_123 rfl ?_
        refine WQ_bipush (7) (7) dX6_load_125 rfl rfl (fun v1528 hv1528 => ?_)
        refine WQ_imulk (7) dX6_load_127 hv1528 (by omega) (by omega) (fun v1529 hv1529 => ?_)
        refine WP_iload_n dX6_load_128 rfl ?_
        refine WQ_iadd dX6_load_129 (by omega) (by omega) (fun v1530 hv1530 => ?_)
        refine WQ_iald dX6_load_130 (lyx_is hy 22 13 rfl) (lyx_n hy 22 21 rfl) (by omega) (by omega) (fun q hq => BT_get hI1418.1 22 0 21 (0) (0) (20) (by decide) q (Nat.zero_le _) hq) (fun v1531 av1531 bv1531 ev1531 => ?_)
        clear ev1531
        exact WP_sub (fc rfl (fc rfl (fc rfl (fc rfl (fc rfl (fc rfl (fc rfl (fc rfl fn)))))))) (jn131_1432 v1531 (by omega) (by omega))
      · refine WQ_iconst (0) (0) dX6_load_115 rfl rfl (fun v1532 hv1532 => ?_)
        refine WP_goto 131 dX6_load_116 rfl ?_
        exact WP_sub (fc rfl (fc rfl (fc rfl (fc rfl (fc rfl (fc rfl (fc rfl (fc rfl fn)))))))) (jn131_1432 v1532 (by omega) (by omega))
    refine WQ_icmp_ne 91 dX6_load_84 rfl (fun c1532 => ?_) (fun c1532 => ?_)
    · refine WP_aload_n dX6_load_91 rfl ?_
      refine WP_getr dX6_load_92 fX6_45 rfl (lyx_is hy 5 0 rfl) (rfx hr 5 1 22 (by decide)) ?_
      refine WP_aload_n dX6_load_95 rfl ?_
      refine WQ_getim dX6_load_96 fX6_9 rfl (lyx_is hy 50 6 rfl) e1406 ?_
      refine WQ_bipush (7) (7) dX6_load_99 rfl rfl (fun v1534 hv1534 => ?_)
      refine WQ_imulk (7) dX6_load_101 hv1534 (by omega) (by omega) (fun v1535 hv1535 => ?_)
      refine WP_iload_n dX6_load_102 rfl ?_
      refine WQ_iadd dX6_load_103 (by omega) (by omega) (fun v1536 hv1536 => ?_)
      refine WQ_iald dX6_load_104 (lyx_is hy 22 13 rfl) (lyx_n hy 22 21 rfl) (by omega) (by omega) (fun q hq => BT_get hI1403.1 22 0 21 (0) (0) (20) (by decide) q (Nat.zero_le _) hq) (fun v1537 av1537 bv1537 ev1537 => ?_)
      clear ev1537
      exact WP_sub (fc rfl (fc rfl (fc rfl (fc rfl (fc rfl (fc rfl (fc rfl (fc rfl fn)))))))) (jn105_1416 v1537 (by omega) (by omega))
    · refine WQ_iconst (0) (0) dX6_load_87 rfl rfl (fun v1538 hv1538 => ?_)
      refine WP_goto 105 dX6_load_88 rfl ?_
      exact WP_sub (fc rfl (fc rfl (fc rfl (fc rfl (fc rfl (fc rfl (fc rfl (fc rfl fn)))))))) (jn105_1416 v1538 (by omega) (by omega))
  refine WX_if_eq 39 dX6_load_32 rfl ?_ ?_
  · refine WQ_iconst (0) (0) dX6_load_39 rfl rfl (fun v1539 hv1539 => ?_)
    exact WP_sub (fc rfl (fc rfl (fc rfl (fc rfl (fc rfl (fc rfl (fc rfl fn))))))) (jn40_1387 v1539 (by omega) (by omega))
  · refine WQ_iconst (1) (1) dX6_load_35 rfl rfl (fun v1540 hv1540 => ?_)
    refine WP_goto 40 dX6_load_36 rfl ?_
    exact WP_sub (fc rfl (fc rfl (fc rfl (fc rfl (fc rfl (fc rfl (fc rfl fn))))))) (jn40_1387 v1540 (by omega) (by omega))
