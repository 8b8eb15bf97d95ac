theorem tb0 (v : Int32) (d : Nat) (h : v.toInt = 0) : tb v d = false := by
  obtain rfl : v = 0 := (eq32 v 0).mpr h
  simp [tb]
set_option maxHeartbeats 4000000 in
set_option maxRecDepth 100000 in
theorem ex_forgeta {g : GG} {I : pI} {J : pJ} {R : pR} (hy : LyX g) (hr : RfX g R)    : SP g mX7_forget [.ref (ad g 6)] I J R (fun r I' J' R' => R' = R ∧ FC g [6, 7, 11, 12, 13, 14, 15, 18, 19, 21] I I' ∧ FC g [] J J' ∧ r = none ∧ (∃ j, RTX g 6 (S0 j) I' J')) := by
  refine SP_of ⟨by decide, rfl⟩ (Nat.le_of_ble_eq_true rfl) ?_
  have fI0 : FC g [6, 7, 11, 12, 13, 14, 15, 18, 19, 21] I I := FC_rf
  have fJ0 : FC g [] J J := FC_rf
  refine WP_aload_n dX7_forget_0 rfl ?_
  refine WQ_iconst (0) (0) dX7_forget_1 rfl rfl (fun v1167 hv1167 => ?_)
  refine WQ_puti dX7_forget_2 fX7_61 rfl rfl (lyx_is hy 6 7 rfl) (fun I1168 eI1168 => ?_)
  have e1169 : I1168 (ad g 6) 0 = v1167 := by rw [eI1168, pp_self]
  have fI1170 : FC g [6, 7, 11, 12, 13, 14, 15, 18, 19, 21] I I1168 := by rw [eI1168]; exact FC_pp fI0 (by decide)
  refine WP_aload_n dX7_forget_5 rfl ?_
  refine WQ_iconst (0) (0) dX7_forget_6 rfl rfl (fun v1171 hv1171 => ?_)
  refine WQ_puti dX7_forget_7 fX7_65 rfl rfl (lyx_is hy 6 7 rfl) (fun I1172 eI1172 => ?_)
  have e1173 : I1172 (ad g 6) 0 = v1167 := by rw [eI1172, pp_ne _ _ (Or.inr (by decide))]; exact e1169
  have e1174 : I1172 (ad g 6) 1 = v1171 := by rw [eI1172, pp_self]
  have fI1175 : FC g [6, 7, 11, 12, 13, 14, 15, 18, 19, 21] I I1172 := by rw [eI1172]; exact FC_pp fI1170 (by decide)
  refine WP_aload_n dX7_forget_10 rfl ?_
  refine WQ_iconst (0) (0) dX7_forget_11 rfl rfl (fun v1176 hv1176 => ?_)
  refine WQ_puti dX7_forget_12 fX7_68 rfl rfl (lyx_is hy 6 7 rfl) (fun I1177 eI1177 => ?_)
  have e1178 : I1177 (ad g 6) 0 = v1167 := by rw [eI1177, pp_ne _ _ (Or.inr (by decide))]; exact e1173
  have e1179 : I1177 (ad g 6) 1 = v1171 := by rw [eI1177, pp_ne _ _ (Or.inr (by decide))]; exact e1174
  have e1180 : I1177 (ad g 6) 2 = v1176 := by rw [eI1177, pp_self]
  have fI1181 : FC g [6, 7, 11, 12, 13, 14, 15, 18, 19, 21] I I1177 := by rw [eI1177]; exact FC_pp fI1175 (by decide)
  refine WP_aload_n dX7_forget_15 rfl ?_
  refine WQ_iconst (-1) (-1) dX7_forget_16 rfl rfl (fun v1182 hv1182 => ?_)
  refine WQ_puti dX7_forget_17 fX7_71 rfl rfl (lyx_is hy 6 7 rfl) (fun I1183 eI1183 => ?_)
  have e1184 : I1183 (ad g 6) 0 = v1167 := by rw [eI1183, pp_ne _ _ (Or.inr (by decide))]; exact e1178
  have e1185 : I1183 (ad g 6) 1 = v1171 := by rw [eI1183, pp_ne _ _ (Or.inr (by decide))]; exact e1179
  have e1186 : I1183 (ad g 6) 2 = v1176 := by rw [eI1183, pp_ne _ _ (Or.inr (by decide))]; exact e1180
  have e1187 : I1183 (ad g 6) 3 = v1182 := by rw [eI1183, pp_self]
  have fI1188 : FC g [6, 7, 11, 12, 13, 14, 15, 18, 19, 21] I I1183 := by rw [eI1183]; exact FC_pp fI1181 (by decide)
  refine WP_aload_n dX7_forget_20 rfl ?_
  refine WQ_iconst (-1) (-1) dX7_forget_21 rfl rfl (fun v1189 hv1189 => ?_)
  refine WQ_puti dX7_forget_22 fX7_74 rfl rfl (lyx_is hy 6 7 rfl) (fun I1190 eI1190 => ?_)
  have e1191 : I1190 (ad g 6) 0 = v1167 := by rw [eI1190, pp_ne _ _ (Or.inr (by decide))]; exact e1184
  have e1192 : I1190 (ad g 6) 1 = v1171 := by rw [eI1190, pp_ne _ _ (Or.inr (by decide))]; exact e1185
  have e1193 : I1190 (ad g 6) 2 = v1176 := by rw [eI1190, pp_ne _ _ (Or.inr (by decide))]; exact e1186
  have e1194 : I1190 (ad g 6) 3 = v1182 := by rw [eI1190, pp_ne _ _ (Or.inr (by decide))]; exact e1187
  have e1195 : I1190 (ad g 6) 4 = v1189 := by rw [eI1190, pp_self]
  have fI1196 : FC g [6, 7, 11, 12, 13, 14, 15, 18, 19, 21] I I1190 := by rw [eI1190]; exact FC_pp fI1188 (by decide)
  refine WP_aload_n dX7_forget_25 rfl ?_
  refine WP_getr dX7_forget_26 fX7_9 rfl (lyx_is hy 6 7 rfl) (rfx hr 6 5 7 (by decide)) ?_
  refine WQ_iconst (0) (0) dX7_forget_29 rfl rfl (fun v1197 hv1197 => ?_)
  refine WP_callS2u dX7_forget_30 ⟨⟨⟨by decide, by decide⟩, zJ7_fill_53178⟩, lX7_77, tJ7_fill_53178⟩ (s_fill hy hr 7 7 rfl rfl (by decide) v1197) (Nat.le_of_ble_eq_true rfl) ?_
  obtain ⟨I1198, eI1198⟩ : ∃ I9 : pI, I9 = fi I1190 (ad g 7) 7 v1197 := ⟨_, rfl⟩
  rw [← eI1198]
  have e1199 : I1198 (ad g 6) 0 = v1167 := by rw [eI1198, fi_off (lyx_ne hy (by decide) (by decide) (by decide))]; exact e1191
  have e1200 : I1198 (ad g 6) 1 = v1171 := by rw [eI1198, fi_off (lyx_ne hy (by decide) (by decide) (by decide))]; exact e1192
  have e1201 : I1198 (ad g 6) 2 = v1176 := by rw [eI1198, fi_off (lyx_ne hy (by decide) (by decide) (by decide))]; exact e1193
  have e1202 : I1198 (ad g 6) 3 = v1182 := by rw [eI1198, fi_off (lyx_ne hy (by decide) (by decide) (by decide))]; exact e1194
  have e1203 : I1198 (ad g 6) 4 = v1189 := by rw [eI1198, fi_off (lyx_ne hy (by decide) (by decide) (by decide))]; exact e1195
  have fI1204 : FC g [6, 7, 11, 12, 13, 14, 15, 18, 19, 21] I I1198 := by rw [eI1198]; exact FC_fi fI1196 (by decide)
  refine WP_aload_n dX7_forget_33 rfl ?_
  refine WP_getr dX7_forget_34 fX7_24 rfl (lyx_is hy 6 7 rfl) (rfx hr 6 9 11 (by decide)) ?_
  refine WQ_iconst (0) (0) dX7_forget_37 rfl rfl (fun v1205 hv1205 => ?_)
  refine WP_callS2u dX7_forget_38 ⟨⟨⟨by decide, by decide⟩, zJ7_fill_53178⟩, lX7_77, tJ7_fill_53178⟩ (s_fill hy hr 11 4 rfl rfl (by decide) v1205) (Nat.le_of_ble_eq_true rfl) ?_
  obtain ⟨I1206, eI1206⟩ : ∃ I9 : pI, I9 = fi I1198 (ad g 11) 4 v1205 := ⟨_, rfl⟩
  rw [← eI1206]
  have e1207 : I1206 (ad g 6) 0 = v1167 := by rw [eI1206, fi_off (lyx_ne hy (by decide) (by decide) (by decide))]; exact e1199
  have e1208 : I1206 (ad g 6) 1 = v1171 := by rw [eI1206, fi_off (lyx_ne hy (by decide) (by decide) (by decide))]; exact e1200
  have e1209 : I1206 (ad g 6) 2 = v1176 := by rw [eI1206, fi_off (lyx_ne hy (by decide) (by decide) (by decide))]; exact e1201
  have e1210 : I1206 (ad g 6) 3 = v1182 := by rw [eI1206, fi_off (lyx_ne hy (by decide) (by decide) (by decide))]; exact e1202
  have e1211 : I1206 (ad g 6) 4 = v1189 := by rw [eI1206, fi_off (lyx_ne hy (by decide) (by decide) (by decide))]; exact e1203
  have fI1212 : FC g [6, 7, 11, 12, 13, 14, 15, 18, 19, 21] I I1206 := by rw [eI1206]; exact FC_fi fI1204 (by decide)
  refine WP_aload_n dX7_forget_41 rfl ?_
  refine WP_getr dX7_forget_42 fX7_27 rfl (lyx_is hy 6 7 rfl) (rfx hr 6 10 12 (by decide)) ?_
  refine WQ_iconst (0) (0) dX7_forget_45 rfl rfl (fun v1213 hv1213 => ?_)
  refine WP_callS2u dX7_forget_46 ⟨⟨⟨by decide, by decide⟩, zJ7_fill_53178⟩, lX7_77, tJ7_fill_53178⟩ (s_fill hy hr 12 28 rfl rfl (by decide) v1213) (Nat.le_of_ble_eq_true rfl) ?_
  obtain ⟨I1214, eI1214⟩ : ∃ I9 : pI, I9 = fi I1206 (ad g 12) 28 v1213 := ⟨_, rfl⟩
  rw [← eI1214]
  have e1215 : I1214 (ad g 6) 0 = v1167 := by rw [eI1214, fi_off (lyx_ne hy (by decide) (by decide) (by decide))]; exact e1207
  have e1216 : I1214 (ad g 6) 1 = v1171 := by rw [eI1214, fi_off (lyx_ne hy (by decide) (by decide) (by decide))]; exact e1208
  have e1217 : I1214 (ad g 6) 2 = v1176 := by rw [eI1214, fi_off (lyx_ne hy (by decide) (by decide) (by decide))]; exact e1209
  have e1218 : I1214 (ad g 6) 3 = v1182 := by rw [eI1214, fi_off (lyx_ne hy (by decide) (by decide) (by decide))]; exact e1210
  have e1219 : I1214 (ad g 6) 4 = v1189 := by rw [eI1214, fi_off (lyx_ne hy (by decide) (by decide) (by decide))]; exact e1211
  have fI1220 : FC g [6, 7, 11, 12, 13, 14, 15, 18, 19, 21] I I1214 := by rw [eI1214]; exact FC_fi fI1212 (by decide)
  refine WP_aload_n dX7_forget_49 rfl ?_
  refine WP_getr dX7_forget_50 fX7_30 rfl (lyx_is hy 6 7 rfl) (rfx hr 6 11 13 (by decide)) ?_
  refine WQ_iconst (-1) (-1) dX7_forget_53 rfl rfl (fun v1221 hv1221 => ?_)
  refine WP_callS2u dX7_forget_54 ⟨⟨⟨by decide, by decide⟩, zJ7_fill_53178⟩, lX7_77, tJ7_fill_53178⟩ (s_fill hy hr 13 28 rfl rfl (by decide) v1221) (Nat.le_of_ble_eq_true rfl) ?_
  obtain ⟨I1222, eI1222⟩ : ∃ I9 : pI, I9 = fi I1214 (ad g 13) 28 v1221 := ⟨_, rfl⟩
  rw [← eI1222]
  have e1223 : I1222 (ad g 6) 0 = v1167 := by rw [eI1222, fi_off (lyx_ne hy (by decide) (by decide) (by decide))]; exact e1215
  have e1224 : I1222 (ad g 6) 1 = v1171 := by rw [eI1222, fi_off (lyx_ne hy (by decide) (by decide) (by decide))]; exact e1216
  have e1225 : I1222 (ad g 6) 2 = v1176 := by rw [eI1222, fi_off (lyx_ne hy (by decide) (by decide) (by decide))]; exact e1217
  have e1226 : I1222 (ad g 6) 3 = v1182 := by rw [eI1222, fi_off (lyx_ne hy (by decide) (by decide) (by decide))]; exact e1218
  have e1227 : I1222 (ad g 6) 4 = v1189 := by rw [eI1222, fi_off (lyx_ne hy (by decide) (by decide) (by decide))]; exact e1219
  have fI1228 : FC g [6, 7, 11, 12, 13, 14, 15, 18, 19, 21] I I1222 := by rw [eI1222]; exact FC_fi fI1220 (by decide)
  refine WP_aload_n dX7_forget_57 rfl ?_
  refine WP_getr dX7_forget_58 fX7_33 rfl (lyx_is hy 6 7 rfl) (rfx hr 6 12 14 (by decide)) ?_
  refine WQ_iconst (0) (0) dX7_forget_61 rfl rfl (fun v1229 hv1229 => ?_)
  refine WP_callS2u dX7_forget_62 ⟨⟨⟨by decide, by decide⟩, zJ7_fill_53178⟩, lX7_77, tJ7_fill_53178⟩ (s_fill hy hr 14 28 rfl rfl (by decide) v1229) (Nat.le_of_ble_eq_true rfl) ?_
  obtain ⟨I1230, eI1230⟩ : ∃ I9 : pI, I9 = fi I1222 (ad g 14) 28 v1229 := ⟨_, rfl⟩
  rw [← eI1230]
  have e1231 : I1230 (ad g 6) 0 = v1167 := by rw [eI1230, fi_off (lyx_ne hy (by decide) (by decide) (by decide))]; exact e1223
  have e1232 : I1230 (ad g 6) 1 = v1171 := by rw [eI1230, fi_off (lyx_ne hy (by decide) (by decide) (by decide))]; exact e1224
  have e1233 : I1230 (ad g 6) 2 = v1176 := by rw [eI1230, fi_off (lyx_ne hy (by decide) (by decide) (by decide))]; exact e1225
  have e1234 : I1230 (ad g 6) 3 = v1182 := by rw [eI1230, fi_off (lyx_ne hy (by decide) (by decide) (by decide))]; exact e1226
  have e1235 : I1230 (ad g 6) 4 = v1189 := by rw [eI1230, fi_off (lyx_ne hy (by decide) (by decide) (by decide))]; exact e1227
  have fI1236 : FC g [6, 7, 11, 12, 13, 14, 15, 18, 19, 21] I I1230 := by rw [eI1230]; exact FC_fi fI1228 (by decide)
  refine WP_aload_n dX7_forget_65 rfl ?_
  refine WP_getr dX7_forget_66 fX7_36 rfl (lyx_is hy 6 7 rfl) (rfx hr 6 13 15 (by decide)) ?_
  refine WQ_iconst (0) (0) dX7_forget_69 rfl rfl (fun v1237 hv1237 => ?_)
  refine WP_callS2u dX7_forget_70 ⟨⟨⟨by decide, by decide⟩, zJ7_fill_53178⟩, lX7_77, tJ7_fill_53178⟩ (s_fill hy hr 15 28 rfl rfl (by decide) v1237) (Nat.le_of_ble_eq_true rfl) ?_
  obtain ⟨I1238, eI1238⟩ : ∃ I9 : pI, I9 = fi I1230 (ad g 15) 28 v1237 := ⟨_, rfl⟩
  rw [← eI1238]
  have e1239 : I1238 (ad g 6) 0 = v1167 := by rw [eI1238, fi_off (lyx_ne hy (by decide) (by decide) (by decide))]; exact e1231
  have e1240 : I1238 (ad g 6) 1 = v1171 := by rw [eI1238, fi_off (lyx_ne hy (by decide) (by decide) (by decide))]; exact e1232
  have e1241 : I1238 (ad g 6) 2 = v1176 := by rw [eI1238, fi_off (lyx_ne hy (by decide) (by decide) (by decide))]; exact e1233
  have e1242 : I1238 (ad g 6) 3 = v1182 := by rw [eI1238, fi_off (lyx_ne hy (by decide) (by decide) (by decide))]; exact e1234
  have e1243 : I1238 (ad g 6) 4 = v1189 := by rw [eI1238, fi_off (lyx_ne hy (by decide) (by decide) (by decide))]; exact e1235
  have fI1244 : FC g [6, 7, 11, 12, 13, 14, 15, 18, 19, 21] I I1238 := by rw [eI1238]; exact FC_fi fI1236 (by decide)
  refine WP_aload_n dX7_forget_73 rfl ?_
  refine WP_getr dX7_forget_74 fX7_45 rfl (lyx_is hy 6 7 rfl) (rfx hr 6 16 18 (by decide)) ?_
  refine WQ_iconst (5) (5) dX7_forget_77 rfl rfl (fun v1245 hv1245 => ?_)
  refine WP_callS2u dX7_forget_78 ⟨⟨⟨by decide, by decide⟩, zJ7_fill_53178⟩, lX7_77, tJ7_fill_53178⟩ (s_fill hy hr 18 21 rfl rfl (by decide) v1245) (Nat.le_of_ble_eq_true rfl) ?_
  obtain ⟨I1246, eI1246⟩ : ∃ I9 : pI, I9 = fi I1238 (ad g 18) 21 v1245 := ⟨_, rfl⟩
  rw [← eI1246]
  have e1247 : I1246 (ad g 6) 0 = v1167 := by rw [eI1246, fi_off (lyx_ne hy (by decide) (by decide) (by decide))]; exact e1239
  have e1248 : I1246 (ad g 6) 1 = v1171 := by rw [eI1246, fi_off (lyx_ne hy (by decide) (by decide) (by decide))]; exact e1240
  have e1249 : I1246 (ad g 6) 2 = v1176 := by rw [eI1246, fi_off (lyx_ne hy (by decide) (by decide) (by decide))]; exact e1241
  have e1250 : I1246 (ad g 6) 3 = v1182 := by rw [eI1246, fi_off (lyx_ne hy (by decide) (by decide) (by decide))]; exact e1242
  have e1251 : I1246 (ad g 6) 4 = v1189 := by rw [eI1246, fi_off (lyx_ne hy (by decide) (by decide) (by decide))]; exact e1243
  have fI1252 : FC g [6, 7, 11, 12, 13, 14, 15, 18, 19, 21] I I1246 := by rw [eI1246]; exact FC_fi fI1244 (by decide)
  refine WP_aload_n dX7_forget_81 rfl ?_
  refine WP_getr dX7_forget_82 fX7_48 rfl (lyx_is hy 6 7 rfl) (rfx hr 6 17 19 (by decide)) ?_
  refine WQ_iconst (-1) (-1) dX7_forget_85 rfl rfl (fun v1253 hv1253 => ?_)
  refine WP_callS2u dX7_forget_86 ⟨⟨⟨by decide, by decide⟩, zJ7_fill_53178⟩, lX7_77, tJ7_fill_53178⟩ (s_fill hy hr 19 21 rfl rfl (by decide) v1253) (Nat.le_of_ble_eq_true rfl) ?_
  obtain ⟨I1254, eI1254⟩ : ∃ I9 : pI, I9 = fi I1246 (ad g 19) 21 v1253 := ⟨_, rfl⟩
  rw [← eI1254]
  have e1255 : I1254 (ad g 6) 0 = v1167 := by rw [eI1254, fi_off (lyx_ne hy (by decide) (by decide) (by decide))]; exact e1247
  have e1256 : I1254 (ad g 6) 1 = v1171 := by rw [eI1254, fi_off (lyx_ne hy (by decide) (by decide) (by decide))]; exact e1248
  have e1257 : I1254 (ad g 6) 2 = v1176 := by rw [eI1254, fi_off (lyx_ne hy (by decide) (by decide) (by decide))]; exact e1249
  have e1258 : I1254 (ad g 6) 3 = v1182 := by rw [eI1254, fi_off (lyx_ne hy (by decide) (by decide) (by decide))]; exact e1250
  have e1259 : I1254 (ad g 6) 4 = v1189 := by rw [eI1254, fi_off (lyx_ne hy (by decide) (by decide) (by decide))]; exact e1251
  have fI1260 : FC g [6, 7, 11, 12, 13, 14, 15, 18, 19, 21] I I1254 := by rw [eI1254]; exact FC_fi fI1252 (by decide)
  refine WP_aload_n dX7_forget_89 rfl ?_
  refine WP_getr dX7_forget_90 fX7_55 rfl (lyx_is hy 6 7 rfl) (rfx hr 6 19 21 (by decide)) ?_
  refine WQ_iconst (0) (0) dX7_forget_93 rfl rfl (fun v1261 hv1261 => ?_)
  refine WP_callS2u dX7_forget_94 ⟨⟨⟨by decide, by decide⟩, zJ7_fill_53178⟩, lX7_77, tJ7_fill_53178⟩ (s_fill hy hr 21 48 rfl rfl (by decide) v1261) (Nat.le_of_ble_eq_true rfl) ?_
  obtain ⟨I1262, eI1262⟩ : ∃ I9 : pI, I9 = fi I1254 (ad g 21) 48 v1261 := ⟨_, rfl⟩
  rw [← eI1262]
  have e1263 : I1262 (ad g 6) 0 = v1167 := by rw [eI1262, fi_off (lyx_ne hy (by decide) (by decide) (by decide))]; exact e1255
  have e1264 : I1262 (ad g 6) 1 = v1171 := by rw [eI1262, fi_off (lyx_ne hy (by decide) (by decide) (by decide))]; exact e1256
  have e1265 : I1262 (ad g 6) 2 = v1176 := by rw [eI1262, fi_off (lyx_ne hy (by decide) (by decide) (by decide))]; exact e1257
  have e1266 : I1262 (ad g 6) 3 = v1182 := by rw [eI1262, fi_off (lyx_ne hy (by decide) (by decide) (by decide))]; exact e1258
  have e1267 : I1262 (ad g 6) 4 = v1189 := by rw [eI1262, fi_off (lyx_ne hy (by decide) (by decide) (by decide))]; exact e1259
  have fI1268 : FC g [6, 7, 11, 12, 13, 14, 15, 18, 19, 21] I I1262 := by rw [eI1262]; exact FC_fi fI1260 (by decide)
  exact WP_vret dX7_forget_97 rfl ⟨rfl, fI1268, fJ0, rfl, by
    try simp only [e1263, e1264, e1265, e1266, e1267]
    refine ⟨fun c q => if c = 14 then (J (ad g 20) q).toInt else (I1262 (ad g (6 + c)) q).toInt, ?_⟩
    have F1 : ∀ q, q < 7 → I1262 (ad g 7) q = v1197 := fun q hq => by
      rw [eI1262, fi_off (lyx_ne hy (by decide) (by decide) (by decide)), eI1254, fi_off (lyx_ne hy (by decide) (by decide) (by decide)), eI1246, fi_off (lyx_ne hy (by decide) (by decide) (by decide)), eI1238, fi_off (lyx_ne hy (by decide) (by decide) (by decide)), eI1230, fi_off (lyx_ne hy (by decide) (by decide) (by decide)), eI1222, fi_off (lyx_ne hy (by decide) (by decide) (by decide)), eI1214, fi_off (lyx_ne hy (by decide) (by decide) (by decide)), eI1206, fi_off (lyx_ne hy (by decide) (by decide) (by decide)), eI1198, fi_in hq]
    have G1 : v1197.toInt = 0 := by omega
    have F5 : ∀ q, q < 4 → I1262 (ad g 11) q = v1205 := fun q hq => by
      rw [eI1262, fi_off (lyx_ne hy (by decide) (by decide) (by decide)), eI1254, fi_off (lyx_ne hy (by decide) (by decide) (by decide)), eI1246, fi_off (lyx_ne hy (by decide) (by decide) (by decide)), eI1238, fi_off (lyx_ne hy (by decide) (by decide) (by decide)), eI1230, fi_off (lyx_ne hy (by decide) (by decide) (by decide)), eI1222, fi_off (lyx_ne hy (by decide) (by decide) (by decide)), eI1214, fi_off (lyx_ne hy (by decide) (by decide) (by decide)), eI1206, fi_in hq]
    have G5 : v1205.toInt = 0 := by omega
    have F6 : ∀ q, q < 28 → I1262 (ad g 12) q = v1213 := fun q hq => by
      rw [eI1262, fi_off (lyx_ne hy (by decide) (by decide) (by decide)), eI1254, fi_off (lyx_ne hy (by decide) (by decide) (by decide)), eI1246, fi_off (lyx_ne hy (by decide) (by decide) (by decide)), eI1238, fi_off (lyx_ne hy (by decide) (by decide) (by decide)), eI1230, fi_off (lyx_ne hy (by decide) (by decide) (by decide)), eI1222, fi_off (lyx_ne hy (by decide) (by decide) (by decide)), eI1214, fi_in hq]
    have G6 : v1213.toInt = 0 := by omega
    have F7 : ∀ q, q < 28 → I1262 (ad g 13) q = v1221 := fun q hq => by
      rw [eI1262, fi_off (lyx_ne hy (by decide) (by decide) (by decide)), eI1254, fi_off (lyx_ne hy (by decide) (by decide) (by decide)), eI1246, fi_off (lyx_ne hy (by decide) (by decide) (by decide)), eI1238, fi_off (lyx_ne hy (by decide) (by decide) (by decide)), eI1230, fi_off (lyx_ne hy (by decide) (by decide) (by decide)), eI1222, fi_in hq]
    have G7 : v1221.toInt = -1 := by omega
    have F8 : ∀ q, q < 28 → I1262 (ad g 14) q = v1229 := fun q hq => by
      rw [eI1262, fi_off (lyx_ne hy (by decide) (by decide) (by decide)), eI1254, fi_off (lyx_ne hy (by decide) (by decide) (by decide)), eI1246, fi_off (lyx_ne hy (by decide) (by decide) (by decide)), eI1238, fi_off (lyx_ne hy (by decide) (by decide) (by decide)), eI1230, fi_in hq]
    have G8 : v1229.toInt = 0 := by omega
    have F9 : ∀ q, q < 28 → I1262 (ad g 15) q = v1237 := fun q hq => by
      rw [eI1262, fi_off (lyx_ne hy (by decide) (by decide) (by decide)), eI1254, fi_off (lyx_ne hy (by decide) (by decide) (by decide)), eI1246, fi_off (lyx_ne hy (by decide) (by decide) (by decide)), eI1238, fi_in hq]
    have G9 : v1237.toInt = 0 := by omega
    have F12 : ∀ q, q < 21 → I1262 (ad g 18) q = v1245 := fun q hq => by
      rw [eI1262, fi_off (lyx_ne hy (by decide) (by decide) (by decide)), eI1254, fi_off (lyx_ne hy (by decide) (by decide) (by decide)), eI1246, fi_in hq]
    have G12 : v1245.toInt = 5 := by omega
    have F13 : ∀ q, q < 21 → I1262 (ad g 19) q = v1253 := fun q hq => by
      rw [eI1262, fi_off (lyx_ne hy (by decide) (by decide) (by decide)), eI1254, fi_in hq]
    have G13 : v1253.toInt = -1 := by omega
    have F15 : ∀ q, q < 48 → I1262 (ad g 21) q = v1261 := fun q hq => by
      rw [eI1262, fi_in hq]
    have G15 : v1261.toInt = 0 := by omega
    refine ⟨fun c q hc hq => ?_, fun q hq => rfl, fun ro hro d hd => ?_⟩
    · rcases (show c = 0 ∨ c = 1 ∨ c = 2 ∨ c = 3 ∨ c = 4 ∨ c = 5 ∨ c = 6 ∨ c = 7 ∨ c = 8 ∨ c = 9 ∨ c = 10 ∨ c = 11 ∨ c = 12 ∨ c = 13 by omega) with rfl | rfl | rfl | rfl | rfl | rfl | rfl | rfl | rfl | rfl | rfl | rfl | rfl | rfl
      · have hq5 : q < 5 := hq
        rcases (show q = 0 ∨ q = 1 ∨ q = 2 ∨ q = 3 ∨ q = 4 by omega) with rfl | rfl | rfl | rfl | rfl
        · show (I1262 (ad g 6) 0).toInt = 0
          rw [e1263]; omega
        · show (I1262 (ad g 6) 1).toInt = 0
          rw [e1264]; omega
        · show (I1262 (ad g 6) 2).toInt = 0
          rw [e1265]; omega
        · show (I1262 (ad g 6) 3).toInt = -1
          rw [e1266]; omega
        · show (I1262 (ad g 6) 4).toInt = -1
          rw [e1267]; omega
      · show (I1262 (ad g 7) q).toInt = 0
        rw [F1 q hq]; exact G1
      · rfl
      · rfl
      · rfl
      · show (I1262 (ad g 11) q).toInt = 0
        rw [F5 q hq]; exact G5
      · show (I1262 (ad g 12) q).toInt = 0
        rw [F6 q hq]; exact G6
      · show (I1262 (ad g 13) q).toInt = -1
        rw [F7 q hq]; exact G7
      · show (I1262 (ad g 14) q).toInt = 0
        rw [F8 q hq]; exact G8
      · show (I1262 (ad g 15) q).toInt = 0
        rw [F9 q hq]; exact G9
      · rfl
      · rfl
      · show (I1262 (ad g 18) q).toInt = 5
        rw [F12 q hq]; exact G12
      · show (I1262 (ad g 19) q).toInt = -1
        rw [F13 q hq]; exact G13
    · show tb (I1262 (ad g 21) ro) d = false
      rw [F15 ro hro]; exact tb0 _ _ G15⟩
set_option maxHeartbeats 4000000 in
set_option maxRecDepth 100000 in
theorem ex_tella {g : GG} {I : pI} {J : pJ} {R : pR} (hy : LyX g) (hr : RfX g R) {S : TwS} {P : Nat → Int} {c : Nat} (cl : Int32) (hR : RTX g 6 S I J) (hc : cl.toInt = (c : Int)) (hc9 : c < 10) (h0 : 0 ≤ S.1 0 0 ∧ S.1 0 0 ≤ 1000) (hP : PRX g P (loP c) (SHP c).length I) (h1 : c = 0 → 0 ≤ P 0 ∧ P 0 < 7) (h2 : c = 3 ∨ c = 6 ∨ c = 7 → 0 ≤ P 0 ∧ P 0 < 4) (h3 : c = 4 ∨ c = 5 → 0 ≤ P 0 ∧ P 0 < 3) (h4 : c = 3 ∨ c = 4 ∨ c = 5 → 0 ≤ P 1 ∧ P 1 < 7) (h5 : c = 6 → 0 ≤ P 2 ∧ P 2 < 7) (h6 : c = 1 → 0 ≤ S.1 0 1 ∧ S.1 0 1 < 4) (h7 : c = 2 → 0 ≤ S.1 0 2 ∧ S.1 0 2 < 3) : SP g mX7_tell [.ref (ad g 6), .int cl, .ref (ad g 4)] I J R (fun r I' J' R' => R' = R ∧ FC g [6, 7, 8, 9, 10, 11, 12, 13, 14, 15, 16, 17, 18, 19, 21] I I' ∧ FC g [] J J' ∧ r = none ∧ (RTX g 6 (tel c P S) I' J')) := by
  refine SP_of ⟨by decide, rfl⟩ (Nat.le_of_ble_eq_true rfl) ?_
  have fI0 : FC g [6, 7, 8, 9, 10, 11, 12, 13, 14, 15, 16, 17, 18, 19, 21] I I := FC_rf
  have fJ0 : FC g [] J J := FC_rf
  have hs0 : (I (ad g 6) 0).toInt = S.1 0 0 := hR.1 0 0 (by decide) (by decide)
  obtain ⟨w1269, ew1269⟩ : ∃ w : Int32, I (ad g 6) 0 = w := ⟨_, rfl⟩
  try simp only [ew1269] at hs0
  refine WP_aload_n dX7_tell_0 rfl ?_
  refine WP_dup dX7_tell_1 rfl ?_
  refine WQ_getim dX7_tell_2 fX7_61 rfl (lyx_is hy 6 7 rfl) ew1269 ?_
  refine WQ_iconst (1) (1) dX7_tell_5 rfl rfl (fun v1270 hv1270 => ?_)
  refine WQ_iadd dX7_tell_6 (by omega) (by omega) (fun v1271 hv1271 => ?_)
  refine WQ_puti dX7_tell_7 fX7_61 rfl rfl (lyx_is hy 6 7 rfl) (fun I1272 eI1272 => ?_)
  have e1273 : I1272 (ad g 6) 0 = v1271 := by rw [eI1272, pp_self]
  have fI1274 : FC g [6, 7, 8, 9, 10, 11, 12, 13, 14, 15, 16, 17, 18, 19, 21] I I1272 := by rw [eI1272]; exact FC_pp fI0 (by decide)
  have e01 : (pp S.1 0 0 (S.1 0 0 + 1)) 0 1 = S.1 0 1 := pp_ne _ _ (Or.inr (by decide))
  have e02 : (pp S.1 0 0 (S.1 0 0 + 1)) 0 2 = S.1 0 2 := pp_ne _ _ (Or.inr (by decide))
  have hR1 : RTX g 6 (pp S.1 0 0 (S.1 0 0 + 1), S.2) I1272 J := by
    rw [eI1272]
    exact RTX_w hy (by decide) hR 0 0 _ _ (by decide) (by omega)
  have hP1 : PRX g P (loP c) (SHP c).length I1272 := by rw [eI1272]; exact PRX_pp hy hP (by decide) (by decide)
  refine WP_iload_n dX7_tell_10 rfl ?_
  refine WP_tab 178 dX7_tell_11 rfl rfl (fun c1274 => ?_) (fun j off c1274 hj => ?_) (by decide)
  · obtain rfl : c = 9 := by omega
    obtain ⟨w1276, ew1276⟩ : ∃ w : Int32, I1272 (ad g 4) 0 = w := ⟨_, rfl⟩
    have q0 : w1276.toInt = P 0 := by rw [← ew1276]; exact hP1 0 (by decide) (by decide)
    refine WP_aload_n dX7_tell_178 rfl ?_
    refine WP_aload_n dX7_tell_179 rfl ?_
    refine WQ_iconst (0) (0) dX7_tell_180 rfl rfl (fun v1277 hv1277 => ?_)
    refine WE_iak (z := 0) dX7_tell_181 (lyx_is hy 4 13 rfl) (lyx_n hy 4 5 rfl) hv1277 (by decide) ew1276 ?_
    refine WQ_puti dX7_tell_182 fX7_74 rfl rfl (lyx_is hy 6 7 rfl) (fun I1279 eI1279 => ?_)
    have e1280 : I1279 (ad g 6) 0 = v1271 := by rw [eI1279, pp_ne _ _ (Or.inr (by decide))]; exact e1273
    have e1281 : I1279 (ad g 4) 0 = w1276 := by rw [eI1279, pp_ne _ _ (Or.inl (lyx_ne hy (by decide) (by decide) (by decide)))]; exact ew1276
    have e1282 : I1279 (ad g 6) 4 = w1276 := by rw [eI1279, pp_self]
    have fI1283 : FC g [6, 7, 8, 9, 10, 11, 12, 13, 14, 15, 16, 17, 18, 19, 21] I I1279 := by rw [eI1279]; exact FC_pp fI1274 (by decide)
    have hR2 : RTX g 6 (pp (pp S.1 0 0 (S.1 0 0 + 1)) 0 4 (P 0), S.2) I1279 J := by
      rw [eI1279]
      exact RTX_w hy (by decide) hR1 0 4 _ _ (by decide) q0
    refine WP_aload_n dX7_tell_185 rfl ?_
    refine WQ_bipush (9) (9) dX7_tell_186 rfl rfl (fun v1284 hv1284 => ?_)
    refine WQ_iconst (0) (0) dX7_tell_188 rfl rfl (fun v1285 hv1285 => ?_)
    refine WQ_iconst (0) (0) dX7_tell_189 rfl rfl (fun v1286 hv1286 => ?_)
    refine WP_callV3 (k := 7) dX7_tell_190 ⟨⟨⟨by decide, by decide⟩, zX7_hold⟩, lX7_109, by decide, rfl, vX7_hold.1, vX7_hold.2⟩ (lyx_is hy 6 7 rfl) (ex_holda hy hr _ _ _  (S := (pp (pp S.1 0 0 (S.1 0 0 + 1)) 0 4 (P 0), S.2)) (ro := 36) (d := 0) hR2 (by omega) (by omega) (by omega) (by omega) (by omega) (by decide)) (Nat.le_of_ble_eq_true rfl) ?_
    intro r I1288 J1289 Ra hq
    obtain ⟨ec, g1290, g1291, er, p1287⟩ := hq
    rw [ec, er]
    clear ec er Ra r
    have e1293 : I1288 (ad g 6) 0 = v1271 := by rw [FCx_at hy g1290 6 (by decide) (by decide)]; exact e1280
    have e1294 : I1288 (ad g 4) 0 = w1276 := by rw [FCx_at hy g1290 4 (by decide) (by decide)]; exact e1281
    have e1295 : I1288 (ad g 6) 4 = w1276 := by rw [FCx_at hy g1290 6 (by decide) (by decide)]; exact e1282
    have fI1296 : FC g [6, 7, 8, 9, 10, 11, 12, 13, 14, 15, 16, 17, 18, 19, 21] I I1288 := FC_tr fI1283 (FC_mono g1290 (by decide))
    have fJ1297 : FC g [] J J1289 := FC_tr fJ0 (FC_mono g1291 (by decide))
    try simp only [e1293, ew1269] at p1287
    exact WP_vret dX7_tell_193 rfl ⟨rfl, fI1296, fJ1297, rfl, by
      try simp only [e1293, e1294, e1295, ew1269]
      exact p1287⟩
  · have hlt : j < 9 := by have := (Array.getElem?_eq_some_iff.mp hj).1; simpa using this
    have hcs : (j = 0 ∧ off = 49) ∨ (j = 1 ∧ off = 62) ∨ (j = 2 ∧ off = 70) ∨ (j = 3 ∧ off = 78) ∨ (j = 4 ∧ off = 91) ∨ (j = 5 ∧ off = 104) ∨ (j = 6 ∧ off = 117) ∨ (j = 7 ∧ off = 125) ∨ (j = 8 ∧ off = 149) := by
      match j, hlt, hj with
      | 0, _, hj => exact Or.inl ⟨rfl, (Option.some.inj hj).symm⟩
      | 1, _, hj => exact Or.inr (Or.inl ⟨rfl, (Option.some.inj hj).symm⟩)
      | 2, _, hj => exact Or.inr (Or.inr (Or.inl ⟨rfl, (Option.some.inj hj).symm⟩))
      | 3, _, hj => exact Or.inr (Or.inr (Or.inr (Or.inl ⟨rfl, (Option.some.inj hj).symm⟩)))
      | 4, _, hj => exact Or.inr (Or.inr (Or.inr (Or.inr (Or.inl ⟨rfl, (Option.some.inj hj).symm⟩))))
      | 5, _, hj => exact Or.inr (Or.inr (Or.inr (Or.inr (Or.inr (Or.inl ⟨rfl, (Option.some.inj hj).symm⟩)))))
      | 6, _, hj => exact Or.inr (Or.inr (Or.inr (Or.inr (Or.inr (Or.inr (Or.inl ⟨rfl, (Option.some.inj hj).symm⟩))))))
      | 7, _, hj => exact Or.inr (Or.inr (Or.inr (Or.inr (Or.inr (Or.inr (Or.inr (Or.inl ⟨rfl, (Option.some.inj hj).symm⟩)))))))
      | 8, _, hj => exact Or.inr (Or.inr (Or.inr (Or.inr (Or.inr (Or.inr (Or.inr (Or.inr (⟨rfl, (Option.some.inj hj).symm⟩))))))))
    clear hj hlt
    rcases hcs with ⟨rfl, rfl⟩ | ⟨rfl, rfl⟩ | ⟨rfl, rfl⟩ | ⟨rfl, rfl⟩ | ⟨rfl, rfl⟩ | ⟨rfl, rfl⟩ | ⟨rfl, rfl⟩ | ⟨rfl, rfl⟩ | ⟨rfl, rfl⟩
    · show WP _ _ 60 _ _ _ _ _ _
      obtain rfl : c = 0 := by omega
      obtain ⟨w1298, ew1298⟩ : ∃ w : Int32, I1272 (ad g 4) 0 = w := ⟨_, rfl⟩
      have q0 : w1298.toInt = P 0 := by rw [← ew1298]; exact hP1 0 (by decide) (by decide)
      obtain ⟨w1299, ew1299⟩ : ∃ w : Int32, I1272 (ad g 4) 1 = w := ⟨_, rfl⟩
      have q1 : w1299.toInt = P 1 := by rw [← ew1299]; exact hP1 1 (by decide) (by decide)
      refine WP_aload_n dX7_tell_60 rfl ?_
      refine WP_aload_n dX7_tell_61 rfl ?_
      refine WQ_iconst (0) (0) dX7_tell_62 rfl rfl (fun v1300 hv1300 => ?_)
      refine WE_iak (z := 0) dX7_tell_63 (lyx_is hy 4 13 rfl) (lyx_n hy 4 5 rfl) hv1300 (by decide) ew1298 ?_
      refine WP_aload_n dX7_tell_64 rfl ?_
      refine WQ_iconst (1) (1) dX7_tell_65 rfl rfl (fun v1302 hv1302 => ?_)
      refine WE_iak (z := 1) dX7_tell_66 (lyx_is hy 4 13 rfl) (lyx_n hy 4 5 rfl) hv1302 (by decide) ew1299 ?_
      refine WP_callV2 (k := 7) dX7_tell_67 ⟨⟨⟨by decide, by decide⟩, zX7_tellLoss⟩, lX7_91, by decide, rfl, vX7_tellLoss.1, vX7_tellLoss.2⟩ (lyx_is hy 6 7 rfl) (ex_tellLossa hy hr _ _  (S := (pp S.1 0 0 (S.1 0 0 + 1), S.2)) (d := (P 0).toNat) hR1 (by omega) (by omega)) (Nat.le_of_ble_eq_true rfl) ?_
      intro r I1305 J1306 Ra hq
      obtain ⟨ec, g1307, g1308, er, p1304⟩ := hq
      rw [ec, er]
      clear ec er Ra r
      have e1310 : I1305 (ad g 6) 0 = v1271 := by rw [FCx_at hy g1307 6 (by decide) (by decide)]; exact e1273
      have e1311 : I1305 (ad g 4) 0 = w1298 := by rw [FCx_at hy g1307 4 (by decide) (by decide)]; exact ew1298
      have e1312 : I1305 (ad g 4) 1 = w1299 := by rw [FCx_at hy g1307 4 (by decide) (by decide)]; exact ew1299
      have fI1313 : FC g [6, 7, 8, 9, 10, 11, 12, 13, 14, 15, 16, 17, 18, 19, 21] I I1305 := FC_tr fI1274 (FC_mono g1307 (by decide))
      have fJ1314 : FC g [] J J1306 := FC_tr fJ0 (FC_mono g1308 (by decide))
      try simp only [e1310, ew1269] at p1304
      rw [q1] at p1304
      refine WP_goto 193 dX7_tell_70 rfl ?_
      exact WP_vret dX7_tell_193 rfl ⟨rfl, fI1313, fJ1314, rfl, by
        try simp only [e1310, e1311, e1312, ew1269]
        exact p1304⟩
    · show WP _ _ 73 _ _ _ _ _ _
      obtain rfl : c = 1 := by omega
      refine WP_aload_n dX7_tell_73 rfl ?_
      refine WP_aload_n dX7_tell_74 rfl ?_
      refine WP_callV1 (k := 7) dX7_tell_75 ⟨⟨⟨by decide, by decide⟩, zX7_tellSort⟩, lX7_95, by decide, rfl, vX7_tellSort.1, vX7_tellSort.2⟩ (lyx_is hy 6 7 rfl) (ex_tellSorta hy hr   (S := (pp S.1 0 0 (S.1 0 0 + 1), S.2)) (P := P) hR1 hP1 (by show 0 ≤ pp S.1 0 0 (S.1 0 0 + 1) 0 1 ∧ pp S.1 0 0 (S.1 0 0 + 1) 0 1 < 4; rw [e01]; exact h6 rfl)) (Nat.le_of_ble_eq_true rfl) ?_
      intro r I1316 J1317 Ra hq
      obtain ⟨ec, g1318, g1319, er, p1315⟩ := hq
      rw [ec, er]
      clear ec er Ra r
      have fI1321 : FC g [6, 7, 8, 9, 10, 11, 12, 13, 14, 15, 16, 17, 18, 19, 21] I I1316 := FC_tr fI1274 (FC_mono g1318 (by decide))
      have fJ1322 : FC g [] J J1317 := FC_tr fJ0 (FC_mono g1319 (by decide))
      obtain ⟨w1323, ew1323⟩ : ∃ w : Int32, I1316 (ad g 6) 0 = w := ⟨_, rfl⟩
      try simp only [ew1323, ew1269] at p1315
      refine WP_goto 193 dX7_tell_78 rfl ?_
      exact WP_vret dX7_tell_193 rfl ⟨rfl, fI1321, fJ1322, rfl, by
        try simp only [ew1323, ew1269]
        exact p1315⟩
    · show WP _ _ 81 _ _ _ _ _ _
      obtain rfl : c = 2 := by omega
      refine WP_aload_n dX7_tell_81 rfl ?_
      refine WP_aload_n dX7_tell_82 rfl ?_
      refine WP_callV1 (k := 7) dX7_tell_83 ⟨⟨⟨by decide, by decide⟩, zX7_tellThing⟩, lX7_99, by decide, rfl, vX7_tellThing.1, vX7_tellThing.2⟩ (lyx_is hy 6 7 rfl) (ex_tellThinga hy hr   (S := (pp S.1 0 0 (S.1 0 0 + 1), S.2)) (P := P) hR1 hP1 (by show 0 ≤ pp S.1 0 0 (S.1 0 0 + 1) 0 2 ∧ pp S.1 0 0 (S.1 0 0 + 1) 0 2 < 3; rw [e02]; exact h7 rfl)) (Nat.le_of_ble_eq_true rfl) ?_
      intro r I1325 J1326 Ra hq
      obtain ⟨ec, g1327, g1328, er, p1324⟩ := hq
      rw [ec, er]
      clear ec er Ra r
      have fI1330 : FC g [6, 7, 8, 9, 10, 11, 12, 13, 14, 15, 16, 17, 18, 19, 21] I I1325 := FC_tr fI1274 (FC_mono g1327 (by decide))
      have fJ1331 : FC g [] J J1326 := FC_tr fJ0 (FC_mono g1328 (by decide))
      obtain ⟨w1332, ew1332⟩ : ∃ w : Int32, I1325 (ad g 6) 0 = w := ⟨_, rfl⟩
      try simp only [ew1332, ew1269] at p1324
      refine WP_goto 193 dX7_tell_86 rfl ?_
      exact WP_vret dX7_tell_193 rfl ⟨rfl, fI1330, fJ1331, rfl, by
        try simp only [ew1332, ew1269]
        exact p1324⟩
    · show WP _ _ 89 _ _ _ _ _ _
      obtain rfl : c = 3 := by omega
      refine WP_aload_n dX7_tell_89 rfl ?_
      refine WP_aload_n dX7_tell_90 rfl ?_
      refine WP_getr dX7_tell_91 fX7_27 rfl (lyx_is hy 6 7 rfl) (rfx hr 6 10 12 (by decide)) ?_
      refine WP_iload_n dX7_tell_94 rfl ?_
      refine WP_aload_n dX7_tell_95 rfl ?_
      refine WP_callV3 (k := 7) dX7_tell_96 ⟨⟨⟨by decide, by decide⟩, zX7_tellOn⟩, lX7_102, by decide, rfl, vX7_tellOn.1, vX7_tellOn.2⟩ (lyx_is hy 6 7 rfl) (ex_tellOn3a hy hr _  (S := (pp S.1 0 0 (S.1 0 0 + 1), S.2)) (P := P) hR1 (by omega) hP1 (by omega) (by omega)) (Nat.le_of_ble_eq_true rfl) ?_
      intro r I1334 J1335 Ra hq
      obtain ⟨ec, g1336, g1337, er, p1333⟩ := hq
      rw [ec, er]
      clear ec er Ra r
      have e1339 : I1334 (ad g 6) 0 = v1271 := by rw [FCx_at hy g1336 6 (by decide) (by decide)]; exact e1273
      have fI1340 : FC g [6, 7, 8, 9, 10, 11, 12, 13, 14, 15, 16, 17, 18, 19, 21] I I1334 := FC_tr fI1274 (FC_mono g1336 (by decide))
      have fJ1341 : FC g [] J J1335 := FC_tr fJ0 (FC_mono g1337 (by decide))
      try simp only [e1339, ew1269] at p1333
      refine WP_goto 193 dX7_tell_99 rfl ?_
      exact WP_vret dX7_tell_193 rfl ⟨rfl, fI1340, fJ1341, rfl, by
        try simp only [e1339, ew1269]
        exact p1333⟩
    · show WP _ _ 102 _ _ _ _ _ _
      obtain rfl : c = 4 := by omega
      refine WP_aload_n dX7_tell_102 rfl ?_
      refine WP_aload_n dX7_tell_103 rfl ?_
      refine WP_getr dX7_tell_104 fX7_45 rfl (lyx_is hy 6 7 rfl) (rfx hr 6 16 18 (by decide)) ?_
      refine WP_iload_n dX7_tell_107 rfl ?_
      refine WP_aload_n dX7_tell_108 rfl ?_
      refine WP_callV3 (k := 7) dX7_tell_109 ⟨⟨⟨by decide, by decide⟩, zX7_tellOn⟩, lX7_102, by decide, rfl, vX7_tellOn.1, vX7_tellOn.2⟩ (lyx_is hy 6 7 rfl) (ex_tellOn4a hy hr _  (S := (pp S.1 0 0 (S.1 0 0 + 1), S.2)) (P := P) hR1 (by omega) hP1 (by omega) (by omega)) (Nat.le_of_ble_eq_true rfl) ?_
      intro r I1343 J1344 Ra hq
      obtain ⟨ec, g1345, g1346, er, p1342⟩ := hq
      rw [ec, er]
      clear ec er Ra r
      have e1348 : I1343 (ad g 6) 0 = v1271 := by rw [FCx_at hy g1345 6 (by decide) (by decide)]; exact e1273
      have fI1349 : FC g [6, 7, 8, 9, 10, 11, 12, 13, 14, 15, 16, 17, 18, 19, 21] I I1343 := FC_tr fI1274 (FC_mono g1345 (by decide))
      have fJ1350 : FC g [] J J1344 := FC_tr fJ0 (FC_mono g1346 (by decide))
      try simp only [e1348, ew1269] at p1342
      refine WP_goto 193 dX7_tell_112 rfl ?_
      exact WP_vret dX7_tell_193 rfl ⟨rfl, fI1349, fJ1350, rfl, by
        try simp only [e1348, ew1269]
        exact p1342⟩
    · show WP _ _ 115 _ _ _ _ _ _
      obtain rfl : c = 5 := by omega
      refine WP_aload_n dX7_tell_115 rfl ?_
      refine WP_aload_n dX7_tell_116 rfl ?_
      refine WP_getr dX7_tell_117 fX7_48 rfl (lyx_is hy 6 7 rfl) (rfx hr 6 17 19 (by decide)) ?_
      refine WP_iload_n dX7_tell_120 rfl ?_
      refine WP_aload_n dX7_tell_121 rfl ?_
      refine WP_callV3 (k := 7) dX7_tell_122 ⟨⟨⟨by decide, by decide⟩, zX7_tellOn⟩, lX7_102, by decide, rfl, vX7_tellOn.1, vX7_tellOn.2⟩ (lyx_is hy 6 7 rfl) (ex_tellOn5a hy hr _  (S := (pp S.1 0 0 (S.1 0 0 + 1), S.2)) (P := P) hR1 (by omega) hP1 (by omega) (by omega)) (Nat.le_of_ble_eq_true rfl) ?_
      intro r I1352 J1353 Ra hq
      obtain ⟨ec, g1354, g1355, er, p1351⟩ := hq
      rw [ec, er]
      clear ec er Ra r
      have e1357 : I1352 (ad g 6) 0 = v1271 := by rw [FCx_at hy g1354 6 (by decide) (by decide)]; exact e1273
      have fI1358 : FC g [6, 7, 8, 9, 10, 11, 12, 13, 14, 15, 16, 17, 18, 19, 21] I I1352 := FC_tr fI1274 (FC_mono g1354 (by decide))
      have fJ1359 : FC g [] J J1353 := FC_tr fJ0 (FC_mono g1355 (by decide))
      try simp only [e1357, ew1269] at p1351
      refine WP_goto 193 dX7_tell_125 rfl ?_
      exact WP_vret dX7_tell_193 rfl ⟨rfl, fI1358, fJ1359, rfl, by
        try simp only [e1357, ew1269]
        exact p1351⟩
    · show WP _ _ 128 _ _ _ _ _ _
      obtain rfl : c = 6 := by omega
      refine WP_aload_n dX7_tell_128 rfl ?_
      refine WP_aload_n dX7_tell_129 rfl ?_
      refine WP_callV1 (k := 7) dX7_tell_130 ⟨⟨⟨by decide, by decide⟩, zX7_tellWant⟩, lX7_106, by decide, rfl, vX7_tellWant.1, vX7_tellWant.2⟩ (lyx_is hy 6 7 rfl) (ex_tellWanta hy hr   (S := (pp S.1 0 0 (S.1 0 0 + 1), S.2)) (P := P) hR1 hP1 (by omega) (by omega)) (Nat.le_of_ble_eq_true rfl) ?_
      intro r I1361 J1362 Ra hq
      obtain ⟨ec, g1363, g1364, er, p1360⟩ := hq
      rw [ec, er]
      clear ec er Ra r
      have e1366 : I1361 (ad g 6) 0 = v1271 := by rw [FCx_at hy g1363 6 (by decide) (by decide)]; exact e1273
      have fI1367 : FC g [6, 7, 8, 9, 10, 11, 12, 13, 14, 15, 16, 17, 18, 19, 21] I I1361 := FC_tr fI1274 (FC_mono g1363 (by decide))
      have fJ1368 : FC g [] J J1362 := FC_tr fJ0 (FC_mono g1364 (by decide))
      try simp only [e1366, ew1269] at p1360
      refine WP_goto 193 dX7_tell_133 rfl ?_
      exact WP_vret dX7_tell_193 rfl ⟨rfl, fI1367, fJ1368, rfl, by
        try simp only [e1366, ew1269]
        exact p1360⟩
    · show WP _ _ 136 _ _ _ _ _ _
      obtain rfl : c = 7 := by omega
      obtain ⟨w1369, ew1369⟩ : ∃ w : Int32, I1272 (ad g 4) 0 = w := ⟨_, rfl⟩
      have q0 : w1369.toInt = P 0 := by rw [← ew1369]; exact hP1 0 (by decide) (by decide)
      obtain ⟨w1370, ew1370⟩ : ∃ w : Int32, I1272 (ad g 4) 1 = w := ⟨_, rfl⟩
      have q1 : w1370.toInt = P 1 := by rw [← ew1370]; exact hP1 1 (by decide) (by decide)
      refine WP_aload_n dX7_tell_136 rfl ?_
      refine WP_getr dX7_tell_137 fX7_24 rfl (lyx_is hy 6 7 rfl) (rfx hr 6 9 11 (by decide)) ?_
      refine WP_aload_n dX7_tell_140 rfl ?_
      refine WQ_iconst (0) (0) dX7_tell_141 rfl rfl (fun v1371 hv1371 => ?_)
      refine WE_iak (z := 0) dX7_tell_142 (lyx_is hy 4 13 rfl) (lyx_n hy 4 5 rfl) hv1371 (by decide) ew1369 ?_
      refine WP_aload_n dX7_tell_143 rfl ?_
      refine WQ_iconst (1) (1) dX7_tell_144 rfl rfl (fun v1373 hv1373 => ?_)
      refine WE_iak (z := 1) dX7_tell_145 (lyx_is hy 4 13 rfl) (lyx_n hy 4 5 rfl) hv1373 (by decide) ew1370 ?_
      refine WE_is dX7_tell_146 (lyx_is hy 11 13 rfl) (lyx_n hy 11 4 rfl) (by omega) (by omega) (fun I1375 eI1375 => ?_)
      have e1376 : I1375 (ad g 6) 0 = v1271 := by rw [eI1375, pp_ne _ _ (Or.inl (lyx_ne hy (by decide) (by decide) (by decide)))]; exact e1273
      have e1377 : I1375 (ad g 4) 0 = w1369 := by rw [eI1375, pp_ne _ _ (Or.inl (lyx_ne hy (by decide) (by decide) (by decide)))]; exact ew1369
      have e1378 : I1375 (ad g 4) 1 = w1370 := by rw [eI1375, pp_ne _ _ (Or.inl (lyx_ne hy (by decide) (by decide) (by decide)))]; exact ew1370
      have fI1379 : FC g [6, 7, 8, 9, 10, 11, 12, 13, 14, 15, 16, 17, 18, 19, 21] I I1375 := by rw [eI1375]; exact FC_pp fI1274 (by decide)
      have hR2 : RTX g 6 (pp (pp S.1 0 0 (S.1 0 0 + 1)) 5 (P 0).toNat (P 1), S.2) I1375 J := by
        rw [eI1375, show w1369.toInt.toNat = (P 0).toNat by omega]
        exact RTX_w hy (by decide) hR1 5 _ _ _ (by decide) q1
      refine WP_aload_n dX7_tell_147 rfl ?_
      refine WQ_bipush (7) (7) dX7_tell_148 rfl rfl (fun v1380 hv1380 => ?_)
      refine WP_aload_n dX7_tell_150 rfl ?_
      refine WQ_iconst (0) (0) dX7_tell_151 rfl rfl (fun v1381 hv1381 => ?_)
      refine WE_iak (z := 0) dX7_tell_152 (lyx_is hy 4 13 rfl) (lyx_n hy 4 5 rfl) hv1381 (by decide) e1377 ?_
      refine WQ_iconst (0) (0) dX7_tell_153 rfl rfl (fun v1383 hv1383 => ?_)
      refine WP_callV3 (k := 7) dX7_tell_154 ⟨⟨⟨by decide, by decide⟩, zX7_hold⟩, lX7_109, by decide, rfl, vX7_hold.1, vX7_hold.2⟩ (lyx_is hy 6 7 rfl) (ex_holda hy hr _ _ _  (S := (pp (pp S.1 0 0 (S.1 0 0 + 1)) 5 (P 0).toNat (P 1), S.2)) (ro := 28 + (P 0).toNat) (d := 0) hR2 (by omega) (by omega) (by omega) (by omega) (by omega) (by decide)) (Nat.le_of_ble_eq_true rfl) ?_
      intro r I1385 J1386 Ra hq
      obtain ⟨ec, g1387, g1388, er, p1384⟩ := hq
      rw [ec, er]
      clear ec er Ra r
      have e1390 : I1385 (ad g 6) 0 = v1271 := by rw [FCx_at hy g1387 6 (by decide) (by decide)]; exact e1376
      have e1391 : I1385 (ad g 4) 0 = w1369 := by rw [FCx_at hy g1387 4 (by decide) (by decide)]; exact e1377
      have e1392 : I1385 (ad g 4) 1 = w1370 := by rw [FCx_at hy g1387 4 (by decide) (by decide)]; exact e1378
      have fI1393 : FC g [6, 7, 8, 9, 10, 11, 12, 13, 14, 15, 16, 17, 18, 19, 21] I I1385 := FC_tr fI1379 (FC_mono g1387 (by decide))
      have fJ1394 : FC g [] J J1386 := FC_tr fJ0 (FC_mono g1388 (by decide))
      try simp only [e1390, ew1269] at p1384
      refine WP_goto 193 dX7_tell_157 rfl ?_
      exact WP_vret dX7_tell_193 rfl ⟨rfl, fI1393, fJ1394, rfl, by
        try simp only [e1390, e1391, e1392, ew1269]
        exact p1384⟩
    · show WP _ _ 160 _ _ _ _ _ _
      obtain rfl : c = 8 := by omega
      obtain ⟨w1395, ew1395⟩ : ∃ w : Int32, I1272 (ad g 4) 0 = w := ⟨_, rfl⟩
      have q0 : w1395.toInt = P 0 := by rw [← ew1395]; exact hP1 0 (by decide) (by decide)
      refine WP_aload_n dX7_tell_160 rfl ?_
      refine WP_aload_n dX7_tell_161 rfl ?_
      refine WQ_iconst (0) (0) dX7_tell_162 rfl rfl (fun v1396 hv1396 => ?_)
      refine WE_iak (z := 0) dX7_tell_163 (lyx_is hy 4 13 rfl) (lyx_n hy 4 5 rfl) hv1396 (by decide) ew1395 ?_
      refine WQ_puti dX7_tell_164 fX7_71 rfl rfl (lyx_is hy 6 7 rfl) (fun I1398 eI1398 => ?_)
      have e1399 : I1398 (ad g 6) 0 = v1271 := by rw [eI1398, pp_ne _ _ (Or.inr (by decide))]; exact e1273
      have e1400 : I1398 (ad g 4) 0 = w1395 := by rw [eI1398, pp_ne _ _ (Or.inl (lyx_ne hy (by decide) (by decide) (by decide)))]; exact ew1395
      have e1401 : I1398 (ad g 6) 3 = w1395 := by rw [eI1398, pp_self]
      have fI1402 : FC g [6, 7, 8, 9, 10, 11, 12, 13, 14, 15, 16, 17, 18, 19, 21] I I1398 := by rw [eI1398]; exact FC_pp fI1274 (by decide)
      have hR2 : RTX g 6 (pp (pp S.1 0 0 (S.1 0 0 + 1)) 0 3 (P 0), S.2) I1398 J := by
        rw [eI1398]
        exact RTX_w hy (by decide) hR1 0 3 _ _ (by decide) q0
      refine WP_aload_n dX7_tell_167 rfl ?_
      refine WQ_bipush (8) (8) dX7_tell_168 rfl rfl (fun v1403 hv1403 => ?_)
      refine WQ_iconst (0) (0) dX7_tell_170 rfl rfl (fun v1404 hv1404 => ?_)
      refine WQ_iconst (0) (0) dX7_tell_171 rfl rfl (fun v1405 hv1405 => ?_)
      refine WP_callV3 (k := 7) dX7_tell_172 ⟨⟨⟨by decide, by decide⟩, zX7_hold⟩, lX7_109, by decide, rfl, vX7_hold.1, vX7_hold.2⟩ (lyx_is hy 6 7 rfl) (ex_holda hy hr _ _ _  (S := (pp (pp S.1 0 0 (S.1 0 0 + 1)) 0 3 (P 0), S.2)) (ro := 32) (d := 0) hR2 (by omega) (by omega) (by omega) (by omega) (by omega) (by decide)) (Nat.le_of_ble_eq_true rfl) ?_
      intro r I1407 J1408 Ra hq
      obtain ⟨ec, g1409, g1410, er, p1406⟩ := hq
      rw [ec, er]
      clear ec er Ra r
      have e1412 : I1407 (ad g 6) 0 = v1271 := by rw [FCx_at hy g1409 6 (by decide) (by decide)]; exact e1399
      have e1413 : I1407 (ad g 4) 0 = w1395 := by rw [FCx_at hy g1409 4 (by decide) (by decide)]; exact e1400
      have e1414 : I1407 (ad g 6) 3 = w1395 := by rw [FCx_at hy g1409 6 (by decide) (by decide)]; exact e1401
      have fI1415 : FC g [6, 7, 8, 9, 10, 11, 12, 13, 14, 15, 16, 17, 18, 19, 21] I I1407 := FC_tr fI1402 (FC_mono g1409 (by decide))
      have fJ1416 : FC g [] J J1408 := FC_tr fJ0 (FC_mono g1410 (by decide))
      try simp only [e1412, ew1269] at p1406
      refine WP_goto 193 dX7_tell_175 rfl ?_
      exact WP_vret dX7_tell_193 rfl ⟨rfl, fI1415, fJ1416, rfl, by
        try simp only [e1412, e1413, e1414, ew1269]
        exact p1406⟩
set_option maxHeartbeats 4000000 in
set_option maxRecDepth 100000 in
theorem ex_forgetb {g : GG} {I : pI} {J : pJ} {R : pR} (hy : LyX g) (hr : RfX g R)    : SP g mX7_forget [.ref (ad g 27)] I J R (fun r I' J' R' => R' = R ∧ FC g [27, 28, 32, 33, 34, 35, 36, 39, 40, 42] I I' ∧ FC g [] J J' ∧ r = none ∧ (∃ j, RTX g 27 (S0 j) I' J')) := by
  refine SP_of ⟨by decide, rfl⟩ (Nat.le_of_ble_eq_true rfl) ?_
  have fI0 : FC g [27, 28, 32, 33, 34, 35, 36, 39, 40, 42] I I := FC_rf
  have fJ0 : FC g [] J J := FC_rf
  refine WP_aload_n dX7_forget_0 rfl ?_
  refine WQ_iconst (0) (0) dX7_forget_1 rfl rfl (fun v1417 hv1417 => ?_)
  refine WQ_puti dX7_forget_2 fX7_61 rfl rfl (lyx_is hy 27 7 rfl) (fun I1418 eI1418 => ?_)
  have e1419 : I1418 (ad g 27) 0 = v1417 := by rw [eI1418, pp_self]
  have fI1420 : FC g [27, 28, 32, 33, 34, 35, 36, 39, 40, 42] I I1418 := by rw [eI1418]; exact FC_pp fI0 (by decide)
  refine WP_aload_n dX7_forget_5 rfl ?_
  refine WQ_iconst (0) (0) dX7_forget_6 rfl rfl (fun v1421 hv1421 => ?_)
  refine WQ_puti dX7_forget_7 fX7_65 rfl rfl (lyx_is hy 27 7 rfl) (fun I1422 eI1422 => ?_)
  have e1423 : I1422 (ad g 27) 0 = v1417 := by rw [eI1422, pp_ne _ _ (Or.inr (by decide))]; exact e1419
  have e1424 : I1422 (ad g 27) 1 = v1421 := by rw [eI1422, pp_self]
  have fI1425 : FC g [27, 28, 32, 33, 34, 35, 36, 39, 40, 42] I I1422 := by rw [eI1422]; exact FC_pp fI1420 (by decide)
  refine WP_aload_n dX7_forget_10 rfl ?_
  refine WQ_iconst (0) (0) dX7_forget_11 rfl rfl (fun v1426 hv1426 => ?_)
  refine WQ_puti dX7_forget_12 fX7_68 rfl rfl (lyx_is hy 27 7 rfl) (fun I1427 eI1427 => ?_)
  have e1428 : I1427 (ad g 27) 0 = v1417 := by rw [eI1427, pp_ne _ _ (Or.inr (by decide))]; exact e1423
  have e1429 : I1427 (ad g 27) 1 = v1421 := by rw [eI1427, pp_ne _ _ (Or.inr (by decide))]; exact e1424
  have e1430 : I1427 (ad g 27) 2 = v1426 := by rw [eI1427, pp_self]
  have fI1431 : FC g [27, 28, 32, 33, 34, 35, 36, 39, 40, 42] I I1427 := by rw [eI1427]; exact FC_pp fI1425 (by decide)
  refine WP_aload_n dX7_forget_15 rfl ?_
  refine WQ_iconst (-1) (-1) dX7_forget_16 rfl rfl (fun v1432 hv1432 => ?_)
  refine WQ_puti dX7_forget_17 fX7_71 rfl rfl (lyx_is hy 27 7 rfl) (fun I1433 eI1433 => ?_)
  have e1434 : I1433 (ad g 27) 0 = v1417 := by rw [eI1433, pp_ne _ _ (Or.inr (by decide))]; exact e1428
  have e1435 : I1433 (ad g 27) 1 = v1421 := by rw [eI1433, pp_ne _ _ (Or.inr (by decide))]; exact e1429
  have e1436 : I1433 (ad g 27) 2 = v1426 := by rw [eI1433, pp_ne _ _ (Or.inr (by decide))]; exact e1430
  have e1437 : I1433 (ad g 27) 3 = v1432 := by rw [eI1433, pp_self]
  have fI1438 : FC g [27, 28, 32, 33, 34, 35, 36, 39, 40, 42] I I1433 := by rw [eI1433]; exact FC_pp fI1431 (by decide)
  refine WP_aload_n dX7_forget_20 rfl ?_
  refine WQ_iconst (-1) (-1) dX7_forget_21 rfl rfl (fun v1439 hv1439 => ?_)
  refine WQ_puti dX7_forget_22 fX7_74 rfl rfl (lyx_is hy 27 7 rfl) (fun I1440 eI1440 => ?_)
  have e1441 : I1440 (ad g 27) 0 = v1417 := by rw [eI1440, pp_ne _ _ (Or.inr (by decide))]; exact e1434
  have e1442 : I1440 (ad g 27) 1 = v1421 := by rw [eI1440, pp_ne _ _ (Or.inr (by decide))]; exact e1435
  have e1443 : I1440 (ad g 27) 2 = v1426 := by rw [eI1440, pp_ne _ _ (Or.inr (by decide))]; exact e1436
  have e1444 : I1440 (ad g 27) 3 = v1432 := by rw [eI1440, pp_ne _ _ (Or.inr (by decide))]; exact e1437
  have e1445 : I1440 (ad g 27) 4 = v1439 := by rw [eI1440, pp_self]
  have fI1446 : FC g [27, 28, 32, 33, 34, 35, 36, 39, 40, 42] I I1440 := by rw [eI1440]; exact FC_pp fI1438 (by decide)
  refine WP_aload_n dX7_forget_25 rfl ?_
  refine WP_getr dX7_forget_26 fX7_9 rfl (lyx_is hy 27 7 rfl) (rfx hr 27 5 28 (by decide)) ?_
  refine WQ_iconst (0) (0) dX7_forget_29 rfl rfl (fun v1447 hv1447 => ?_)
  refine WP_callS2u dX7_forget_30 ⟨⟨⟨by decide, by decide⟩, zJ7_fill_53178⟩, lX7_77, tJ7_fill_53178⟩ (s_fill hy hr 28 7 rfl rfl (by decide) v1447) (Nat.le_of_ble_eq_true rfl) ?_
  obtain ⟨I1448, eI1448⟩ : ∃ I9 : pI, I9 = fi I1440 (ad g 28) 7 v1447 := ⟨_, rfl⟩
  rw [← eI1448]
  have e1449 : I1448 (ad g 27) 0 = v1417 := by rw [eI1448, fi_off (lyx_ne hy (by decide) (by decide) (by decide))]; exact e1441
  have e1450 : I1448 (ad g 27) 1 = v1421 := by rw [eI1448, fi_off (lyx_ne hy (by decide) (by decide) (by decide))]; exact e1442
  have e1451 : I1448 (ad g 27) 2 = v1426 := by rw [eI1448, fi_off (lyx_ne hy (by decide) (by decide) (by decide))]; exact e1443
  have e1452 : I1448 (ad g 27) 3 = v1432 := by rw [eI1448, fi_off (lyx_ne hy (by decide) (by decide) (by decide))]; exact e1444
  have e1453 : I1448 (ad g 27) 4 = v1439 := by rw [eI1448, fi_off (lyx_ne hy (by decide) (by decide) (by decide))]; exact e1445
  have fI1454 : FC g [27, 28, 32, 33, 34, 35, 36, 39, 40, 42] I I1448 := by rw [eI1448]; exact FC_fi fI1446 (by decide)
  refine WP_aload_n dX7_forget_33 rfl ?_
  refine WP_getr dX7_forget_34 fX7_24 rfl (lyx_is hy 27 7 rfl) (rfx hr 27 9 32 (by decide)) ?_
  refine WQ_iconst (0) (0) dX7_forget_37 rfl rfl (fun v1455 hv1455 => ?_)
  refine WP_callS2u dX7_forget_38 ⟨⟨⟨by decide, by decide⟩, zJ7_fill_53178⟩, lX7_77, tJ7_fill_53178⟩ (s_fill hy hr 32 4 rfl rfl (by decide) v1455) (Nat.le_of_ble_eq_true rfl) ?_
  obtain ⟨I1456, eI1456⟩ : ∃ I9 : pI, I9 = fi I1448 (ad g 32) 4 v1455 := ⟨_, rfl⟩
  rw [← eI1456]
  have e1457 : I1456 (ad g 27) 0 = v1417 := by rw [eI1456, fi_off (lyx_ne hy (by decide) (by decide) (by decide))]; exact e1449
  have e1458 : I1456 (ad g 27) 1 = v1421 := by rw [eI1456, fi_off (lyx_ne hy (by decide) (by decide) (by decide))]; exact e1450
  have e1459 : I1456 (ad g 27) 2 = v1426 := by rw [eI1456, fi_off (lyx_ne hy (by decide) (by decide) (by decide))]; exact e1451
  have e1460 : I1456 (ad g 27) 3 = v1432 := by rw [eI1456, fi_off (lyx_ne hy (by decide) (by decide) (by decide))]; exact e1452
  have e1461 : I1456 (ad g 27) 4 = v1439 := by rw [eI1456, fi_off (lyx_ne hy (by decide) (by decide) (by decide))]; exact e1453
  have fI1462 : FC g [27, 28, 32, 33, 34, 35, 36, 39, 40, 42] I I1456 := by rw [eI1456]; exact FC_fi fI1454 (by decide)
  refine WP_aload_n dX7_forget_41 rfl ?_
  refine WP_getr dX7_forget_42 fX7_27 rfl (lyx_is hy 27 7 rfl) (rfx hr 27 10 33 (by decide)) ?_
  refine WQ_iconst (0) (0) dX7_forget_45 rfl rfl (fun v1463 hv1463 => ?_)
  refine WP_callS2u dX7_forget_46 ⟨⟨⟨by decide, by decide⟩, zJ7_fill_53178⟩, lX7_77, tJ7_fill_53178⟩ (s_fill hy hr 33 28 rfl rfl (by decide) v1463) (Nat.le_of_ble_eq_true rfl) ?_
  obtain ⟨I1464, eI1464⟩ : ∃ I9 : pI, I9 = fi I1456 (ad g 33) 28 v1463 := ⟨_, rfl⟩
  rw [← eI1464]
  have e1465 : I1464 (ad g 27) 0 = v1417 := by rw [eI1464, fi_off (lyx_ne hy (by decide) (by decide) (by decide))]; exact e1457
  have e1466 : I1464 (ad g 27) 1 = v1421 := by rw [eI1464, fi_off (lyx_ne hy (by decide) (by decide) (by decide))]; exact e1458
  have e1467 : I1464 (ad g 27) 2 = v1426 := by rw [eI1464, fi_off (lyx_ne hy (by decide) (by decide) (by decide))]; exact e1459
  have e1468 : I1464 (ad g 27) 3 = v1432 := by rw [eI1464, fi_off (lyx_ne hy (by decide) (by decide) (by decide))]; exact e1460
  have e1469 : I1464 (ad g 27) 4 = v1439 := by rw [eI1464, fi_off (lyx_ne hy (by decide) (by decide) (by decide))]; exact e1461
  have fI1470 : FC g [27, 28, 32, 33, 34, 35, 36, 39, 40, 42] I I1464 := by rw [eI1464]; exact FC_fi fI1462 (by decide)
  refine WP_aload_n dX7_forget_49 rfl ?_
  refine WP_getr dX7_forget_50 fX7_30 rfl (lyx_is hy 27 7 rfl) (rfx hr 27 11 34 (by decide)) ?_
  refine WQ_iconst (-1) (-1) dX7_forget_53 rfl rfl (fun v1471 hv1471 => ?_)
  refine WP_callS2u dX7_forget_54 ⟨⟨⟨by decide, by decide⟩, zJ7_fill_53178⟩, lX7_77, tJ7_fill_53178⟩ (s_fill hy hr 34 28 rfl rfl (by decide) v1471) (Nat.le_of_ble_eq_true rfl) ?_
  obtain ⟨I1472, eI1472⟩ : ∃ I9 : pI, I9 = fi I1464 (ad g 34) 28 v1471 := ⟨_, rfl⟩
  rw [← eI1472]
  have e1473 : I1472 (ad g 27) 0 = v1417 := by rw [eI1472, fi_off (lyx_ne hy (by decide) (by decide) (by decide))]; exact e1465
  have e1474 : I1472 (ad g 27) 1 = v1421 := by rw [eI1472, fi_off (lyx_ne hy (by decide) (by decide) (by decide))]; exact e1466
  have e1475 : I1472 (ad g 27) 2 = v1426 := by rw [eI1472, fi_off (lyx_ne hy (by decide) (by decide) (by decide))]; exact e1467
  have e1476 : I1472 (ad g 27) 3 = v1432 := by rw [eI1472, fi_off (lyx_ne hy (by decide) (by decide) (by decide))]; exact e1468
  have e1477 : I1472 (ad g 27) 4 = v1439 := by rw [eI1472, fi_off (lyx_ne hy (by decide) (by decide) (by decide))]; exact e1469
  have fI1478 : FC g [27, 28, 32, 33, 34, 35, 36, 39, 40, 42] I I1472 := by rw [eI1472]; exact FC_fi fI1470 (by decide)
  refine WP_aload_n dX7_forget_57 rfl ?_
  refine WP_getr dX7_forget_58 fX7_33 rfl (lyx_is hy 27 7 rfl) (rfx hr 27 12 35 (by decide)) ?_
  refine WQ_iconst (0) (0) dX7_forget_61 rfl rfl (fun v1479 hv1479 => ?_)
  refine WP_callS2u dX7_forget_62 ⟨⟨⟨by decide, by decide⟩, zJ7_fill_53178⟩, lX7_77, tJ7_fill_53178⟩ (s_fill hy hr 35 28 rfl rfl (by decide) v1479) (Nat.le_of_ble_eq_true rfl) ?_
  obtain ⟨I1480, eI1480⟩ : ∃ I9 : pI, I9 = fi I1472 (ad g 35) 28 v1479 := ⟨_, rfl⟩
  rw [← eI1480]
  have e1481 : I1480 (ad g 27) 0 = v1417 := by rw [eI1480, fi_off (lyx_ne hy (by decide) (by decide) (by decide))]; exact e1473
  have e1482 : I1480 (ad g 27) 1 = v1421 := by rw [eI1480, fi_off (lyx_ne hy (by decide) (by decide) (by decide))]; exact e1474
  have e1483 : I1480 (ad g 27) 2 = v1426 := by rw [eI1480, fi_off (lyx_ne hy (by decide) (by decide) (by decide))]; exact e1475
  have e1484 : I1480 (ad g 27) 3 = v1432 := by rw [eI1480, fi_off (lyx_ne hy (by decide) (by decide) (by decide))]; exact e1476
  have e1485 : I1480 (ad g 27) 4 = v1439 := by rw [eI1480, fi_off (lyx_ne hy (by decide) (by decide) (by decide))]; exact e1477
  have fI1486 : FC g [27, 28, 32, 33, 34, 35, 36, 39, 40, 42] I I1480 := by rw [eI1480]; exact FC_fi fI1478 (by decide)
  refine WP_aload_n dX7_forget_65 rfl ?_
  refine WP_getr dX7_forget_66 fX7_36 rfl (lyx_is hy 27 7 rfl) (rfx hr 27 13 36 (by decide)) ?_
  refine WQ_iconst (0) (0) dX7_forget_69 rfl rfl (fun v1487 hv1487 => ?_)
  refine WP_callS2u dX7_forget_70 ⟨⟨⟨by decide, by decide⟩, zJ7_fill_53178⟩, lX7_77, tJ7_fill_53178⟩ (s_fill hy hr 36 28 rfl rfl (by decide) v1487) (Nat.le_of_ble_eq_true rfl) ?_
  obtain ⟨I1488, eI1488⟩ : ∃ I9 : pI, I9 = fi I1480 (ad g 36) 28 v1487 := ⟨_, rfl⟩
  rw [← eI1488]
  have e1489 : I1488 (ad g 27) 0 = v1417 := by rw [eI1488, fi_off (lyx_ne hy (by decide) (by decide) (by decide))]; exact e1481
  have e1490 : I1488 (ad g 27) 1 = v1421 := by rw [eI1488, fi_off (lyx_ne hy (by decide) (by decide) (by decide))]; exact e1482
  have e1491 : I1488 (ad g 27) 2 = v1426 := by rw [eI1488, fi_off (lyx_ne hy (by decide) (by decide) (by decide))]; exact e1483
  have e1492 : I1488 (ad g 27) 3 = v1432 := by rw [eI1488, fi_off (lyx_ne hy (by decide) (by decide) (by decide))]; exact e1484
  have e1493 : I1488 (ad g 27) 4 = v1439 := by rw [eI1488, fi_off (lyx_ne hy (by decide) (by decide) (by decide))]; exact e1485
  have fI1494 : FC g [27, 28, 32, 33, 34, 35, 36, 39, 40, 42] I I1488 := by rw [eI1488]; exact FC_fi fI1486 (by decide)
  refine WP_aload_n dX7_forget_73 rfl ?_
  refine WP_getr dX7_forget_74 fX7_45 rfl (lyx_is hy 27 7 rfl) (rfx hr 27 16 39 (by decide)) ?_
  refine WQ_iconst (5) (5) dX7_forget_77 rfl rfl (fun v1495 hv1495 => ?_)
  refine WP_callS2u dX7_forget_78 ⟨⟨⟨by decide, by decide⟩, zJ7_fill_53178⟩, lX7_77, tJ7_fill_53178⟩ (s_fill hy hr 39 21 rfl rfl (by decide) v1495) (Nat.le_of_ble_eq_true rfl) ?_
  obtain ⟨I1496, eI1496⟩ : ∃ I9 : pI, I9 = fi I1488 (ad g 39) 21 v1495 := ⟨_, rfl⟩
  rw [← eI1496]
  have e1497 : I1496 (ad g 27) 0 = v1417 := by rw [eI1496, fi_off (lyx_ne hy (by decide) (by decide) (by decide))]; exact e1489
  have e1498 : I1496 (ad g 27) 1 = v1421 := by rw [eI1496, fi_off (lyx_ne hy (by decide) (by decide) (by decide))]; exact e1490
  have e1499 : I1496 (ad g 27) 2 = v1426 := by rw [eI1496, fi_off (lyx_ne hy (by decide) (by decide) (by decide))]; exact e1491
  have e1500 : I1496 (ad g 27) 3 = v1432 := by rw [eI1496, fi_off (lyx_ne hy (by decide) (by decide) (by decide))]; exact e1492
  have e1501 : I1496 (ad g 27) 4 = v1439 := by rw [eI1496, fi_off (lyx_ne hy (by decide) (by decide) (by decide))]; exact e1493
  have fI1502 : FC g [27, 28, 32, 33, 34, 35, 36, 39, 40, 42] I I1496 := by rw [eI1496]; exact FC_fi fI1494 (by decide)
  refine WP_aload_n dX7_forget_81 rfl ?_
  refine WP_getr dX7_forget_82 fX7_48 rfl (lyx_is hy 27 7 rfl) (rfx hr 27 17 40 (by decide)) ?_
  refine WQ_iconst (-1) (-1) dX7_forget_85 rfl rfl (fun v1503 hv1503 => ?_)
  refine WP_callS2u dX7_forget_86 ⟨⟨⟨by decide, by decide⟩, zJ7_fill_53178⟩, lX7_77, tJ7_fill_53178⟩ (s_fill hy hr 40 21 rfl rfl (by decide) v1503) (Nat.le_of_ble_eq_true rfl) ?_
  obtain ⟨I1504, eI1504⟩ : ∃ I9 : pI, I9 = fi I1496 (ad g 40) 21 v1503 := ⟨_, rfl⟩
  rw [← eI1504]
  have e1505 : I1504 (ad g 27) 0 = v1417 := by rw [eI1504, fi_off (lyx_ne hy (by decide) (by decide) (by decide))]; exact e1497
  have e1506 : I1504 (ad g 27) 1 = v1421 := by rw [eI1504, fi_off (lyx_ne hy (by decide) (by decide) (by decide))]; exact e1498
  have e1507 : I1504 (ad g 27) 2 = v1426 := by rw [eI1504, fi_off (lyx_ne hy (by decide) (by decide) (by decide))]; exact e1499
  have e1508 : I1504 (ad g 27) 3 = v1432 := by rw [eI1504, fi_off (lyx_ne hy (by decide) (by decide) (by decide))]; exact e1500
  have e1509 : I1504 (ad g 27) 4 = v1439 := by rw [eI1504, fi_off (lyx_ne hy (by decide) (by decide) (by decide))]; exact e1501
  have fI1510 : FC g [27, 28, 32, 33, 34, 35, 36, 39, 40, 42] I I1504 := by rw [eI1504]; exact FC_fi fI1502 (by decide)
  refine WP_aload_n dX7_forget_89 rfl ?_
  refine WP_getr dX7_forget_90 fX7_55 rfl (lyx_is hy 27 7 rfl) (rfx hr 27 19 42 (by decide)) ?_
  refine WQ_iconst (0) (0) dX7_forget_93 rfl rfl (fun v1511 hv1511 => ?_)
  refine WP_callS2u dX7_forget_94 ⟨⟨⟨by decide, by decide⟩, zJ7_fill_53178⟩, lX7_77, tJ7_fill_53178⟩ (s_fill hy hr 42 48 rfl rfl (by decide) v1511) (Nat.le_of_ble_eq_true rfl) ?_
  obtain ⟨I1512, eI1512⟩ : ∃ I9 : pI, I9 = fi I1504 (ad g 42) 48 v1511 := ⟨_, rfl⟩
  rw [← eI1512]
  have e1513 : I1512 (ad g 27) 0 = v1417 := by rw [eI1512, fi_off (lyx_ne hy (by decide) (by decide) (by decide))]; exact e1505
  have e1514 : I1512 (ad g 27) 1 = v1421 := by rw [eI1512, fi_off (lyx_ne hy (by decide) (by decide) (by decide))]; exact e1506
  have e1515 : I1512 (ad g 27) 2 = v1426 := by rw [eI1512, fi_off (lyx_ne hy (by decide) (by decide) (by decide))]; exact e1507
  have e1516 : I1512 (ad g 27) 3 = v1432 := by rw [eI1512, fi_off (lyx_ne hy (by decide) (by decide) (by decide))]; exact e1508
  have e1517 : I1512 (ad g 27) 4 = v1439 := by rw [eI1512, fi_off (lyx_ne hy (by decide) (by decide) (by decide))]; exact e1509
  have fI1518 : FC g [27, 28, 32, 33, 34, 35, 36, 39, 40, 42] I I1512 := by rw [eI1512]; exact FC_fi fI1510 (by decide)
  exact WP_vret dX7_forget_97 rfl ⟨rfl, fI1518, fJ0, rfl, by
    try simp only [e1513, e1514, e1515, e1516, e1517]
    refine ⟨fun c q => if c = 14 then (J (ad g 41) q).toInt else (I1512 (ad g (27 + c)) q).toInt, ?_⟩
    have F1 : ∀ q, q < 7 → I1512 (ad g 28) q = v1447 := fun q hq => by
      rw [eI1512, fi_off (lyx_ne hy (by decide) (by decide) (by decide)), eI1504, fi_off (lyx_ne hy (by decide) (by decide) (by decide)), eI1496, fi_off (lyx_ne hy (by decide) (by decide) (by decide)), eI1488, fi_off (lyx_ne hy (by decide) (by decide) (by decide)), eI1480, fi_off (lyx_ne hy (by decide) (by decide) (by decide)), eI1472, fi_off (lyx_ne hy (by decide) (by decide) (by decide)), eI1464, fi_off (lyx_ne hy (by decide) (by decide) (by decide)), eI1456, fi_off (lyx_ne hy (by decide) (by decide) (by decide)), eI1448, fi_in hq]
    have G1 : v1447.toInt = 0 := by omega
    have F5 : ∀ q, q < 4 → I1512 (ad g 32) q = v1455 := fun q hq => by
      rw [eI1512, fi_off (lyx_ne hy (by decide) (by decide) (by decide)), eI1504, fi_off (lyx_ne hy (by decide) (by decide) (by decide)), eI1496, fi_off (lyx_ne hy (by decide) (by decide) (by decide)), eI1488, fi_off (lyx_ne hy (by decide) (by decide) (by decide)), eI1480, fi_off (lyx_ne hy (by decide) (by decide) (by decide)), eI1472, fi_off (lyx_ne hy (by decide) (by decide) (by decide)), eI1464, fi_off (lyx_ne hy (by decide) (by decide) (by decide)), eI1456, fi_in hq]
    have G5 : v1455.toInt = 0 := by omega
    have F6 : ∀ q, q < 28 → I1512 (ad g 33) q = v1463 := fun q hq => by
      rw [eI1512, fi_off (lyx_ne hy (by decide) (by decide) (by decide)), eI1504, fi_off (lyx_ne hy (by decide) (by decide) (by decide)), eI1496, fi_off (lyx_ne hy (by decide) (by decide) (by decide)), eI1488, fi_off (lyx_ne hy (by decide) (by decide) (by decide)), eI1480, fi_off (lyx_ne hy (by decide) (by decide) (by decide)), eI1472, fi_off (lyx_ne hy (by decide) (by decide) (by decide)), eI1464, fi_in hq]
    have G6 : v1463.toInt = 0 := by omega
    have F7 : ∀ q, q < 28 → I1512 (ad g 34) q = v1471 := fun q hq => by
      rw [eI1512, fi_off (lyx_ne hy (by decide) (by decide) (by decide)), eI1504, fi_off (lyx_ne hy (by decide) (by decide) (by decide)), eI1496, fi_off (lyx_ne hy (by decide) (by decide) (by decide)), eI1488, fi_off (lyx_ne hy (by decide) (by decide) (by decide)), eI1480, fi_off (lyx_ne hy (by decide) (by decide) (by decide)), eI1472, fi_in hq]
    have G7 : v1471.toInt = -1 := by omega
    have F8 : ∀ q, q < 28 → I1512 (ad g 35) q = v1479 := fun q hq => by
      rw [eI1512, fi_off (lyx_ne hy (by decide) (by decide) (by decide)), eI1504, fi_off (lyx_ne hy (by decide) (by decide) (by decide)), eI1496, fi_off (lyx_ne hy (by decide) (by decide) (by decide)), eI1488, fi_off (lyx_ne hy (by decide) (by decide) (by decide)), eI1480, fi_in hq]
    have G8 : v1479.toInt = 0 := by omega
    have F9 : ∀ q, q < 28 → I1512 (ad g 36) q = v1487 := fun q hq => by
      rw [eI1512, fi_off (lyx_ne hy (by decide) (by decide) (by decide)), eI1504, fi_off (lyx_ne hy (by decide) (by decide) (by decide)), eI1496, fi_off (lyx_ne hy (by decide) (by decide) (by decide)), eI1488, fi_in hq]
    have G9 : v1487.toInt = 0 := by omega
    have F12 : ∀ q, q < 21 → I1512 (ad g 39) q = v1495 := fun q hq => by
      rw [eI1512, fi_off (lyx_ne hy (by decide) (by decide) (by decide)), eI1504, fi_off (lyx_ne hy (by decide) (by decide) (by decide)), eI1496, fi_in hq]
    have G12 : v1495.toInt = 5 := by omega
    have F13 : ∀ q, q < 21 → I1512 (ad g 40) q = v1503 := fun q hq => by
      rw [eI1512, fi_off (lyx_ne hy (by decide) (by decide) (by decide)), eI1504, fi_in hq]
    have G13 : v1503.toInt = -1 := by omega
    have F15 : ∀ q, q < 48 → I1512 (ad g 42) q = v1511 := fun q hq => by
      rw [eI1512, fi_in hq]
    have G15 : v1511.toInt = 0 := by omega
    refine ⟨fun c q hc hq => ?_, fun q hq => rfl, fun ro hro d hd => ?_⟩
    · rcases (show c = 0 ∨ c = 1 ∨ c = 2 ∨ c = 3 ∨ c = 4 ∨ c = 5 ∨ c = 6 ∨ c = 7 ∨ c = 8 ∨ c = 9 ∨ c = 10 ∨ c = 11 ∨ c = 12 ∨ c = 13 by omega) with rfl | rfl | rfl | rfl | rfl | rfl | rfl | rfl | rfl | rfl | rfl | rfl | rfl | rfl
      · have hq5 : q < 5 := hq
        rcases (show q = 0 ∨ q = 1 ∨ q = 2 ∨ q = 3 ∨ q = 4 by omega) with rfl | rfl | rfl | rfl | rfl
        · show (I1512 (ad g 27) 0).toInt = 0
          rw [e1513]; omega
        · show (I1512 (ad g 27) 1).toInt = 0
          rw [e1514]; omega
        · show (I1512 (ad g 27) 2).toInt = 0
          rw [e1515]; omega
        · show (I1512 (ad g 27) 3).toInt = -1
          rw [e1516]; omega
        · show (I1512 (ad g 27) 4).toInt = -1
          rw [e1517]; omega
      · show (I1512 (ad g 28) q).toInt = 0
        rw [F1 q hq]; exact G1
      · rfl
      · rfl
      · rfl
      · show (I1512 (ad g 32) q).toInt = 0
        rw [F5 q hq]; exact G5
      · show (I1512 (ad g 33) q).toInt = 0
        rw [F6 q hq]; exact G6
      · show (I1512 (ad g 34) q).toInt = -1
        rw [F7 q hq]; exact G7
      · show (I1512 (ad g 35) q).toInt = 0
        rw [F8 q hq]; exact G8
      · show (I1512 (ad g 36) q).toInt = 0
        rw [F9 q hq]; exact G9
      · rfl
      · rfl
      · show (I1512 (ad g 39) q).toInt = 5
        rw [F12 q hq]; exact G12
      · show (I1512 (ad g 40) q).toInt = -1
        rw [F13 q hq]; exact G13
    · show tb (I1512 (ad g 42) ro) d = false
      rw [F15 ro hro]; exact tb0 _ _ G15⟩
set_option maxHeartbeats 4000000 in
set_option maxRecDepth 100000 in
theorem ex_tellb {g : GG} {I : pI} {J : pJ} {R : pR} (hy : LyX g) (hr : RfX g R) {S : TwS} {P : Nat → Int} {c : Nat} (cl : Int32) (hR : RTX g 27 S I J) (hc : cl.toInt = (c : Int)) (hc9 : c < 10) (h0 : 0 ≤ S.1 0 0 ∧ S.1 0 0 ≤ 1000) (hP : PRX g P (loP c) (SHP c).length I) (h1 : c = 0 → 0 ≤ P 0 ∧ P 0 < 7) (h2 : c = 3 ∨ c = 6 ∨ c = 7 → 0 ≤ P 0 ∧ P 0 < 4) (h3 : c = 4 ∨ c = 5 → 0 ≤ P 0 ∧ P 0 < 3) (h4 : c = 3 ∨ c = 4 ∨ c = 5 → 0 ≤ P 1 ∧ P 1 < 7) (h5 : c = 6 → 0 ≤ P 2 ∧ P 2 < 7) (h6 : c = 1 → 0 ≤ S.1 0 1 ∧ S.1 0 1 < 4) (h7 : c = 2 → 0 ≤ S.1 0 2 ∧ S.1 0 2 < 3) : SP g mX7_tell [.ref (ad g 27), .int cl, .ref (ad g 4)] I J R (fun r I' J' R' => R' = R ∧ FC g [27, 28, 29, 30, 31, 32, 33, 34, 35, 36, 37, 38, 39, 40, 42] I I' ∧ FC g [] J J' ∧ r = none ∧ (RTX g 27 (tel c P S) I' J')) := by
  refine SP_of ⟨by decide, rfl⟩ (Nat.le_of_ble_eq_true rfl) ?_
  have fI0 : FC g [27, 28, 29, 30, 31, 32, 33, 34, 35, 36, 37, 38, 39, 40, 42] I I := FC_rf
  have fJ0 : FC g [] J J := FC_rf
  have hs0 : (I (ad g 27) 0).toInt = S.1 0 0 := hR.1 0 0 (by decide) (by decide)
  obtain ⟨w1519, ew1519⟩ : ∃ w : Int32, I (ad g 27) 0 = w := ⟨_, rfl⟩
  try simp only [ew1519] at hs0
  refine WP_aload_n dX7_tell_0 rfl ?_
  refine WP_dup dX7_tell_1 rfl ?_
  refine WQ_getim dX7_tell_2 fX7_61 rfl (lyx_is hy 27 7 rfl) ew1519 ?_
  refine WQ_iconst (1) (1) dX7_tell_5 rfl rfl (fun v1520 hv1520 => ?_)
  refine WQ_iadd dX7_tell_6 (by omega) (by omega) (fun v1521 hv1521 => ?_)
  refine WQ_puti dX7_tell_7 fX7_61 rfl rfl (lyx_is hy 27 7 rfl) (fun I1522 eI1522 => ?_)
  have e1523 : I1522 (ad g 27) 0 = v1521 := by rw [eI1522, pp_self]
  have fI1524 : FC g [27, 28, 29, 30, 31, 32, 33, 34, 35, 36, 37, 38, 39, 40, 42] I I1522 := by rw [eI1522]; exact FC_pp fI0 (by decide)
  have e01 : (pp S.1 0 0 (S.1 0 0 + 1)) 0 1 = S.1 0 1 := pp_ne _ _ (Or.inr (by decide))
  have e02 : (pp S.1 0 0 (S.1 0 0 + 1)) 0 2 = S.1 0 2 := pp_ne _ _ (Or.inr (by decide))
  have hR1 : RTX g 27 (pp S.1 0 0 (S.1 0 0 + 1), S.2) I1522 J := by
    rw [eI1522]
    exact RTX_w hy (by decide) hR 0 0 _ _ (by decide) (by omega)
  have hP1 : PRX g P (loP c) (SHP c).length I1522 := by rw [eI1522]; exact PRX_pp hy hP (by decide) (by decide)
  refine WP_iload_n dX7_tell_10 rfl ?_
  refine WP_tab 178 dX7_tell_11 rfl rfl (fun c1524 => ?_) (fun j off c1524 hj => ?_) (by decide)
  · obtain rfl : c = 9 := by omega
    obtain ⟨w1526, ew1526⟩ : ∃ w : Int32, I1522 (ad g 4) 0 = w := ⟨_, rfl⟩
    have q0 : w1526.toInt = P 0 := by rw [← ew1526]; exact hP1 0 (by decide) (by decide)
    refine WP_aload_n dX7_tell_178 rfl ?_
    refine WP_aload_n dX7_tell_179 rfl ?_
    refine WQ_iconst (0) (0) dX7_tell_180 rfl rfl (fun v1527 hv1527 => ?_)
    refine WE_iak (z := 0) dX7_tell_181 (lyx_is hy 4 13 rfl) (lyx_n hy 4 5 rfl) hv1527 (by decide) ew1526 ?_
    refine WQ_puti dX7_tell_182 fX7_74 rfl rfl (lyx_is hy 27 7 rfl) (fun I1529 eI1529 => ?_)
    have e1530 : I1529 (ad g 27) 0 = v1521 := by rw [eI1529, pp_ne _ _ (Or.inr (by decide))]; exact e1523
    have e1531 : I1529 (ad g 4) 0 = w1526 := by rw [eI1529, pp_ne _ _ (Or.inl (lyx_ne hy (by decide) (by decide) (by decide)))]; exact ew1526
    have e1532 : I1529 (ad g 27) 4 = w1526 := by rw [eI1529, pp_self]
    have fI1533 : FC g [27, 28, 29, 30, 31, 32, 33, 34, 35, 36, 37, 38, 39, 40, 42] I I1529 := by rw [eI1529]; exact FC_pp fI1524 (by decide)
    have hR2 : RTX g 27 (pp (pp S.1 0 0 (S.1 0 0 + 1)) 0 4 (P 0), S.2) I1529 J := by
      rw [eI1529]
      exact RTX_w hy (by decide) hR1 0 4 _ _ (by decide) q0
    refine WP_aload_n dX7_tell_185 rfl ?_
    refine WQ_bipush (9) (9) dX7_tell_186 rfl rfl (fun v1534 hv1534 => ?_)
    refine WQ_iconst (0) (0) dX7_tell_188 rfl rfl (fun v1535 hv1535 => ?_)
    refine WQ_iconst (0) (0) dX7_tell_189 rfl rfl (fun v1536 hv1536 => ?_)
    refine WP_callV3 (k := 7) dX7_tell_190 ⟨⟨⟨by decide, by decide⟩, zX7_hold⟩, lX7_109, by decide, rfl, vX7_hold.1, vX7_hold.2⟩ (lyx_is hy 27 7 rfl) (ex_holdb hy hr _ _ _  (S := (pp (pp S.1 0 0 (S.1 0 0 + 1)) 0 4 (P 0), S.2)) (ro := 36) (d := 0) hR2 (by omega) (by omega) (by omega) (by omega) (by omega) (by decide)) (Nat.le_of_ble_eq_true rfl) ?_
    intro r I1538 J1539 Ra hq
    obtain ⟨ec, g1540, g1541, er, p1537⟩ := hq
    rw [ec, er]
    clear ec er Ra r
    have e1543 : I1538 (ad g 27) 0 = v1521 := by rw [FCx_at hy g1540 27 (by decide) (by decide)]; exact e1530
    have e1544 : I1538 (ad g 4) 0 = w1526 := by rw [FCx_at hy g1540 4 (by decide) (by decide)]; exact e1531
    have e1545 : I1538 (ad g 27) 4 = w1526 := by rw [FCx_at hy g1540 27 (by decide) (by decide)]; exact e1532
    have fI1546 : FC g [27, 28, 29, 30, 31, 32, 33, 34, 35, 36, 37, 38, 39, 40, 42] I I1538 := FC_tr fI1533 (FC_mono g1540 (by decide))
    have fJ1547 : FC g [] J J1539 := FC_tr fJ0 (FC_mono g1541 (by decide))
    try simp only [e1543, ew1519] at p1537
    exact WP_vret dX7_tell_193 rfl ⟨rfl, fI1546, fJ1547, rfl, by
      try simp only [e1543, e1544, e1545, ew1519]
      exact p1537⟩
  · have hlt : j < 9 := by have := (Array.getElem?_eq_some_iff.mp hj).1; simpa using this
    have hcs : (j = 0 ∧ off = 49) ∨ (j = 1 ∧ off = 62) ∨ (j = 2 ∧ off = 70) ∨ (j = 3 ∧ off = 78) ∨ (j = 4 ∧ off = 91) ∨ (j = 5 ∧ off = 104) ∨ (j = 6 ∧ off = 117) ∨ (j = 7 ∧ off = 125) ∨ (j = 8 ∧ off = 149) := by
      match j, hlt, hj with
      | 0, _, hj => exact Or.inl ⟨rfl, (Option.some.inj hj).symm⟩
      | 1, _, hj => exact Or.inr (Or.inl ⟨rfl, (Option.some.inj hj).symm⟩)
      | 2, _, hj => exact Or.inr (Or.inr (Or.inl ⟨rfl, (Option.some.inj hj).symm⟩))
      | 3, _, hj => exact Or.inr (Or.inr (Or.inr (Or.inl ⟨rfl, (Option.some.inj hj).symm⟩)))
      | 4, _, hj => exact Or.inr (Or.inr (Or.inr (Or.inr (Or.inl ⟨rfl, (Option.some.inj hj).symm⟩))))
      | 5, _, hj => exact Or.inr (Or.inr (Or.inr (Or.inr (Or.inr (Or.inl ⟨rfl, (Option.some.inj hj).symm⟩)))))
      | 6, _, hj => exact Or.inr (Or.inr (Or.inr (Or.inr (Or.inr (Or.inr (Or.inl ⟨rfl, (Option.some.inj hj).symm⟩))))))
      | 7, _, hj => exact Or.inr (Or.inr (Or.inr (Or.inr (Or.inr (Or.inr (Or.inr (Or.inl ⟨rfl, (Option.some.inj hj).symm⟩)))))))
      | 8, _, hj => exact Or.inr (Or.inr (Or.inr (Or.inr (Or.inr (Or.inr (Or.inr (Or.inr (⟨rfl, (Option.some.inj hj).symm⟩))))))))
    clear hj hlt
    rcases hcs with ⟨rfl, rfl⟩ | ⟨rfl, rfl⟩ | ⟨rfl, rfl⟩ | ⟨rfl, rfl⟩ | ⟨rfl, rfl⟩ | ⟨rfl, rfl⟩ | ⟨rfl, rfl⟩ | ⟨rfl, rfl⟩ | ⟨rfl, rfl⟩
    · show WP _ _ 60 _ _ _ _ _ _
      obtain rfl : c = 0 := by omega
      obtain ⟨w1548, ew1548⟩ : ∃ w : Int32, I1522 (ad g 4) 0 = w := ⟨_, rfl⟩
      have q0 : w1548.toInt = P 0 := by rw [← ew1548]; exact hP1 0 (by decide) (by decide)
      obtain ⟨w1549, ew1549⟩ : ∃ w : Int32, I1522 (ad g 4) 1 = w := ⟨_, rfl⟩
      have q1 : w1549.toInt = P 1 := by rw [← ew1549]; exact hP1 1 (by decide) (by decide)
      refine WP_aload_n dX7_tell_60 rfl ?_
      refine WP_aload_n dX7_tell_61 rfl ?_
      refine WQ_iconst (0) (0) dX7_tell_62 rfl rfl (fun v1550 hv1550 => ?_)
      refine WE_iak (z := 0) dX7_tell_63 (lyx_is hy 4 13 rfl) (lyx_n hy 4 5 rfl) hv1550 (by decide) ew1548 ?_
      refine WP_aload_n dX7_tell_64 rfl ?_
      refine WQ_iconst (1) (1) dX7_tell_65 rfl rfl (fun v1552 hv1552 => ?_)
      refine WE_iak (z := 1) dX7_tell_66 (lyx_is hy 4 13 rfl) (lyx_n hy 4 5 rfl) hv1552 (by decide) ew1549 ?_
      refine WP_callV2 (k := 7) dX7_tell_67 ⟨⟨⟨by decide, by decide⟩, zX7_tellLoss⟩, lX7_91, by decide, rfl, vX7_tellLoss.1, vX7_tellLoss.2⟩ (lyx_is hy 27 7 rfl) (ex_tellLossb hy hr _ _  (S := (pp S.1 0 0 (S.1 0 0 + 1), S.2)) (d := (P 0).toNat) hR1 (by omega) (by omega)) (Nat.le_of_ble_eq_true rfl) ?_
      intro r I1555 J1556 Ra hq
      obtain ⟨ec, g1557, g1558, er, p1554⟩ := hq
      rw [ec, er]
      clear ec er Ra r
      have e1560 : I1555 (ad g 27) 0 = v1521 := by rw [FCx_at hy g1557 27 (by decide) (by decide)]; exact e1523
      have e1561 : I1555 (ad g 4) 0 = w1548 := by rw [FCx_at hy g1557 4 (by decide) (by decide)]; exact ew1548
      have e1562 : I1555 (ad g 4) 1 = w1549 := by rw [FCx_at hy g1557 4 (by decide) (by decide)]; exact ew1549
      have fI1563 : FC g [27, 28, 29, 30, 31, 32, 33, 34, 35, 36, 37, 38, 39, 40, 42] I I1555 := FC_tr fI1524 (FC_mono g1557 (by decide))
      have fJ1564 : FC g [] J J1556 := FC_tr fJ0 (FC_mono g1558 (by decide))
      try simp only [e1560, ew1519] at p1554
      rw [q1] at p1554
      refine WP_goto 193 dX7_tell_70 rfl ?_
      exact WP_vret dX7_tell_193 rfl ⟨rfl, fI1563, fJ1564, rfl, by
        try simp only [e1560, e1561, e1562, ew1519]
        exact p1554⟩
    · show WP _ _ 73 _ _ _ _ _ _
      obtain rfl : c = 1 := by omega
      refine WP_aload_n dX7_tell_73 rfl ?_
      refine WP_aload_n dX7_tell_74 rfl ?_
      refine WP_callV1 (k := 7) dX7_tell_75 ⟨⟨⟨by decide, by decide⟩, zX7_tellSort⟩, lX7_95, by decide, rfl, vX7_tellSort.1, vX7_tellSort.2⟩ (lyx_is hy 27 7 rfl) (ex_tellSortb hy hr   (S := (pp S.1 0 0 (S.1 0 0 + 1), S.2)) (P := P) hR1 hP1 (by show 0 ≤ pp S.1 0 0 (S.1 0 0 + 1) 0 1 ∧ pp S.1 0 0 (S.1 0 0 + 1) 0 1 < 4; rw [e01]; exact h6 rfl)) (Nat.le_of_ble_eq_true rfl) ?_
      intro r I1566 J1567 Ra hq
      obtain ⟨ec, g1568, g1569, er, p1565⟩ := hq
      rw [ec, er]
      clear ec er Ra r
      have fI1571 : FC g [27, 28, 29, 30, 31, 32, 33, 34, 35, 36, 37, 38, 39, 40, 42] I I1566 := FC_tr fI1524 (FC_mono g1568 (by decide))
      have fJ1572 : FC g [] J J1567 := FC_tr fJ0 (FC_mono g1569 (by decide))
      obtain ⟨w1573, ew1573⟩ : ∃ w : Int32, I1566 (ad g 27) 0 = w := ⟨_, rfl⟩
      try simp only [ew1573, ew1519] at p1565
      refine WP_goto 193 dX7_tell_78 rfl ?_
      exact WP_vret dX7_tell_193 rfl ⟨rfl, fI1571, fJ1572, rfl, by
        try simp only [ew1573, ew1519]
        exact p1565⟩
    · show WP _ _ 81 _ _ _ _ _ _
      obtain rfl : c = 2 := by omega
      refine WP_aload_n dX7_tell_81 rfl ?_
      refine WP_aload_n dX7_tell_82 rfl ?_
      refine WP_callV1 (k := 7) dX7_tell_83 ⟨⟨⟨by decide, by decide⟩, zX7_tellThing⟩, lX7_99, by decide, rfl, vX7_tellThing.1, vX7_tellThing.2⟩ (lyx_is hy 27 7 rfl) (ex_tellThingb hy hr   (S := (pp S.1 0 0 (S.1 0 0 + 1), S.2)) (P := P) hR1 hP1 (by show 0 ≤ pp S.1 0 0 (S.1 0 0 + 1) 0 2 ∧ pp S.1 0 0 (S.1 0 0 + 1) 0 2 < 3; rw [e02]; exact h7 rfl)) (Nat.le_of_ble_eq_true rfl) ?_
      intro r I1575 J1576 Ra hq
      obtain ⟨ec, g1577, g1578, er, p1574⟩ := hq
      rw [ec, er]
      clear ec er Ra r
      have fI1580 : FC g [27, 28, 29, 30, 31, 32, 33, 34, 35, 36, 37, 38, 39, 40, 42] I I1575 := FC_tr fI1524 (FC_mono g1577 (by decide))
      have fJ1581 : FC g [] J J1576 := FC_tr fJ0 (FC_mono g1578 (by decide))
      obtain ⟨w1582, ew1582⟩ : ∃ w : Int32, I1575 (ad g 27) 0 = w := ⟨_, rfl⟩
      try simp only [ew1582, ew1519] at p1574
      refine WP_goto 193 dX7_tell_86 rfl ?_
      exact WP_vret dX7_tell_193 rfl ⟨rfl, fI1580, fJ1581, rfl, by
        try simp only [ew1582, ew1519]
        exact p1574⟩
    · show WP _ _ 89 _ _ _ _ _ _
      obtain rfl : c = 3 := by omega
      refine WP_aload_n dX7_tell_89 rfl ?_
      refine WP_aload_n dX7_tell_90 rfl ?_
      refine WP_getr dX7_tell_91 fX7_27 rfl (lyx_is hy 27 7 rfl) (rfx hr 27 10 33 (by decide)) ?_
      refine WP_iload_n dX7_tell_94 rfl ?_
      refine WP_aload_n dX7_tell_95 rfl ?_
      refine WP_callV3 (k := 7) dX7_tell_96 ⟨⟨⟨by decide, by decide⟩, zX7_tellOn⟩, lX7_102, by decide, rfl, vX7_tellOn.1, vX7_tellOn.2⟩ (lyx_is hy 27 7 rfl) (ex_tellOn3b hy hr _  (S := (pp S.1 0 0 (S.1 0 0 + 1), S.2)) (P := P) hR1 (by omega) hP1 (by omega) (by omega)) (Nat.le_of_ble_eq_true rfl) ?_
      intro r I1584 J1585 Ra hq
      obtain ⟨ec, g1586, g1587, er, p1583⟩ := hq
      rw [ec, er]
      clear ec er Ra r
      have e1589 : I1584 (ad g 27) 0 = v1521 := by rw [FCx_at hy g1586 27 (by decide) (by decide)]; exact e1523
      have fI1590 : FC g [27, 28, 29, 30, 31, 32, 33, 34, 35, 36, 37, 38, 39, 40, 42] I I1584 := FC_tr fI1524 (FC_mono g1586 (by decide))
      have fJ1591 : FC g [] J J1585 := FC_tr fJ0 (FC_mono g1587 (by decide))
      try simp only [e1589, ew1519] at p1583
      refine WP_goto 193 dX7_tell_99 rfl ?_
      exact WP_vret dX7_tell_193 rfl ⟨rfl, fI1590, fJ1591, rfl, by
        try simp only [e1589, ew1519]
        exact p1583⟩
    · show WP _ _ 102 _ _ _ _ _ _
      obtain rfl : c = 4 := by omega
      refine WP_aload_n dX7_tell_102 rfl ?_
      refine WP_aload_n dX7_tell_103 rfl ?_
      refine WP_getr dX7_tell_104 fX7_45 rfl (lyx_is hy 27 7 rfl) (rfx hr 27 16 39 (by decide)) ?_
      refine WP_iload_n dX7_tell_107 rfl ?_
      refine WP_aload_n dX7_tell_108 rfl ?_
      refine WP_callV3 (k := 7) dX7_tell_109 ⟨⟨⟨by decide, by decide⟩, zX7_tellOn⟩, lX7_102, by decide, rfl, vX7_tellOn.1, vX7_tellOn.2⟩ (lyx_is hy 27 7 rfl) (ex_tellOn4b hy hr _  (S := (pp S.1 0 0 (S.1 0 0 + 1), S.2)) (P := P) hR1 (by omega) hP1 (by omega) (by omega)) (Nat.le_of_ble_eq_true rfl) ?_
      intro r I1593 J1594 Ra hq
      obtain ⟨ec, g1595, g1596, er, p1592⟩ := hq
      rw [ec, er]
      clear ec er Ra r
      have e1598 : I1593 (ad g 27) 0 = v1521 := by rw [FCx_at hy g1595 27 (by decide) (by decide)]; exact e1523
      have fI1599 : FC g [27, 28, 29, 30, 31, 32, 33, 34, 35, 36, 37, 38, 39, 40, 42] I I1593 := FC_tr fI1524 (FC_mono g1595 (by decide))
      have fJ1600 : FC g [] J J1594 := FC_tr fJ0 (FC_mono g1596 (by decide))
      try simp only [e1598, ew1519] at p1592
      refine WP_goto 193 dX7_tell_112 rfl ?_
      exact WP_vret dX7_tell_193 rfl ⟨rfl, fI1599, fJ1600, rfl, by
        try simp only [e1598, ew1519]
        exact p1592⟩
    · show WP _ _ 115 _ _ _ _ _ _
      obtain rfl : c = 5 := by omega
      refine WP_aload_n dX7_tell_115 rfl ?_
      refine WP_aload_n dX7_tell_116 rfl ?_
      refine WP_getr dX7_tell_117 fX7_48 rfl (lyx_is hy 27 7 rfl) (rfx hr 27 17 40 (by decide)) ?_
      refine WP_iload_n dX7_tell_120 rfl ?_
      refine WP_aload_n dX7_tell_121 rfl ?_
      refine WP_callV3 (k := 7) dX7_tell_122 ⟨⟨⟨by decide, by decide⟩, zX7_tellOn⟩, lX7_102, by decide, rfl, vX7_tellOn.1, vX7_tellOn.2⟩ (lyx_is hy 27 7 rfl) (ex_tellOn5b hy hr _  (S := (pp S.1 0 0 (S.1 0 0 + 1), S.2)) (P := P) hR1 (by omega) hP1 (by omega) (by omega)) (Nat.le_of_ble_eq_true rfl) ?_
      intro r I1602 J1603 Ra hq
      obtain ⟨ec, g1604, g1605, er, p1601⟩ := hq
      rw [ec, er]
      clear ec er Ra r
      have e1607 : I1602 (ad g 27) 0 = v1521 := by rw [FCx_at hy g1604 27 (by decide) (by decide)]; exact e1523
      have fI1608 : FC g [27, 28, 29, 30, 31, 32, 33, 34, 35, 36, 37, 38, 39, 40, 42] I I1602 := FC_tr fI1524 (FC_mono g1604 (by decide))
      have fJ1609 : FC g [] J J1603 := FC_tr fJ0 (FC_mono g1605 (by decide))
      try simp only [e1607, ew1519] at p1601
      refine WP_goto 193 dX7_tell_125 rfl ?_
      exact WP_vret dX7_tell_193 rfl ⟨rfl, fI1608, fJ1609, rfl, by
        try simp only [e1607, ew1519]
        exact p1601⟩
    · show WP _ _ 128 _ _ _ _ _ _
      obtain rfl : c = 6 := by omega
      refine WP_aload_n dX7_tell_128 rfl ?_
      refine WP_aload_n dX7_tell_129 rfl ?_
      refine WP_callV1 (k := 7) dX7_tell_130 ⟨⟨⟨by decide, by decide⟩, zX7_tellWant⟩, lX7_106, by decide, rfl, vX7_tellWant.1, vX7_tellWant.2⟩ (lyx_is hy 27 7 rfl) (ex_tellWantb hy hr   (S := (pp S.1 0 0 (S.1 0 0 + 1), S.2)) (P := P) hR1 hP1 (by omega) (by omega)) (Nat.le_of_ble_eq_true rfl) ?_
      intro r I1611 J1612 Ra hq
      obtain ⟨ec, g1613, g1614, er, p1610⟩ := hq
      rw [ec, er]
      clear ec er Ra r
      have e1616 : I1611 (ad g 27) 0 = v1521 := by rw [FCx_at hy g1613 27 (by decide) (by decide)]; exact e1523
      have fI1617 : FC g [27, 28, 29, 30, 31, 32, 33, 34, 35, 36, 37, 38, 39, 40, 42] I I1611 := FC_tr fI1524 (FC_mono g1613 (by decide))
      have fJ1618 : FC g [] J J1612 := FC_tr fJ0 (FC_mono g1614 (by decide))
      try simp only [e1616, ew1519] at p1610
      refine WP_goto 193 dX7_tell_133 rfl ?_
      exact WP_vret dX7_tell_193 rfl ⟨rfl, fI1617, fJ1618, rfl, by
        try simp only [e1616, ew1519]
        exact p1610⟩
    · show WP _ _ 136 _ _ _ _ _ _
      obtain rfl : c = 7 := by omega
      obtain ⟨w1619, ew1619⟩ : ∃ w : Int32, I1522 (ad g 4) 0 = w := ⟨_, rfl⟩
      have q0 : w1619.toInt = P 0 := by rw [← ew1619]; exact hP1 0 (by decide) (by decide)
      obtain ⟨w1620, ew1620⟩ : ∃ w : Int32, I1522 (ad g 4) 1 = w := ⟨_, rfl⟩
      have q1 : w1620.toInt = P 1 := by rw [← ew1620]; exact hP1 1 (by decide) (by decide)
      refine WP_aload_n dX7_tell_136 rfl ?_
      refine WP_getr dX7_tell_137 fX7_24 rfl (lyx_is hy 27 7 rfl) (rfx hr 27 9 32 (by decide)) ?_
      refine WP_aload_n dX7_tell_140 rfl ?_
      refine WQ_iconst (0) (0) dX7_tell_141 rfl rfl (fun v1621 hv1621 => ?_)
      refine WE_iak (z := 0) dX7_tell_142 (lyx_is hy 4 13 rfl) (lyx_n hy 4 5 rfl) hv1621 (by decide) ew1619 ?_
      refine WP_aload_n dX7_tell_143 rfl ?_
      refine WQ_iconst (1) (1) dX7_tell_144 rfl rfl (fun v1623 hv1623 => ?_)
      refine WE_iak (z := 1) dX7_tell_145 (lyx_is hy 4 13 rfl) (lyx_n hy 4 5 rfl) hv1623 (by decide) ew1620 ?_
      refine WE_is dX7_tell_146 (lyx_is hy 32 13 rfl) (lyx_n hy 32 4 rfl) (by omega) (by omega) (fun I1625 eI1625 => ?_)
      have e1626 : I1625 (ad g 27) 0 = v1521 := by rw [eI1625, pp_ne _ _ (Or.inl (lyx_ne hy (by decide) (by decide) (by decide)))]; exact e1523
      have e1627 : I1625 (ad g 4) 0 = w1619 := by rw [eI1625, pp_ne _ _ (Or.inl (lyx_ne hy (by decide) (by decide) (by decide)))]; exact ew1619
      have e1628 : I1625 (ad g 4) 1 = w1620 := by rw [eI1625, pp_ne _ _ (Or.inl (lyx_ne hy (by decide) (by decide) (by decide)))]; exact ew1620
      have fI1629 : FC g [27, 28, 29, 30, 31, 32, 33, 34, 35, 36, 37, 38, 39, 40, 42] I I1625 := by rw [eI1625]; exact FC_pp fI1524 (by decide)
      have hR2 : RTX g 27 (pp (pp S.1 0 0 (S.1 0 0 + 1)) 5 (P 0).toNat (P 1), S.2) I1625 J := by
        rw [eI1625, show w1619.toInt.toNat = (P 0).toNat by omega]
        exact RTX_w hy (by decide) hR1 5 _ _ _ (by decide) q1
      refine WP_aload_n dX7_tell_147 rfl ?_
      refine WQ_bipush (7) (7) dX7_tell_148 rfl rfl (fun v1630 hv1630 => ?_)
      refine WP_aload_n dX7_tell_150 rfl ?_
      refine WQ_iconst (0) (0) dX7_tell_151 rfl rfl (fun v1631 hv1631 => ?_)
      refine WE_iak (z := 0) dX7_tell_152 (lyx_is hy 4 13 rfl) (lyx_n hy 4 5 rfl) hv1631 (by decide) e1627 ?_
      refine WQ_iconst (0) (0) dX7_tell_153 rfl rfl (fun v1633 hv1633 => ?_)
      refine WP_callV3 (k := 7) dX7_tell_154 ⟨⟨⟨by decide, by decide⟩, zX7_hold⟩, lX7_109, by decide, rfl, vX7_hold.1, vX7_hold.2⟩ (lyx_is hy 27 7 rfl) (ex_holdb hy hr _ _ _  (S := (pp (pp S.1 0 0 (S.1 0 0 + 1)) 5 (P 0).toNat (P 1), S.2)) (ro := 28 + (P 0).toNat) (d := 0) hR2 (by omega) (by omega) (by omega) (by omega) (by omega) (by decide)) (Nat.le_of_ble_eq_true rfl) ?_
      intro r I1635 J1636 Ra hq
      obtain ⟨ec, g1637, g1638, er, p1634⟩ := hq
      rw [ec, er]
      clear ec er Ra r
      have e1640 : I1635 (ad g 27) 0 = v1521 := by rw [FCx_at hy g1637 27 (by decide) (by decide)]; exact e1626
      have e1641 : I1635 (ad g 4) 0 = w1619 := by rw [FCx_at hy g1637 4 (by decide) (by decide)]; exact e1627
      have e1642 : I1635 (ad g 4) 1 = w1620 := by rw [FCx_at hy g1637 4 (by decide) (by decide)]; exact e1628
      have fI1643 : FC g [27, 28, 29, 30, 31, 32, 33, 34, 35, 36, 37, 38, 39, 40, 42] I I1635 := FC_tr fI1629 (FC_mono g1637 (by decide))
      have fJ1644 : FC g [] J J1636 := FC_tr fJ0 (FC_mono g1638 (by decide))
      try simp only [e1640, ew1519] at p1634
      refine WP_goto 193 dX7_tell_157 rfl ?_
      exact WP_vret dX7_tell_193 rfl ⟨rfl, fI1643, fJ1644, rfl, by
        try simp only [e1640, e1641, e1642, ew1519]
        exact p1634⟩
    · show WP _ _ 160 _ _ _ _ _ _
      obtain rfl : c = 8 := by omega
      obtain ⟨w1645, ew1645⟩ : ∃ w : Int32, I1522 (ad g 4) 0 = w := ⟨_, rfl⟩
      have q0 : w1645.toInt = P 0 := by rw [← ew1645]; exact hP1 0 (by decide) (by decide)
      refine WP_aload_n dX7_tell_160 rfl ?_
      refine WP_aload_n dX7_tell_161 rfl ?_
      refine WQ_iconst (0) (0) dX7_tell_162 rfl rfl (fun v1646 hv1646 => ?_)
      refine WE_iak (z := 0) dX7_tell_163 (lyx_is hy 4 13 rfl) (lyx_n hy 4 5 rfl) hv1646 (by decide) ew1645 ?_
      refine WQ_puti dX7_tell_164 fX7_71 rfl rfl (lyx_is hy 27 7 rfl) (fun I1648 eI1648 => ?_)
      have e1649 : I1648 (ad g 27) 0 = v1521 := by rw [eI1648, pp_ne _ _ (Or.inr (by decide))]; exact e1523
      have e1650 : I1648 (ad g 4) 0 = w1645 := by rw [eI1648, pp_ne _ _ (Or.inl (lyx_ne hy (by decide) (by decide) (by decide)))]; exact ew1645
      have e1651 : I1648 (ad g 27) 3 = w1645 := by rw [eI1648, pp_self]
      have fI1652 : FC g [27, 28, 29, 30, 31, 32, 33, 34, 35, 36, 37, 38, 39, 40, 42] I I1648 := by rw [eI1648]; exact FC_pp fI1524 (by decide)
      have hR2 : RTX g 27 (pp (pp S.1 0 0 (S.1 0 0 + 1)) 0 3 (P 0), S.2) I1648 J := by
        rw [eI1648]
        exact RTX_w hy (by decide) hR1 0 3 _ _ (by decide) q0
      refine WP_aload_n dX7_tell_167 rfl ?_
      refine WQ_bipush (8) (8) dX7_tell_168 rfl rfl (fun v1653 hv1653 => ?_)
      refine WQ_iconst (0) (0) dX7_tell_170 rfl rfl (fun v1654 hv1654 => ?_)
      refine WQ_iconst (0) (0) dX7_tell_171 rfl rfl (fun v1655 hv1655 => ?_)
      refine WP_callV3 (k := 7) dX7_tell_172 ⟨⟨⟨by decide, by decide⟩, zX7_hold⟩, lX7_109, by decide, rfl, vX7_hold.1, vX7_hold.2⟩ (lyx_is hy 27 7 rfl) (ex_holdb hy hr _ _ _  (S := (pp (pp S.1 0 0 (S.1 0 0 + 1)) 0 3 (P 0), S.2)) (ro := 32) (d := 0) hR2 (by omega) (by omega) (by omega) (by omega) (by omega) (by decide)) (Nat.le_of_ble_eq_true rfl) ?_
      intro r I1657 J1658 Ra hq
      obtain ⟨ec, g1659, g1660, er, p1656⟩ := hq
      rw [ec, er]
      clear ec er Ra r
      have e1662 : I1657 (ad g 27) 0 = v1521 := by rw [FCx_at hy g1659 27 (by decide) (by decide)]; exact e1649
      have e1663 : I1657 (ad g 4) 0 = w1645 := by rw [FCx_at hy g1659 4 (by decide) (by decide)]; exact e1650
      have e1664 : I1657 (ad g 27) 3 = w1645 := by rw [FCx_at hy g1659 27 (by decide) (by decide)]; exact e1651
      have fI1665 : FC g [27, 28, 29, 30, 31, 32, 33, 34, 35, 36, 37, 38, 39, 40, 42] I I1657 := FC_tr fI1652 (FC_mono g1659 (by decide))
      have fJ1666 : FC g [] J J1658 := FC_tr fJ0 (FC_mono g1660 (by decide))
      try simp only [e1662, ew1519] at p1656
      refine WP_goto 193 dX7_tell_175 rfl ?_
      exact WP_vret dX7_tell_193 rfl ⟨rfl, fI1665, fJ1666, rfl, by
        try simp only [e1662, e1663, e1664, ew1519]
        exact p1656⟩
