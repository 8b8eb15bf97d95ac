set_option maxHeartbeats 4000000 in
set_option maxRecDepth 100000 in
theorem sm_readTown {g : GG} {n : Int} {L : Int32} (hy : Ly g) {aK aV : Nat → Nat} {fo : Option Nat} (hz : HZ g aK aV fo)  {I : pI} {J : pJ} {R : pR} (hr : Rf g R) (hI : MP g n L I)   (hb : ((I (ad g 0) 4).toInt ≤ (I (ad g 0) 2).toInt ∧ (I (ad g 0) 3).toInt ≤ (I (ad g 0) 4).toInt ∧ ((I (ad g 0) 5).toInt = 0 ∨ (I (ad g 0) 3).toInt < (I (ad g 0) 4).toInt))) : SP g mX11_readTown [.ref (ad g 0)] I J R (fun r I' J' R' => (MP g n L I' ∧ R' = R ∧ fz 49 g [0, 7, 14, 15, 16, 17, 18, 19, 27, 28, 29, 30, 31, 32, 33, 34] I I' ∧ fz 49 g [4, 5] J J' ∧ fs g [3, 4, 5, 6, 7, 8, 9, 15, 16, 17, 18, 19, 51] I I') ∧ ∃ v : Int32, r = some (.int v) ∧ 0 ≤ v.toInt ∧ v.toInt ≤ 1 ∧ (v.toInt = 1 → (I' (ad g 0) 17).toInt < (I' (ad g 0) 15).toInt ∧ WRt (I' (ad g 30)) (I' (ad g 31)) (7 * (I' (ad g 0) 15).toInt))) := by
  refine SP_of ⟨by decide, rfl⟩ (Nat.le_of_ble_eq_true rfl) ?_
  have e10183 : I (ad g 0) 1 = L := hI.1.2
  have b10184 := BT_get hI.1.1 0 1 2 (0) (0) (900) (by decide) 1 (by decide) (by decide)
  rw [e10183] at b10184
  have fr0 : fz 49 g [0, 7, 14, 15, 16, 17, 18, 19, 27, 28, 29, 30, 31, 32, 33, 34] I I := fz_rf
  have frj0 : fz 49 g [4, 5] J J := fz_rf
  have frq0 : fs g [3, 4, 5, 6, 7, 8, 9, 15, 16, 17, 18, 19, 51] I I := fs_rf
  obtain ⟨w10185, ew10185⟩ : ∃ w : Int32, I (ad g 0) 2 = w := ⟨_, rfl⟩
  have bw10185 := BT_get hI.1.1 0 2 3 (0) (0) (900) (by decide) 2 (by decide) (by decide)
  rw [ew10185] at bw10185
  obtain ⟨w10186, ew10186⟩ : ∃ w : Int32, I (ad g 0) 3 = w := ⟨_, rfl⟩
  have bw10186 := BT_get hI.1.1 0 3 4 (0) (0) (900) (by decide) 3 (by decide) (by decide)
  rw [ew10186] at bw10186
  obtain ⟨w10187, ew10187⟩ : ∃ w : Int32, I (ad g 0) 4 = w := ⟨_, rfl⟩
  have bw10187 := BT_get hI.1.1 0 4 5 (0) (0) (900) (by decide) 4 (by decide) (by decide)
  rw [ew10187] at bw10187
  obtain ⟨w10188, ew10188⟩ : ∃ w : Int32, I (ad g 0) 5 = w := ⟨_, rfl⟩
  have bw10188 := BT_get hI.1.1 0 5 6 (0) (0) (4) (by decide) 5 (by decide) (by decide)
  rw [ew10188] at bw10188
  rw [ew10185, ew10186, ew10187, ew10188] at hb
  refine WP_aload_n dX11_readTown_0 rfl ?_
  refine WQ_iconst (0) (0) dX11_readTown_1 rfl rfl (fun v10189 hv10189 => ?_)
  refine WQ_puti dX11_readTown_2 fX11_88 rfl rfl (ly_is hy 0 11 rfl) (fun I10190 eI10190 => ?_)
  have hI10190 : MP g n L I10190 := by rw [eI10190]; exact (mp_w15 hy hI (mi_f hy hI.1 (c := 0) (0) (0) (4) (by decide) (Or.inr (by decide)) (by decide) (by omega) (by omega)) (Or.inl (by omega)))
  have e10191 : I10190 (ad g 0) 1 = L := by rw [eI10190, pp_ne _ _ (Or.inr (by decide))]; exact e10183
  have e10192 : I10190 (ad g 0) 2 = w10185 := by rw [eI10190, pp_ne _ _ (Or.inr (by decide))]; exact ew10185
  have e10193 : I10190 (ad g 0) 3 = w10186 := by rw [eI10190, pp_ne _ _ (Or.inr (by decide))]; exact ew10186
  have e10194 : I10190 (ad g 0) 4 = w10187 := by rw [eI10190, pp_ne _ _ (Or.inr (by decide))]; exact ew10187
  have e10195 : I10190 (ad g 0) 5 = w10188 := by rw [eI10190, pp_ne _ _ (Or.inr (by decide))]; exact ew10188
  have e10196 : I10190 (ad g 0) 15 = v10189 := by rw [eI10190, pp_self]
  have fr10197 : fs g [3, 4, 5, 6, 7, 8, 9, 15, 16, 17, 18, 19, 51] I I10190 := by rw [eI10190]; exact fs_pp0 frq0 (by decide)
  have fr10198 : fz 49 g [0, 7, 14, 15, 16, 17, 18, 19, 27, 28, 29, 30, 31, 32, 33, 34] I I10190 := by rw [eI10190]; exact fzm_pp hy fr0 (by decide) (by decide)
  clear eI10190
  refine WP_aload_n dX11_readTown_5 rfl ?_
  refine WQ_iconst (0) (0) dX11_readTown_6 rfl rfl (fun v10199 hv10199 => ?_)
  refine WQ_puti dX11_readTown_7 fX11_126 rfl rfl (ly_is hy 0 11 rfl) (fun I10200 eI10200 => ?_)
  have hI10200 : MP g n L I10200 := by rw [eI10200]; exact (mp_w hy hI10190 (c := 0) (mi_f hy hI10190.1 (c := 0) (0) (0) (3) (by decide) (Or.inr (by decide)) (by decide) (by omega) (by omega)) (by decide) (by decide) (Or.inr (by decide)))
  have e10201 : I10200 (ad g 0) 1 = L := by rw [eI10200, pp_ne _ _ (Or.inr (by decide))]; exact e10191
  have e10202 : I10200 (ad g 0) 2 = w10185 := by rw [eI10200, pp_ne _ _ (Or.inr (by decide))]; exact e10192
  have e10203 : I10200 (ad g 0) 3 = w10186 := by rw [eI10200, pp_ne _ _ (Or.inr (by decide))]; exact e10193
  have e10204 : I10200 (ad g 0) 4 = w10187 := by rw [eI10200, pp_ne _ _ (Or.inr (by decide))]; exact e10194
  have e10205 : I10200 (ad g 0) 5 = w10188 := by rw [eI10200, pp_ne _ _ (Or.inr (by decide))]; exact e10195
  have e10206 : I10200 (ad g 0) 15 = v10189 := by rw [eI10200, pp_ne _ _ (Or.inr (by decide))]; exact e10196
  have e10207 : I10200 (ad g 0) 16 = v10199 := by rw [eI10200, pp_self]
  have fr10208 : fs g [3, 4, 5, 6, 7, 8, 9, 15, 16, 17, 18, 19, 51] I I10200 := by rw [eI10200]; exact fs_pp0 fr10197 (by decide)
  have fr10209 : fz 49 g [0, 7, 14, 15, 16, 17, 18, 19, 27, 28, 29, 30, 31, 32, 33, 34] I I10200 := by rw [eI10200]; exact fzm_pp hy fr10198 (by decide) (by decide)
  clear eI10200
  refine WP_aload_n dX11_readTown_10 rfl ?_
  refine WQ_iconst (-1) (-1) dX11_readTown_11 rfl rfl (fun v10210 hv10210 => ?_)
  refine WQ_puti dX11_readTown_12 fX11_158 rfl rfl (ly_is hy 0 11 rfl) (fun I10211 eI10211 => ?_)
  have hI10211 : MP g n L I10211 := by rw [eI10211]; exact (mp_w hy hI10200 (c := 0) (mi_f hy hI10200.1 (c := 0) (-1) (0) (3) (by decide) (Or.inr (by decide)) (by decide) (by omega) (by omega)) (by decide) (by decide) (Or.inr (by decide)))
  have e10212 : I10211 (ad g 0) 1 = L := by rw [eI10211, pp_ne _ _ (Or.inr (by decide))]; exact e10201
  have e10213 : I10211 (ad g 0) 2 = w10185 := by rw [eI10211, pp_ne _ _ (Or.inr (by decide))]; exact e10202
  have e10214 : I10211 (ad g 0) 3 = w10186 := by rw [eI10211, pp_ne _ _ (Or.inr (by decide))]; exact e10203
  have e10215 : I10211 (ad g 0) 4 = w10187 := by rw [eI10211, pp_ne _ _ (Or.inr (by decide))]; exact e10204
  have e10216 : I10211 (ad g 0) 5 = w10188 := by rw [eI10211, pp_ne _ _ (Or.inr (by decide))]; exact e10205
  have e10217 : I10211 (ad g 0) 15 = v10189 := by rw [eI10211, pp_ne _ _ (Or.inr (by decide))]; exact e10206
  have e10218 : I10211 (ad g 0) 16 = v10199 := by rw [eI10211, pp_ne _ _ (Or.inr (by decide))]; exact e10207
  have e10219 : I10211 (ad g 0) 17 = v10210 := by rw [eI10211, pp_self]
  have fr10220 : fs g [3, 4, 5, 6, 7, 8, 9, 15, 16, 17, 18, 19, 51] I I10211 := by rw [eI10211]; exact fs_pp0 fr10208 (by decide)
  have fr10221 : fz 49 g [0, 7, 14, 15, 16, 17, 18, 19, 27, 28, 29, 30, 31, 32, 33, 34] I I10211 := by rw [eI10211]; exact fzm_pp hy fr10209 (by decide) (by decide)
  clear eI10211
  refine WP_aload_n dX11_readTown_15 rfl ?_
  refine WQ_iconst (-1) (-1) dX11_readTown_16 rfl rfl (fun v10222 hv10222 => ?_)
  refine WQ_puti dX11_readTown_17 fX11_161 rfl rfl (ly_is hy 0 11 rfl) (fun I10223 eI10223 => ?_)
  have hI10223 : MP g n L I10223 := by rw [eI10223]; exact (mp_w hy hI10211 (c := 0) (mi_f hy hI10211.1 (c := 0) (-1) (0) (2) (by decide) (Or.inr (by decide)) (by decide) (by omega) (by omega)) (by decide) (by decide) (Or.inr (by decide)))
  have e10224 : I10223 (ad g 0) 1 = L := by rw [eI10223, pp_ne _ _ (Or.inr (by decide))]; exact e10212
  have e10225 : I10223 (ad g 0) 2 = w10185 := by rw [eI10223, pp_ne _ _ (Or.inr (by decide))]; exact e10213
  have e10226 : I10223 (ad g 0) 3 = w10186 := by rw [eI10223, pp_ne _ _ (Or.inr (by decide))]; exact e10214
  have e10227 : I10223 (ad g 0) 4 = w10187 := by rw [eI10223, pp_ne _ _ (Or.inr (by decide))]; exact e10215
  have e10228 : I10223 (ad g 0) 5 = w10188 := by rw [eI10223, pp_ne _ _ (Or.inr (by decide))]; exact e10216
  have e10229 : I10223 (ad g 0) 15 = v10189 := by rw [eI10223, pp_ne _ _ (Or.inr (by decide))]; exact e10217
  have e10230 : I10223 (ad g 0) 16 = v10199 := by rw [eI10223, pp_ne _ _ (Or.inr (by decide))]; exact e10218
  have e10231 : I10223 (ad g 0) 17 = v10210 := by rw [eI10223, pp_ne _ _ (Or.inr (by decide))]; exact e10219
  have e10232 : I10223 (ad g 0) 18 = v10222 := by rw [eI10223, pp_self]
  have fr10233 : fs g [3, 4, 5, 6, 7, 8, 9, 15, 16, 17, 18, 19, 51] I I10223 := by rw [eI10223]; exact fs_pp0 fr10220 (by decide)
  have fr10234 : fz 49 g [0, 7, 14, 15, 16, 17, 18, 19, 27, 28, 29, 30, 31, 32, 33, 34] I I10223 := by rw [eI10223]; exact fzm_pp hy fr10221 (by decide) (by decide)
  clear eI10223
  refine WP_aload_n dX11_readTown_20 rfl ?_
  refine WQ_iconst (0) (0) dX11_readTown_21 rfl rfl (fun v10235 hv10235 => ?_)
  refine WQ_puti dX11_readTown_22 fX11_78 rfl rfl (ly_is hy 0 11 rfl) (fun I10236 eI10236 => ?_)
  have hI10236 : MP g n L I10236 := by rw [eI10236]; exact (mp_w hy hI10223 (c := 0) (mi_f0 hy hI10223.1 (c := 0) (by decide) (Or.inr (by decide)) (by decide)) (by decide) (by decide) (Or.inr (by decide)))
  have e10237 : I10236 (ad g 0) 1 = L := by rw [eI10236, pp_ne _ _ (Or.inr (by decide))]; exact e10224
  have e10238 : I10236 (ad g 0) 2 = w10185 := by rw [eI10236, pp_ne _ _ (Or.inr (by decide))]; exact e10225
  have e10239 : I10236 (ad g 0) 3 = w10186 := by rw [eI10236, pp_ne _ _ (Or.inr (by decide))]; exact e10226
  have e10240 : I10236 (ad g 0) 4 = w10187 := by rw [eI10236, pp_ne _ _ (Or.inr (by decide))]; exact e10227
  have e10241 : I10236 (ad g 0) 5 = w10188 := by rw [eI10236, pp_ne _ _ (Or.inr (by decide))]; exact e10228
  have e10242 : I10236 (ad g 0) 15 = v10189 := by rw [eI10236, pp_ne _ _ (Or.inr (by decide))]; exact e10229
  have e10243 : I10236 (ad g 0) 16 = v10199 := by rw [eI10236, pp_ne _ _ (Or.inr (by decide))]; exact e10230
  have e10244 : I10236 (ad g 0) 17 = v10210 := by rw [eI10236, pp_ne _ _ (Or.inr (by decide))]; exact e10231
  have e10245 : I10236 (ad g 0) 18 = v10222 := by rw [eI10236, pp_ne _ _ (Or.inr (by decide))]; exact e10232
  have e10246 : I10236 (ad g 0) 51 = v10235 := by rw [eI10236, pp_self]
  have fr10247 : fs g [3, 4, 5, 6, 7, 8, 9, 15, 16, 17, 18, 19, 51] I I10236 := by rw [eI10236]; exact fs_pp0 fr10233 (by decide)
  have fr10248 : fz 49 g [0, 7, 14, 15, 16, 17, 18, 19, 27, 28, 29, 30, 31, 32, 33, 34] I I10236 := by rw [eI10236]; exact fzm_pp hy fr10234 (by decide) (by decide)
  clear eI10236
  refine WP_aload_n dX11_readTown_25 rfl ?_
  refine WQ_iconst (0) (0) dX11_readTown_26 rfl rfl (fun v10249 hv10249 => ?_)
  refine WQ_puti dX11_readTown_27 fX11_207 rfl rfl (ly_is hy 0 11 rfl) (fun I10250 eI10250 => ?_)
  have hI10250 : MP g n L I10250 := by rw [eI10250]; exact (mp_w hy hI10236 (c := 0) (mi_f0 hy hI10236.1 (c := 0) (by decide) (Or.inr (by decide)) (by decide)) (by decide) (by decide) (Or.inr (by decide)))
  have e10251 : I10250 (ad g 0) 1 = L := by rw [eI10250, pp_ne _ _ (Or.inr (by decide))]; exact e10237
  have e10252 : I10250 (ad g 0) 2 = w10185 := by rw [eI10250, pp_ne _ _ (Or.inr (by decide))]; exact e10238
  have e10253 : I10250 (ad g 0) 3 = w10186 := by rw [eI10250, pp_ne _ _ (Or.inr (by decide))]; exact e10239
  have e10254 : I10250 (ad g 0) 4 = w10187 := by rw [eI10250, pp_ne _ _ (Or.inr (by decide))]; exact e10240
  have e10255 : I10250 (ad g 0) 5 = w10188 := by rw [eI10250, pp_ne _ _ (Or.inr (by decide))]; exact e10241
  have e10256 : I10250 (ad g 0) 15 = v10189 := by rw [eI10250, pp_ne _ _ (Or.inr (by decide))]; exact e10242
  have e10257 : I10250 (ad g 0) 16 = v10199 := by rw [eI10250, pp_ne _ _ (Or.inr (by decide))]; exact e10243
  have e10258 : I10250 (ad g 0) 17 = v10210 := by rw [eI10250, pp_ne _ _ (Or.inr (by decide))]; exact e10244
  have e10259 : I10250 (ad g 0) 18 = v10222 := by rw [eI10250, pp_ne _ _ (Or.inr (by decide))]; exact e10245
  have e10260 : I10250 (ad g 0) 51 = v10235 := by rw [eI10250, pp_ne _ _ (Or.inr (by decide))]; exact e10246
  have e10261 : I10250 (ad g 0) 19 = v10249 := by rw [eI10250, pp_self]
  have fr10262 : fs g [3, 4, 5, 6, 7, 8, 9, 15, 16, 17, 18, 19, 51] I I10250 := by rw [eI10250]; exact fs_pp0 fr10247 (by decide)
  have fr10263 : fz 49 g [0, 7, 14, 15, 16, 17, 18, 19, 27, 28, 29, 30, 31, 32, 33, 34] I I10250 := by rw [eI10250]; exact fzm_pp hy fr10248 (by decide) (by decide)
  clear eI10250
  refine WQ_iconst (0) (0) dX11_readTown_30 rfl rfl (fun v10264 hv10264 => ?_)
  refine WP_istore_n (ls' := [(0, _), (1, _)]) dX11_readTown_31 (by decide) rfl ?_
  have lp32_10273 : ∀ (mz : Nat) (i10265 : Int32) (I10266 : pI) (J10267 : pJ), MP g n L I10266 → fz 49 g [0, 7, 14, 15, 16, 17, 18, 19, 27, 28, 29, 30, 31, 32, 33, 34] I I10266 → fz 49 g [4, 5] J J10267 → fs g [3, 4, 5, 6, 7, 8, 9, 15, 16, 17, 18, 19, 51] I I10266 → ∀ (w10268 : Int32), I10266 (ad g 0) 2 = w10268 → ∀ (w10269 : Int32), I10266 (ad g 0) 3 = w10269 → ∀ (w10270 : Int32), I10266 (ad g 0) 4 = w10270 → ∀ (w10271 : Int32), I10266 (ad g 0) 5 = w10271 → ∀ (w10272 : Int32), I10266 (ad g 0) 15 = w10272 → ∀ (w10273 : Int32), I10266 (ad g 0) 17 = w10273 → 0 ≤ i10265.toInt → i10265.toInt ≤ 7 → w10270.toInt ≤ w10268.toInt → w10269.toInt ≤ w10270.toInt → (w10271.toInt = 0 ∨ w10269.toInt < w10270.toInt) → w10272.toInt = 0 → w10273.toInt = -1 → (8 - i10265.toInt).toNat < mz → WP g mX11_readTown 32 [(0, .ref (ad g 0)), (1, .int i10265)] [] I10266 J10267 R (fun r I' J' R' => (MP g n L I' ∧ R' = R ∧ fz 49 g [0, 7, 14, 15, 16, 17, 18, 19, 27, 28, 29, 30, 31, 32, 33, 34] I I' ∧ fz 49 g [4, 5] J J' ∧ fs g [3, 4, 5, 6, 7, 8, 9, 15, 16, 17, 18, 19, 51] I I') ∧ ∃ v : Int32, r = some (.int v) ∧ 0 ≤ v.toInt ∧ v.toInt ≤ 1 ∧ (v.toInt = 1 → (I' (ad g 0) 17).toInt < (I' (ad g 0) 15).toInt ∧ WRt (I' (ad g 30)) (I' (ad g 31)) (7 * (I' (ad g 0) 15).toInt))) := by
    intro mz
    induction mz with
    | zero =>
      intro i10265 I10266 J10267 hI10266 fiI10266 fjJ10267 fqI10266 w10268 ew10268 w10269 ew10269 w10270 ew10270 w10271 ew10271 w10272 ew10272 w10273 ew10273 ai10265 bi10265 j0_I10266 j1_I10266 j2_I10266 j3_I10266 j4_I10266 hmlp32_10273
      exact absurd hmlp32_10273 (Nat.not_lt_zero _)
    | succ mz ihlp32_10273 =>
      intro i10265 I10266 J10267 hI10266 fiI10266 fjJ10267 fqI10266 w10268 ew10268 w10269 ew10269 w10270 ew10270 w10271 ew10271 w10272 ew10272 w10273 ew10273 ai10265 bi10265 j0_I10266 j1_I10266 j2_I10266 j3_I10266 j4_I10266 hmlp32_10273
      have bw10268 := BT_get hI10266.1.1 0 2 3 (0) (0) (900) (by decide) 2 (by decide) (by decide)
      rw [ew10268] at bw10268
      have bw10269 := BT_get hI10266.1.1 0 3 4 (0) (0) (900) (by decide) 3 (by decide) (by decide)
      rw [ew10269] at bw10269
      have bw10270 := BT_get hI10266.1.1 0 4 5 (0) (0) (900) (by decide) 4 (by decide) (by decide)
      rw [ew10270] at bw10270
      have bw10271 := BT_get hI10266.1.1 0 5 6 (0) (0) (4) (by decide) 5 (by decide) (by decide)
      rw [ew10271] at bw10271
      have bw10272 := BT_get hI10266.1.1 0 15 16 (0) (0) (4) (by decide) 15 (by decide) (by decide)
      rw [ew10272] at bw10272
      have bw10273 := BT_get hI10266.1.1 0 17 18 (-1) (0) (3) (by decide) 17 (by decide) (by decide)
      rw [ew10273] at bw10273
      have e10275 : I10266 (ad g 0) 1 = L := hI10266.1.2
      have b10276 := BT_get hI10266.1.1 0 1 2 (0) (0) (900) (by decide) 1 (by decide) (by decide)
      rw [e10275] at b10276
      refine WP_iload_n dX11_readTown_32 rfl ?_
      refine WQ_bipush (7) (7) dX11_readTown_33 rfl rfl (fun v10277 hv10277 => ?_)
      refine WQ_icmp_ge 51 dX11_readTown_35 rfl (fun c10277 => ?_) (fun c10277 => ?_)
      · have lp51_10287 : ∀ (mz : Nat)  (I10279 : pI) (J10280 : pJ), MP g n L I10279 → fz 49 g [0, 7, 14, 15, 16, 17, 18, 19, 27, 28, 29, 30, 31, 32, 33, 34] I I10279 → fz 49 g [4, 5] J J10280 → fs g [3, 4, 5, 6, 7, 8, 9, 15, 16, 17, 18, 19, 51] I I10279 → ∀ (w10282 : Int32), I10279 (ad g 0) 2 = w10282 → ∀ (w10283 : Int32), I10279 (ad g 0) 3 = w10283 → ∀ (w10284 : Int32), I10279 (ad g 0) 4 = w10284 → ∀ (w10285 : Int32), I10279 (ad g 0) 5 = w10285 → ∀ (w10286 : Int32), I10279 (ad g 0) 15 = w10286 → ∀ (w10287 : Int32), I10279 (ad g 0) 17 = w10287 → w10284.toInt ≤ w10282.toInt → w10283.toInt ≤ w10284.toInt → (w10285.toInt = 0 ∨ w10283.toInt < w10284.toInt) → w10287.toInt < w10286.toInt → (WRt (I10279 (ad g 30)) (I10279 (ad g 31)) (7 * w10286.toInt)) → (901 - w10283.toInt).toNat < mz → WP g mX11_readTown 51 [(0, .ref (ad g 0)), (1, .int i10265)] [] I10279 J10280 R (fun r I' J' R' => (MP g n L I' ∧ R' = R ∧ fz 49 g [0, 7, 14, 15, 16, 17, 18, 19, 27, 28, 29, 30, 31, 32, 33, 34] I I' ∧ fz 49 g [4, 5] J J' ∧ fs g [3, 4, 5, 6, 7, 8, 9, 15, 16, 17, 18, 19, 51] I I') ∧ ∃ v : Int32, r = some (.int v) ∧ 0 ≤ v.toInt ∧ v.toInt ≤ 1 ∧ (v.toInt = 1 → (I' (ad g 0) 17).toInt < (I' (ad g 0) 15).toInt ∧ WRt (I' (ad g 30)) (I' (ad g 31)) (7 * (I' (ad g 0) 15).toInt))) := by
          intro mz
          induction mz with
          | zero =>
            intro  I10279 J10280 hI10279 fiI10279 fjJ10280 fqI10279 w10282 ew10282 w10283 ew10283 w10284 ew10284 w10285 ew10285 w10286 ew10286 w10287 ew10287 j0_I10279 j1_I10279 j2_I10279 j3_I10279 PW_I10279_10280 hmlp51_10287
            exact absurd hmlp51_10287 (Nat.not_lt_zero _)
          | succ mz ihlp51_10287 =>
            intro  I10279 J10280 hI10279 fiI10279 fjJ10280 fqI10279 w10282 ew10282 w10283 ew10283 w10284 ew10284 w10285 ew10285 w10286 ew10286 w10287 ew10287 j0_I10279 j1_I10279 j2_I10279 j3_I10279 PW_I10279_10280 hmlp51_10287
            have bw10282 := BT_get hI10279.1.1 0 2 3 (0) (0) (900) (by decide) 2 (by decide) (by decide)
            rw [ew10282] at bw10282
            have bw10283 := BT_get hI10279.1.1 0 3 4 (0) (0) (900) (by decide) 3 (by decide) (by decide)
            rw [ew10283] at bw10283
            have bw10284 := BT_get hI10279.1.1 0 4 5 (0) (0) (900) (by decide) 4 (by decide) (by decide)
            rw [ew10284] at bw10284
            have bw10285 := BT_get hI10279.1.1 0 5 6 (0) (0) (4) (by decide) 5 (by decide) (by decide)
            rw [ew10285] at bw10285
            have bw10286 := BT_get hI10279.1.1 0 15 16 (0) (0) (4) (by decide) 15 (by decide) (by decide)
            rw [ew10286] at bw10286
            have bw10287 := BT_get hI10279.1.1 0 17 18 (-1) (0) (3) (by decide) 17 (by decide) (by decide)
            rw [ew10287] at bw10287
            have e10289 : I10279 (ad g 0) 1 = L := hI10279.1.2
            have b10290 := BT_get hI10279.1.1 0 1 2 (0) (0) (900) (by decide) 1 (by decide) (by decide)
            rw [e10289] at b10290
            refine WP_aload_n dX11_readTown_51 rfl ?_
            refine WQ_getim dX11_readTown_52 fX11_27 rfl (ly_is hy 0 11 rfl) ew10285 ?_
            refine WQ_if_eq 87 dX11_readTown_55 rfl (fun c10290 => ?_) (fun c10290 => ?_)
            · refine WQ_iconst (1) (1) dX11_readTown_87 rfl rfl (fun v10292 hv10292 => ?_)
              exact WP_zret dX11_readTown_88 rfl (nar_z (by omega)) ⟨⟨hI10279, rfl, fiI10279, fjJ10280, fqI10279⟩, _, rfl, by omega, by omega, (fun _ => ⟨by rw [ew10287, ew10286]; omega, by rw [ew10286]; exact PW_I10279_10280⟩)⟩
            · refine WP_aload_n dX11_readTown_58 rfl ?_
              refine WP_callV0 (k := 11) dX11_readTown_59 ⟨⟨⟨by decide, by decide⟩, zX11_readClause⟩, lX11_210, by decide, rfl, vX11_readClause.1, vX11_readClause.2⟩ (ly_is hy 0 11 rfl) (sm_readClause hy hz hr hI10279   (by rw [ew10282, ew10283, ew10284, ew10285, ew10286, ew10287]; omega) (by rw [ew10286]; exact PW_I10279_10280)) (Nat.le_of_ble_eq_true rfl) ?_
              intro r I10293 J10294 Ra hq
              obtain ⟨⟨hI10293, ec, fiI10293, fjI10293, fqI10293, pI10293⟩, v10295, rfl, av10295, bv10295, cv10295⟩ := hq
              show WP _ _ _ _ (.int _ :: _) _ _ _ _
              rw [ec]
              clear ec Ra
              have fr10296 : fz 49 g [0, 7, 14, 15, 16, 17, 18, 19, 27, 28, 29, 30, 31, 32, 33, 34] I I10293 := fz_tr fiI10279 (fz_mono fiI10293 (by decide))
              have fr10297 : fs g [3, 4, 5, 6, 7, 8, 9, 15, 16, 17, 18, 19, 51] I I10293 := fs_tr fqI10279 (fs_mono fqI10293 (by decide))
              have fr10298 : fz 49 g [4, 5] J J10294 := fz_tr fjJ10280 (fz_mono fjI10293 (by decide))
              have e10299 : I10293 (ad g 0) 1 = L := hI10293.1.2
              have b10300 := BT_get hI10293.1.1 0 1 2 (0) (0) (900) (by decide) 1 (by decide) (by decide)
              rw [e10299] at b10300
              obtain ⟨w10301, ew10301⟩ : ∃ w : Int32, I10293 (ad g 0) 2 = w := ⟨_, rfl⟩
              have bw10301 := BT_get hI10293.1.1 0 2 3 (0) (0) (900) (by decide) 2 (by decide) (by decide)
              rw [ew10301] at bw10301
              obtain ⟨w10302, ew10302⟩ : ∃ w : Int32, I10293 (ad g 0) 3 = w := ⟨_, rfl⟩
              have bw10302 := BT_get hI10293.1.1 0 3 4 (0) (0) (900) (by decide) 3 (by decide) (by decide)
              rw [ew10302] at bw10302
              obtain ⟨w10303, ew10303⟩ : ∃ w : Int32, I10293 (ad g 0) 4 = w := ⟨_, rfl⟩
              have bw10303 := BT_get hI10293.1.1 0 4 5 (0) (0) (900) (by decide) 4 (by decide) (by decide)
              rw [ew10303] at bw10303
              obtain ⟨w10304, ew10304⟩ : ∃ w : Int32, I10293 (ad g 0) 5 = w := ⟨_, rfl⟩
              have bw10304 := BT_get hI10293.1.1 0 5 6 (0) (0) (4) (by decide) 5 (by decide) (by decide)
              rw [ew10304] at bw10304
              obtain ⟨w10305, ew10305⟩ : ∃ w : Int32, I10293 (ad g 0) 15 = w := ⟨_, rfl⟩
              have bw10305 := BT_get hI10293.1.1 0 15 16 (0) (0) (4) (by decide) 15 (by decide) (by decide)
              rw [ew10305] at bw10305
              obtain ⟨w10306, ew10306⟩ : ∃ w : Int32, I10293 (ad g 0) 17 = w := ⟨_, rfl⟩
              have bw10306 := BT_get hI10293.1.1 0 17 18 (-1) (0) (3) (by decide) 17 (by decide) (by decide)
              rw [ew10306] at bw10306
              rw [ew10301, ew10302, ew10303, ew10304, ew10305, ew10306, ew10283] at pI10293
              refine WQ_if_eq 72 dX11_readTown_62 rfl (fun c10306 => ?_) (fun c10306 => ?_)
              · refine WQ_iconst (0) (0) dX11_readTown_72 rfl rfl (fun v10308 hv10308 => ?_)
                exact WP_zret dX11_readTown_73 rfl (nar_z (by omega)) ⟨⟨hI10293, rfl, fr10296, fr10298, fr10297⟩, _, rfl, by omega, by omega, (fun h => False.elim (by omega))⟩
              · have W65_10308 := cv10295 (by omega)
                rw [ew10305] at W65_10308
                refine WP_aload_n dX11_readTown_65 rfl ?_
                refine WP_callV0 (k := 11) dX11_readTown_66 ⟨⟨⟨by decide, by decide⟩, zX11_close⟩, lX11_213, by decide, rfl, vX11_close.1, vX11_close.2⟩ (ly_is hy 0 11 rfl) (sm_closex hy hr hI10293   (by rw [ew10301, ew10302, ew10303, ew10304]; omega)) (Nat.le_of_ble_eq_true rfl) ?_
                intro r I10310 J10311 Ra hq
                obtain ⟨⟨hI10310, ec, fiI10310, fjI10310, fqI10310, ⟨pI10310, sI10310_0_15, sI10310_0_16, sI10310_0_17, sI10310_0_18⟩⟩, v10312, rfl, av10312, bv10312, cv10312⟩ := hq
                show WP _ _ _ _ (.int _ :: _) _ _ _ _
                rw [ec]
                clear ec Ra
                have fr10313 : fz 49 g [0, 7, 14, 15, 16, 17, 18, 19, 27, 28, 29, 30, 31, 32, 33, 34] I I10310 := fz_tr fr10296 (fz_mono fiI10310 (by decide))
                have fr10314 : fs g [3, 4, 5, 6, 7, 8, 9, 15, 16, 17, 18, 19, 51] I I10310 := fs_tr fr10297 (fs_mono fqI10310 (by decide))
                have fr10315 : fz 49 g [4, 5] J J10311 := fz_tr fr10298 (fz_mono fjI10310 (by decide))
                have WI10310 := W65_10308
                rw [← fz_at fiI10310 30 (by decide) (by decide), ← fz_at fiI10310 31 (by decide) (by decide)] at WI10310
                have e10316 : I10310 (ad g 0) 15 = w10305 := by rw [sI10310_0_15]; exact ew10305
                have e10317 : I10310 (ad g 0) 17 = w10306 := by rw [sI10310_0_17]; exact ew10306
                have e10318 : I10310 (ad g 0) 1 = L := hI10310.1.2
                have b10319 := BT_get hI10310.1.1 0 1 2 (0) (0) (900) (by decide) 1 (by decide) (by decide)
                rw [e10318] at b10319
                obtain ⟨w10320, ew10320⟩ : ∃ w : Int32, I10310 (ad g 0) 2 = w := ⟨_, rfl⟩
                have bw10320 := BT_get hI10310.1.1 0 2 3 (0) (0) (900) (by decide) 2 (by decide) (by decide)
                rw [ew10320] at bw10320
                obtain ⟨w10321, ew10321⟩ : ∃ w : Int32, I10310 (ad g 0) 3 = w := ⟨_, rfl⟩
                have bw10321 := BT_get hI10310.1.1 0 3 4 (0) (0) (900) (by decide) 3 (by decide) (by decide)
                rw [ew10321] at bw10321
                obtain ⟨w10322, ew10322⟩ : ∃ w : Int32, I10310 (ad g 0) 4 = w := ⟨_, rfl⟩
                have bw10322 := BT_get hI10310.1.1 0 4 5 (0) (0) (900) (by decide) 4 (by decide) (by decide)
                rw [ew10322] at bw10322
                obtain ⟨w10323, ew10323⟩ : ∃ w : Int32, I10310 (ad g 0) 5 = w := ⟨_, rfl⟩
                have bw10323 := BT_get hI10310.1.1 0 5 6 (0) (0) (4) (by decide) 5 (by decide) (by decide)
                rw [ew10323] at bw10323
                rw [ew10320, ew10321, ew10322, ew10323, ew10302] at pI10310
                rw [ew10321] at cv10312
                rw [ew10302] at cv10312
                refine WQ_if_ne 74 dX11_readTown_69 rfl (fun c10323 => ?_) (fun c10323 => ?_)
                · refine WP_aload_n dX11_readTown_74 rfl ?_
                  refine WP_dup dX11_readTown_75 rfl ?_
                  refine WQ_getiu dX11_readTown_76 fX11_207 rfl (ly_is hy 0 11 rfl) (fun v10325 ev10325 => ?_)
                  refine WQ_iconst (1) (1) dX11_readTown_79 rfl rfl (fun v10326 hv10326 => ?_)
                  refine WQ_iaddu dX11_readTown_80 (fun v10327 => ?_)
                  refine WQ_puti dX11_readTown_81 fX11_207 rfl rfl (ly_is hy 0 11 rfl) (fun I10328 eI10328 => ?_)
                  have hI10328 : MP g n L I10328 := by rw [eI10328]; exact (mp_w hy hI10310 (c := 0) (mi_f0 hy hI10310.1 (c := 0) (by decide) (Or.inr (by decide)) (by decide)) (by decide) (by decide) (Or.inr (by decide)))
                  have e10329 : I10328 (ad g 0) 15 = w10305 := by rw [eI10328, pp_ne _ _ (Or.inr (by decide))]; exact e10316
                  have e10330 : I10328 (ad g 0) 17 = w10306 := by rw [eI10328, pp_ne _ _ (Or.inr (by decide))]; exact e10317
                  have e10331 : I10328 (ad g 0) 1 = L := by rw [eI10328, pp_ne _ _ (Or.inr (by decide))]; exact e10318
                  have e10332 : I10328 (ad g 0) 2 = w10320 := by rw [eI10328, pp_ne _ _ (Or.inr (by decide))]; exact ew10320
                  have e10333 : I10328 (ad g 0) 3 = w10321 := by rw [eI10328, pp_ne _ _ (Or.inr (by decide))]; exact ew10321
                  have e10334 : I10328 (ad g 0) 4 = w10322 := by rw [eI10328, pp_ne _ _ (Or.inr (by decide))]; exact ew10322
                  have e10335 : I10328 (ad g 0) 5 = w10323 := by rw [eI10328, pp_ne _ _ (Or.inr (by decide))]; exact ew10323
                  have e10336 : I10328 (ad g 0) 19 = v10327 := by rw [eI10328, pp_self]
                  have fr10337 : fs g [3, 4, 5, 6, 7, 8, 9, 15, 16, 17, 18, 19, 51] I I10328 := by rw [eI10328]; exact fs_pp0 fr10314 (by decide)
                  have fr10338 : fz 49 g [0, 7, 14, 15, 16, 17, 18, 19, 27, 28, 29, 30, 31, 32, 33, 34] I I10328 := by rw [eI10328]; exact fzm_pp hy fr10313 (by decide) (by decide)
                  have WI10328 := WI10310
                  rw [← (show I10328 (ad g 30) = I10310 (ad g 30) by rw [eI10328, pp_off _ _ (ly_ne hy (by decide) (by decide) (by decide))]), ← (show I10328 (ad g 31) = I10310 (ad g 31) by rw [eI10328, pp_off _ _ (ly_ne hy (by decide) (by decide) (by decide))])] at WI10328
                  clear eI10328
                  refine WP_goto 51 dX11_readTown_84 rfl ?_
                  exact WP_sub (fc rfl (fc rfl fn)) (ihlp51_10287 I10328 J10311 hI10328 fr10338 fr10315 fr10337 w10320 e10332 w10321 e10333 w10322 e10334 w10323 e10335 w10305 e10329 w10306 e10330 (by omega) (by omega) (by omega) (by omega) WI10328 (by omega))
                · refine WQ_iconst (0) (0) dX11_readTown_72 rfl rfl (fun v10339 hv10339 => ?_)
                  exact WP_zret dX11_readTown_73 rfl (nar_z (by omega)) ⟨⟨hI10310, rfl, fr10313, fr10315, fr10314⟩, _, rfl, by omega, by omega, (fun h => False.elim (by omega))⟩
        exact WP_sub (fc rfl (fc rfl fn)) (lp51_10287 _ I10266 J10267 hI10266 fiI10266 fjJ10267 fqI10266 w10268 ew10268 w10269 ew10269 w10270 ew10270 w10271 ew10271 w10272 ew10272 w10273 ew10273 (by omega) (by omega) (by omega) (by omega) (WRt_0 (by omega)) (Nat.lt_succ_self _))
      · refine WP_aload_n dX11_readTown_38 rfl ?_
        refine WP_getr dX11_readTown_39 fX11_84 rfl (ly_is hy 0 11 rfl) (rf hr 0 25 7 (by decide)) ?_
        refine WP_iload_n dX11_readTown_42 rfl ?_
        refine WQ_iconst (0) (0) dX11_readTown_43 rfl rfl (fun v10340 hv10340 => ?_)
        refine WQ_iast dX11_readTown_44 (ly_is hy 7 13 rfl) (ly_n hy 7 7 rfl) (by omega) (by omega) (fun I10341 eI10341 => ?_)
        have hI10341 : MP g n L I10341 := by rw [eI10341]; exact (mp_w hy hI10266 (c := 7) (mi_r hy hI10266.1 (c := 7) (0) (0) (900) (by decide) (Or.inl (by decide)) (by decide) (by omega) (by omega)) (by decide) (by decide) (Or.inl (by decide)))
        have e10342 : I10341 (ad g 0) 2 = w10268 := by rw [eI10341, pp_ne _ _ (Or.inl (ly_ne hy (by decide) (by decide) (by decide)))]; exact ew10268
        have e10343 : I10341 (ad g 0) 3 = w10269 := by rw [eI10341, pp_ne _ _ (Or.inl (ly_ne hy (by decide) (by decide) (by decide)))]; exact ew10269
        have e10344 : I10341 (ad g 0) 4 = w10270 := by rw [eI10341, pp_ne _ _ (Or.inl (ly_ne hy (by decide) (by decide) (by decide)))]; exact ew10270
        have e10345 : I10341 (ad g 0) 5 = w10271 := by rw [eI10341, pp_ne _ _ (Or.inl (ly_ne hy (by decide) (by decide) (by decide)))]; exact ew10271
        have e10346 : I10341 (ad g 0) 15 = w10272 := by rw [eI10341, pp_ne _ _ (Or.inl (ly_ne hy (by decide) (by decide) (by decide)))]; exact ew10272
        have e10347 : I10341 (ad g 0) 17 = w10273 := by rw [eI10341, pp_ne _ _ (Or.inl (ly_ne hy (by decide) (by decide) (by decide)))]; exact ew10273
        have e10348 : I10341 (ad g 0) 1 = L := by rw [eI10341, pp_ne _ _ (Or.inl (ly_ne hy (by decide) (by decide) (by decide)))]; exact e10275
        have fr10349 : fs g [3, 4, 5, 6, 7, 8, 9, 15, 16, 17, 18, 19, 51] I I10341 := by rw [eI10341]; exact fs_ppn hy fqI10266 (by decide) (by decide)
        have fr10350 : fz 49 g [0, 7, 14, 15, 16, 17, 18, 19, 27, 28, 29, 30, 31, 32, 33, 34] I I10341 := by rw [eI10341]; exact fzm_pp hy fiI10266 (by decide) (by decide)
        clear eI10341
        refine WP_iinc (ls' := [(0, _), (1, _)]) dX11_readTown_45 rfl (by decide) rfl ?_
        have hv10351 : (i10265 + Int32.ofInt (1)).toInt = i10265.toInt + (1) := ia_n rfl (by omega) (by omega)
        generalize i10265 + Int32.ofInt (1) = v10351 at hv10351 ⊢
        refine WP_goto 32 dX11_readTown_48 rfl ?_
        exact WP_sub (fc rfl (fc rfl fn)) (ihlp32_10273 v10351 I10341 J10267 hI10341 fr10350 fjJ10267 fr10349 w10268 e10342 w10269 e10343 w10270 e10344 w10271 e10345 w10272 e10346 w10273 e10347 (by omega) (by omega) (by omega) (by omega) (by omega) (by omega) (by omega) (by omega))
  exact WP_sub (fc rfl (fc rfl fn)) (lp32_10273 _ v10264 I10250 J hI10250 fr10263 frj0 fr10262 w10185 e10252 w10186 e10253 w10187 e10254 w10188 e10255 v10189 e10256 v10210 e10258 (by omega) (by omega) (by omega) (by omega) (by omega) (by omega) (by omega) (Nat.lt_succ_self _))
set_option maxHeartbeats 4000000 in
set_option maxRecDepth 100000 in
theorem sm_openx {g : GG} {n : Int} {L : Int32} (hy : Ly g)  {I : pI} {J : pJ} {R : pR} (hr : Rf g R) (hI : MP g n L I)   : SP g mX11_open [.ref (ad g 0)] I J R (fun r I' J' R' => ((∃ L2 : Int32, MP g n L2 I' ∧ L2.toInt = 0) ∧ R' = R ∧ fz 49 g [0] I I' ∧ fz 49 g [] J J' ∧ fs g [1, 2, 3, 4, 5, 6, 8, 9] I I' ∧ ((I' (ad g 0) 4).toInt ≤ (I' (ad g 0) 2).toInt ∧ (I' (ad g 0) 3).toInt ≤ (I' (ad g 0) 4).toInt ∧ ((I' (ad g 0) 5).toInt = 0 ∨ (I' (ad g 0) 3).toInt < (I' (ad g 0) 4).toInt))) ∧ r = none) := by
  refine SP_of ⟨by decide, rfl⟩ (Nat.le_of_ble_eq_true rfl) ?_
  have e10352 : I (ad g 0) 1 = L := hI.1.2
  have b10353 := BT_get hI.1.1 0 1 2 (0) (0) (900) (by decide) 1 (by decide) (by decide)
  rw [e10352] at b10353
  have fr0 : fz 49 g [0] I I := fz_rf
  have frj0 : fz 49 g [] J J := fz_rf
  have frq0 : fs g [1, 2, 3, 4, 5, 6, 8, 9] I I := fs_rf
  refine WP_aload_n dX11_open_0 rfl ?_
  refine WP_aload_n dX11_open_1 rfl ?_
  refine WQ_getim dX11_open_2 fX11_75 rfl (ly_is hy 0 11 rfl) e10352 ?_
  refine WQ_puti dX11_open_5 fX11_13 rfl rfl (ly_is hy 0 11 rfl) (fun I10354 eI10354 => ?_)
  have hI10354 : MP g n L I10354 := by rw [eI10354]; exact (mp_w hy hI (c := 0) (mi_f hy hI.1 (c := 0) (0) (0) (900) (by decide) (Or.inr (by decide)) (by decide) (by omega) (by omega)) (by decide) (by decide) (Or.inr (by decide)))
  have e10355 : I10354 (ad g 0) 1 = L := by rw [eI10354, pp_ne _ _ (Or.inr (by decide))]; exact e10352
  have e10356 : I10354 (ad g 0) 2 = L := by rw [eI10354, pp_self]
  have fr10357 : fs g [1, 2, 3, 4, 5, 6, 8, 9] I I10354 := by rw [eI10354]; exact fs_pp0 frq0 (by decide)
  have fr10358 : fz 49 g [0] I I10354 := by rw [eI10354]; exact fzm_pp hy fr0 (by decide) (by decide)
  clear eI10354
  refine WP_aload_n dX11_open_8 rfl ?_
  refine WQ_iconst (0) (0) dX11_open_9 rfl rfl (fun v10359 hv10359 => ?_)
  refine WQ_puti dX11_open_10 fX11_75 rfl rfl (ly_is hy 0 11 rfl) (fun I10360 eI10360 => ?_)
  have hI10360 : MP g n v10359 I10360 := by rw [eI10360]; exact (mp_w hy hI10354 (c := 0) (mi_len hy hI10354.1 (by omega) (by omega)) (by decide) (by decide) (Or.inr (by decide)))
  have e10361 : I10360 (ad g 0) 2 = L := by rw [eI10360, pp_ne _ _ (Or.inr (by decide))]; exact e10356
  have e10362 : I10360 (ad g 0) 1 = v10359 := by rw [eI10360, pp_self]
  have fr10363 : fs g [1, 2, 3, 4, 5, 6, 8, 9] I I10360 := by rw [eI10360]; exact fs_pp0 fr10357 (by decide)
  have fr10364 : fz 49 g [0] I I10360 := by rw [eI10360]; exact fzm_pp hy fr10358 (by decide) (by decide)
  clear eI10360
  refine WP_aload_n dX11_open_13 rfl ?_
  refine WQ_iconst (0) (0) dX11_open_14 rfl rfl (fun v10365 hv10365 => ?_)
  refine WQ_puti dX11_open_15 fX11_20 rfl rfl (ly_is hy 0 11 rfl) (fun I10366 eI10366 => ?_)
  have hI10366 : MP g n v10359 I10366 := by rw [eI10366]; exact (mp_w hy hI10360 (c := 0) (mi_f hy hI10360.1 (c := 0) (0) (0) (900) (by decide) (Or.inr (by decide)) (by decide) (by omega) (by omega)) (by decide) (by decide) (Or.inr (by decide)))
  have e10367 : I10366 (ad g 0) 2 = L := by rw [eI10366, pp_ne _ _ (Or.inr (by decide))]; exact e10361
  have e10368 : I10366 (ad g 0) 1 = v10359 := by rw [eI10366, pp_ne _ _ (Or.inr (by decide))]; exact e10362
  have e10369 : I10366 (ad g 0) 4 = v10365 := by rw [eI10366, pp_self]
  have fr10370 : fs g [1, 2, 3, 4, 5, 6, 8, 9] I I10366 := by rw [eI10366]; exact fs_pp0 fr10363 (by decide)
  have fr10371 : fz 49 g [0] I I10366 := by rw [eI10366]; exact fzm_pp hy fr10364 (by decide) (by decide)
  clear eI10366
  refine WP_aload_n dX11_open_18 rfl ?_
  refine WQ_iconst (0) (0) dX11_open_19 rfl rfl (fun v10372 hv10372 => ?_)
  refine WQ_puti dX11_open_20 fX11_3 rfl rfl (ly_is hy 0 11 rfl) (fun I10373 eI10373 => ?_)
  have hI10373 : MP g n v10359 I10373 := by rw [eI10373]; exact (mp_w hy hI10366 (c := 0) (mi_f0 hy hI10366.1 (c := 0) (by decide) (Or.inr (by decide)) (by decide)) (by decide) (by decide) (Or.inr (by decide)))
  have e10374 : I10373 (ad g 0) 2 = L := by rw [eI10373, pp_ne _ _ (Or.inr (by decide))]; exact e10367
  have e10375 : I10373 (ad g 0) 1 = v10359 := by rw [eI10373, pp_ne _ _ (Or.inr (by decide))]; exact e10368
  have e10376 : I10373 (ad g 0) 4 = v10365 := by rw [eI10373, pp_ne _ _ (Or.inr (by decide))]; exact e10369
  have e10377 : I10373 (ad g 0) 8 = v10372 := by rw [eI10373, pp_self]
  have fr10378 : fs g [1, 2, 3, 4, 5, 6, 8, 9] I I10373 := by rw [eI10373]; exact fs_pp0 fr10370 (by decide)
  have fr10379 : fz 49 g [0] I I10373 := by rw [eI10373]; exact fzm_pp hy fr10371 (by decide) (by decide)
  clear eI10373
  refine WP_aload_n dX11_open_23 rfl ?_
  refine WQ_iconst (-1) (-1) dX11_open_24 rfl rfl (fun v10380 hv10380 => ?_)
  refine WQ_puti dX11_open_25 fX11_10 rfl rfl (ly_is hy 0 11 rfl) (fun I10381 eI10381 => ?_)
  have hI10381 : MP g n v10359 I10381 := by rw [eI10381]; exact (mp_w hy hI10373 (c := 0) (mi_f0 hy hI10373.1 (c := 0) (by decide) (Or.inr (by decide)) (by decide)) (by decide) (by decide) (Or.inr (by decide)))
  have e10382 : I10381 (ad g 0) 2 = L := by rw [eI10381, pp_ne _ _ (Or.inr (by decide))]; exact e10374
  have e10383 : I10381 (ad g 0) 1 = v10359 := by rw [eI10381, pp_ne _ _ (Or.inr (by decide))]; exact e10375
  have e10384 : I10381 (ad g 0) 4 = v10365 := by rw [eI10381, pp_ne _ _ (Or.inr (by decide))]; exact e10376
  have e10385 : I10381 (ad g 0) 8 = v10372 := by rw [eI10381, pp_ne _ _ (Or.inr (by decide))]; exact e10377
  have e10386 : I10381 (ad g 0) 9 = v10380 := by rw [eI10381, pp_self]
  have fr10387 : fs g [1, 2, 3, 4, 5, 6, 8, 9] I I10381 := by rw [eI10381]; exact fs_pp0 fr10378 (by decide)
  have fr10388 : fz 49 g [0] I I10381 := by rw [eI10381]; exact fzm_pp hy fr10379 (by decide) (by decide)
  clear eI10381
  refine WP_aload_n dX11_open_28 rfl ?_
  refine WP_callV0 (k := 11) dX11_open_29 ⟨⟨⟨by decide, by decide⟩, zX11_scan⟩, lX11_63, by decide, rfl, vX11_scan.1, vX11_scan.2⟩ (ly_is hy 0 11 rfl) (sm_scanx hy hr hI10381   (by rw [e10384, e10382]; omega)) (Nat.le_of_ble_eq_true rfl) ?_
  intro r I10389 J10390 Ra hq
  obtain ⟨⟨hI10389, ec, fiI10389, fjI10389, fqI10389, ⟨pI10389, sI10389_0_7, sI10389_0_15, sI10389_0_16, sI10389_0_17, sI10389_0_18⟩⟩, rfl⟩ := hq
  rw [ec]
  clear ec Ra
  have fr10391 : fz 49 g [0] I I10389 := fz_tr fr10388 (fz_mono fiI10389 (by decide))
  have fr10392 : fs g [1, 2, 3, 4, 5, 6, 8, 9] I I10389 := fs_tr fr10387 (fs_mono fqI10389 (by decide))
  have fr10393 : fz 49 g [] J J10390 := fz_tr frj0 (fz_mono fjI10389 (by decide))
  have e10394 : I10389 (ad g 0) 1 = v10359 := hI10389.1.2
  have b10395 := BT_get hI10389.1.1 0 1 2 (0) (0) (900) (by decide) 1 (by decide) (by decide)
  rw [e10394] at b10395
  obtain ⟨w10396, ew10396⟩ : ∃ w : Int32, I10389 (ad g 0) 2 = w := ⟨_, rfl⟩
  have bw10396 := BT_get hI10389.1.1 0 2 3 (0) (0) (900) (by decide) 2 (by decide) (by decide)
  rw [ew10396] at bw10396
  obtain ⟨w10397, ew10397⟩ : ∃ w : Int32, I10389 (ad g 0) 3 = w := ⟨_, rfl⟩
  have bw10397 := BT_get hI10389.1.1 0 3 4 (0) (0) (900) (by decide) 3 (by decide) (by decide)
  rw [ew10397] at bw10397
  obtain ⟨w10398, ew10398⟩ : ∃ w : Int32, I10389 (ad g 0) 4 = w := ⟨_, rfl⟩
  have bw10398 := BT_get hI10389.1.1 0 4 5 (0) (0) (900) (by decide) 4 (by decide) (by decide)
  rw [ew10398] at bw10398
  obtain ⟨w10399, ew10399⟩ : ∃ w : Int32, I10389 (ad g 0) 5 = w := ⟨_, rfl⟩
  have bw10399 := BT_get hI10389.1.1 0 5 6 (0) (0) (4) (by decide) 5 (by decide) (by decide)
  rw [ew10399] at bw10399
  rw [ew10396, ew10397, ew10398, ew10399, e10384] at pI10389
  exact WP_vret dX11_open_32 rfl ⟨⟨⟨_, hI10389, by omega⟩, rfl, fr10391, fr10393, fr10392, (by rw [ew10396, ew10397, ew10398, ew10399]; omega)⟩, rfl⟩
set_option maxHeartbeats 4000000 in
set_option maxRecDepth 100000 in
theorem sm_book {g : GG} {n : Int} {L : Int32} (hy : Ly g)  {I : pI} {J : pJ} {R : pR} (hr : Rf g R) (hI : MP g n L I)   : SP g mX11_book [.ref (ad g 0)] I J R (fun r I' J' R' => ((∃ L2 : Int32, MP g n L2 I' ∧ L2.toInt = 0) ∧ R' = R ∧ fz 49 g [0] I I' ∧ fz 49 g [] J J' ∧ fs g [1, 2, 3, 4, 5, 6, 7, 8, 9] I I') ∧ ∃ v : Int32, r = some (.int v)) := by
  refine SP_of ⟨by decide, rfl⟩ (Nat.le_of_ble_eq_true rfl) ?_
  have e10400 : I (ad g 0) 1 = L := hI.1.2
  have b10401 := BT_get hI.1.1 0 1 2 (0) (0) (900) (by decide) 1 (by decide) (by decide)
  rw [e10400] at b10401
  have fr0 : fz 49 g [0] I I := fz_rf
  have frj0 : fz 49 g [] J J := fz_rf
  have frq0 : fs g [1, 2, 3, 4, 5, 6, 7, 8, 9] I I := fs_rf
  refine WP_aload_n dX11_book_0 rfl ?_
  refine WP_callV0 (k := 11) dX11_book_1 ⟨⟨⟨by decide, by decide⟩, zX11_open⟩, lX11_323, by decide, rfl, vX11_open.1, vX11_open.2⟩ (ly_is hy 0 11 rfl) (sm_openx hy hr hI  ) (Nat.le_of_ble_eq_true rfl) ?_
  intro r I10402 J10403 Ra hq
  obtain ⟨⟨⟨L10404, hI10402, qL10404⟩, ec, fiI10402, fjI10402, fqI10402, pI10402⟩, rfl⟩ := hq
  rw [ec]
  clear ec Ra
  have fr10405 : fz 49 g [0] I I10402 := fz_tr fr0 (fz_mono fiI10402 (by decide))
  have fr10406 : fs g [1, 2, 3, 4, 5, 6, 7, 8, 9] I I10402 := fs_tr frq0 (fs_mono fqI10402 (by decide))
  have fr10407 : fz 49 g [] J J10403 := fz_tr frj0 (fz_mono fjI10402 (by decide))
  have e10408 : I10402 (ad g 0) 1 = L10404 := hI10402.1.2
  have b10409 := BT_get hI10402.1.1 0 1 2 (0) (0) (900) (by decide) 1 (by decide) (by decide)
  rw [e10408] at b10409
  obtain ⟨w10410, ew10410⟩ : ∃ w : Int32, I10402 (ad g 0) 2 = w := ⟨_, rfl⟩
  have bw10410 := BT_get hI10402.1.1 0 2 3 (0) (0) (900) (by decide) 2 (by decide) (by decide)
  rw [ew10410] at bw10410
  obtain ⟨w10411, ew10411⟩ : ∃ w : Int32, I10402 (ad g 0) 3 = w := ⟨_, rfl⟩
  have bw10411 := BT_get hI10402.1.1 0 3 4 (0) (0) (900) (by decide) 3 (by decide) (by decide)
  rw [ew10411] at bw10411
  obtain ⟨w10412, ew10412⟩ : ∃ w : Int32, I10402 (ad g 0) 4 = w := ⟨_, rfl⟩
  have bw10412 := BT_get hI10402.1.1 0 4 5 (0) (0) (900) (by decide) 4 (by decide) (by decide)
  rw [ew10412] at bw10412
  obtain ⟨w10413, ew10413⟩ : ∃ w : Int32, I10402 (ad g 0) 5 = w := ⟨_, rfl⟩
  have bw10413 := BT_get hI10402.1.1 0 5 6 (0) (0) (4) (by decide) 5 (by decide) (by decide)
  rw [ew10413] at bw10413
  rw [ew10410, ew10411, ew10412, ew10413] at pI10402
  refine WQ_bipush (-3) (-3) dX11_book_4 rfl rfl (fun v10414 hv10414 => ?_)
  refine WP_istore_n (ls' := [(0, _), (1, _)]) dX11_book_6 (by decide) rfl ?_
  refine WQ_iconst (0) (0) dX11_book_7 rfl rfl (fun v10415 hv10415 => ?_)
  refine WP_istore_n (ls' := [(0, _), (1, _), (2, _)]) dX11_book_8 (by decide) rfl ?_
  have lp9_10423 : ∀ (mz : Nat) (i10416 : Int32) (i10417 : Int32) (I10418 : pI) (J10419 : pJ), MP g n L10404 I10418 → fz 49 g [0] I I10418 → fz 49 g [] J J10419 → fs g [1, 2, 3, 4, 5, 6, 7, 8, 9] I I10418 → ∀ (w10420 : Int32), I10418 (ad g 0) 2 = w10420 → ∀ (w10421 : Int32), I10418 (ad g 0) 3 = w10421 → ∀ (w10422 : Int32), I10418 (ad g 0) 4 = w10422 → ∀ (w10423 : Int32), I10418 (ad g 0) 5 = w10423 → w10422.toInt ≤ w10420.toInt → w10421.toInt ≤ w10422.toInt → (w10423.toInt = 0 ∨ w10421.toInt < w10422.toInt) → (901 - w10421.toInt).toNat < mz → WP g mX11_book 9 [(0, .ref (ad g 0)), (1, .int i10416), (2, .int i10417)] [] I10418 J10419 R (fun r I' J' R' => ((∃ L2 : Int32, MP g n L2 I' ∧ L2.toInt = 0) ∧ R' = R ∧ fz 49 g [0] I I' ∧ fz 49 g [] J J' ∧ fs g [1, 2, 3, 4, 5, 6, 7, 8, 9] I I') ∧ ∃ v : Int32, r = some (.int v)) := by
    intro mz
    induction mz with
    | zero =>
      intro i10416 i10417 I10418 J10419 hI10418 fiI10418 fjJ10419 fqI10418 w10420 ew10420 w10421 ew10421 w10422 ew10422 w10423 ew10423 j0_I10418 j1_I10418 j2_I10418 hmlp9_10423
      exact absurd hmlp9_10423 (Nat.not_lt_zero _)
    | succ mz ihlp9_10423 =>
      intro i10416 i10417 I10418 J10419 hI10418 fiI10418 fjJ10419 fqI10418 w10420 ew10420 w10421 ew10421 w10422 ew10422 w10423 ew10423 j0_I10418 j1_I10418 j2_I10418 hmlp9_10423
      have bw10420 := BT_get hI10418.1.1 0 2 3 (0) (0) (900) (by decide) 2 (by decide) (by decide)
      rw [ew10420] at bw10420
      have bw10421 := BT_get hI10418.1.1 0 3 4 (0) (0) (900) (by decide) 3 (by decide) (by decide)
      rw [ew10421] at bw10421
      have bw10422 := BT_get hI10418.1.1 0 4 5 (0) (0) (900) (by decide) 4 (by decide) (by decide)
      rw [ew10422] at bw10422
      have bw10423 := BT_get hI10418.1.1 0 5 6 (0) (0) (4) (by decide) 5 (by decide) (by decide)
      rw [ew10423] at bw10423
      have e10425 : I10418 (ad g 0) 1 = L10404 := hI10418.1.2
      have b10426 := BT_get hI10418.1.1 0 1 2 (0) (0) (900) (by decide) 1 (by decide) (by decide)
      rw [e10425] at b10426
      refine WP_aload_n dX11_book_9 rfl ?_
      refine WQ_getim dX11_book_10 fX11_27 rfl (ly_is hy 0 11 rfl) ew10423 ?_
      refine WQ_if_eq 153 dX11_book_13 rfl (fun c10426 => ?_) (fun c10426 => ?_)
      · refine WP_iload_n dX11_book_153 rfl ?_
        exact WP_iret dX11_book_154 rfl ⟨⟨⟨_, hI10418, by omega⟩, rfl, fiI10418, fjJ10419, fqI10418⟩, _, rfl⟩
      · refine WP_aload_n dX11_book_16 rfl ?_
        refine WP_aload_n dX11_book_17 rfl ?_
        refine WP_getr dX11_book_18 fX11_227 rfl (ly_is hy 0 11 rfl) (rf hr 0 20 2 (by decide)) ?_
        refine WP_aload_n dX11_book_21 rfl ?_
        refine WQ_geti dX11_book_22 fX11_329 rfl (ly_is hy 0 11 rfl) (BT_get hI10418.1.1 0 10 11 (0) (0) (4) (by decide) 10 (by decide) (by decide)) (fun v10428 ev10428 av10428 bv10428 => ?_)
        refine WP_callV2 (k := 11) dX11_book_25 ⟨⟨⟨by decide, by decide⟩, zX11_known⟩, lX11_147, by decide, rfl, vX11_known.1, vX11_known.2⟩ (ly_is hy 0 11 rfl) (sm_knownx_2 hy hr hI10418 v10428 (by omega) (by omega) (by rw [ew10420, ew10421, ew10422, ew10423]; omega)) (Nat.le_of_ble_eq_true rfl) ?_
        intro r I10429 J10430 Ra hq
        obtain ⟨⟨hI10429, ec, fiI10429, fjI10429, fqI10429, ⟨pI10429, sI10429_0_15, sI10429_0_16, sI10429_0_17, sI10429_0_18⟩⟩, v10431, rfl, av10431, bv10431, cv10431⟩ := hq
        show WP _ _ _ _ (.int _ :: _) _ _ _ _
        rw [ec]
        clear ec Ra
        have fr10432 : fz 49 g [0] I I10429 := fz_tr fiI10418 (fz_mono fiI10429 (by decide))
        have fr10433 : fs g [1, 2, 3, 4, 5, 6, 7, 8, 9] I I10429 := fs_tr fqI10418 (fs_mono fqI10429 (by decide))
        have fr10434 : fz 49 g [] J J10430 := fz_tr fjJ10419 (fz_mono fjI10429 (by decide))
        have e10435 : I10429 (ad g 0) 1 = L10404 := hI10429.1.2
        have b10436 := BT_get hI10429.1.1 0 1 2 (0) (0) (900) (by decide) 1 (by decide) (by decide)
        rw [e10435] at b10436
        obtain ⟨w10437, ew10437⟩ : ∃ w : Int32, I10429 (ad g 0) 2 = w := ⟨_, rfl⟩
        have bw10437 := BT_get hI10429.1.1 0 2 3 (0) (0) (900) (by decide) 2 (by decide) (by decide)
        rw [ew10437] at bw10437
        obtain ⟨w10438, ew10438⟩ : ∃ w : Int32, I10429 (ad g 0) 3 = w := ⟨_, rfl⟩
        have bw10438 := BT_get hI10429.1.1 0 3 4 (0) (0) (900) (by decide) 3 (by decide) (by decide)
        rw [ew10438] at bw10438
        obtain ⟨w10439, ew10439⟩ : ∃ w : Int32, I10429 (ad g 0) 4 = w := ⟨_, rfl⟩
        have bw10439 := BT_get hI10429.1.1 0 4 5 (0) (0) (900) (by decide) 4 (by decide) (by decide)
        rw [ew10439] at bw10439
        obtain ⟨w10440, ew10440⟩ : ∃ w : Int32, I10429 (ad g 0) 5 = w := ⟨_, rfl⟩
        have bw10440 := BT_get hI10429.1.1 0 5 6 (0) (0) (4) (by decide) 5 (by decide) (by decide)
        rw [ew10440] at bw10440
        rw [ew10437, ew10438, ew10439, ew10440, ew10421] at pI10429
        obtain ⟨w10441, ew10441⟩ : ∃ w : Int32, I10429 (ad g 0) 7 = w := ⟨_, rfl⟩
        have bw10441 := BT_get hI10429.1.1 0 7 8 (-1) (0) (1000) (by decide) 7 (by decide) (by decide)
        rw [ew10441] at bw10441
        rw [ew10441] at cv10431
        refine WQ_if_ne 33 dX11_book_28 rfl (fun c10441 => ?_) (fun c10441 => ?_)
        · refine WP_aload_n dX11_book_33 rfl ?_
          refine WQ_getim dX11_book_34 fX11_56 rfl (ly_is hy 0 11 rfl) ew10441 ?_
          refine WP_istore_n (ls' := [(0, _), (1, _), (2, _), (3, _)]) dX11_book_37 (by decide) rfl ?_
          refine WP_aload_n dX11_book_38 rfl ?_
          refine WP_aload_n dX11_book_39 rfl ?_
          refine WP_getr dX11_book_40 fX11_230 rfl (ly_is hy 0 11 rfl) (rf hr 0 21 3 (by decide)) ?_
          refine WP_aload_n dX11_book_43 rfl ?_
          refine WQ_geti dX11_book_44 fX11_332 rfl (ly_is hy 0 11 rfl) (BT_get hI10429.1.1 0 11 12 (0) (0) (3) (by decide) 11 (by decide) (by decide)) (fun v10443 ev10443 av10443 bv10443 => ?_)
          refine WP_callV2 (k := 11) dX11_book_47 ⟨⟨⟨by decide, by decide⟩, zX11_known⟩, lX11_147, by decide, rfl, vX11_known.1, vX11_known.2⟩ (ly_is hy 0 11 rfl) (sm_knownx_3 hy hr hI10429 v10443 (by omega) (by omega) (by rw [ew10437, ew10438, ew10439, ew10440]; omega)) (Nat.le_of_ble_eq_true rfl) ?_
          intro r I10444 J10445 Ra hq
          obtain ⟨⟨hI10444, ec, fiI10444, fjI10444, fqI10444, ⟨pI10444, sI10444_0_15, sI10444_0_16, sI10444_0_17, sI10444_0_18⟩⟩, v10446, rfl, av10446, bv10446, cv10446⟩ := hq
          show WP _ _ _ _ (.int _ :: _) _ _ _ _
          rw [ec]
          clear ec Ra
          have fr10447 : fz 49 g [0] I I10444 := fz_tr fr10432 (fz_mono fiI10444 (by decide))
          have fr10448 : fs g [1, 2, 3, 4, 5, 6, 7, 8, 9] I I10444 := fs_tr fr10433 (fs_mono fqI10444 (by decide))
          have fr10449 : fz 49 g [] J J10445 := fz_tr fr10434 (fz_mono fjI10444 (by decide))
          have e10450 : I10444 (ad g 0) 1 = L10404 := hI10444.1.2
          have b10451 := BT_get hI10444.1.1 0 1 2 (0) (0) (900) (by decide) 1 (by decide) (by decide)
          rw [e10450] at b10451
          obtain ⟨w10452, ew10452⟩ : ∃ w : Int32, I10444 (ad g 0) 2 = w := ⟨_, rfl⟩
          have bw10452 := BT_get hI10444.1.1 0 2 3 (0) (0) (900) (by decide) 2 (by decide) (by decide)
          rw [ew10452] at bw10452
          obtain ⟨w10453, ew10453⟩ : ∃ w : Int32, I10444 (ad g 0) 3 = w := ⟨_, rfl⟩
          have bw10453 := BT_get hI10444.1.1 0 3 4 (0) (0) (900) (by decide) 3 (by decide) (by decide)
          rw [ew10453] at bw10453
          obtain ⟨w10454, ew10454⟩ : ∃ w : Int32, I10444 (ad g 0) 4 = w := ⟨_, rfl⟩
          have bw10454 := BT_get hI10444.1.1 0 4 5 (0) (0) (900) (by decide) 4 (by decide) (by decide)
          rw [ew10454] at bw10454
          obtain ⟨w10455, ew10455⟩ : ∃ w : Int32, I10444 (ad g 0) 5 = w := ⟨_, rfl⟩
          have bw10455 := BT_get hI10444.1.1 0 5 6 (0) (0) (4) (by decide) 5 (by decide) (by decide)
          rw [ew10455] at bw10455
          rw [ew10452, ew10453, ew10454, ew10455, ew10438] at pI10444
          obtain ⟨w10456, ew10456⟩ : ∃ w : Int32, I10444 (ad g 0) 7 = w := ⟨_, rfl⟩
          have bw10456 := BT_get hI10444.1.1 0 7 8 (-1) (0) (1000) (by decide) 7 (by decide) (by decide)
          rw [ew10456] at bw10456
          rw [ew10456] at cv10446
          refine WQ_if_ne 55 dX11_book_50 rfl (fun c10456 => ?_) (fun c10456 => ?_)
          · refine WP_aload_n dX11_book_55 rfl ?_
            refine WQ_getim dX11_book_56 fX11_56 rfl (ly_is hy 0 11 rfl) ew10456 ?_
            refine WP_istore (ls' := [(0, _), (1, _), (2, _), (3, _), (4, _)]) dX11_book_59 (by decide) rfl ?_
            refine WP_aload_n dX11_book_61 rfl ?_
            refine WQ_iconst (0) (0) dX11_book_62 rfl rfl (fun v10458 hv10458 => ?_)
            refine WQ_bipush (6) (6) dX11_book_63 rfl rfl (fun v10459 hv10459 => ?_)
            refine WP_callV2 (k := 11) dX11_book_65 ⟨⟨⟨by decide, by decide⟩, zX11_number⟩, lX11_81, by decide, rfl, vX11_number.1, vX11_number.2⟩ (ly_is hy 0 11 rfl) (sm_numberx hy hr hI10444 v10458 v10459 (by omega) (by omega) (by omega) (by omega) (by rw [ew10452, ew10453, ew10454, ew10455]; omega)) (Nat.le_of_ble_eq_true rfl) ?_
            intro r I10460 J10461 Ra hq
            obtain ⟨⟨hI10460, ec, fiI10460, fjI10460, fqI10460, ⟨pI10460, sI10460_0_15, sI10460_0_16, sI10460_0_17, sI10460_0_18⟩⟩, v10462, rfl, av10462, bv10462, cv10462⟩ := hq
            show WP _ _ _ _ (.int _ :: _) _ _ _ _
            rw [ec]
            clear ec Ra
            have fr10463 : fz 49 g [0] I I10460 := fz_tr fr10447 (fz_mono fiI10460 (by decide))
            have fr10464 : fs g [1, 2, 3, 4, 5, 6, 7, 8, 9] I I10460 := fs_tr fr10448 (fs_mono fqI10460 (by decide))
            have fr10465 : fz 49 g [] J J10461 := fz_tr fr10449 (fz_mono fjI10460 (by decide))
            have e10466 : I10460 (ad g 0) 1 = L10404 := hI10460.1.2
            have b10467 := BT_get hI10460.1.1 0 1 2 (0) (0) (900) (by decide) 1 (by decide) (by decide)
            rw [e10466] at b10467
            obtain ⟨w10468, ew10468⟩ : ∃ w : Int32, I10460 (ad g 0) 2 = w := ⟨_, rfl⟩
            have bw10468 := BT_get hI10460.1.1 0 2 3 (0) (0) (900) (by decide) 2 (by decide) (by decide)
            rw [ew10468] at bw10468
            obtain ⟨w10469, ew10469⟩ : ∃ w : Int32, I10460 (ad g 0) 3 = w := ⟨_, rfl⟩
            have bw10469 := BT_get hI10460.1.1 0 3 4 (0) (0) (900) (by decide) 3 (by decide) (by decide)
            rw [ew10469] at bw10469
            obtain ⟨w10470, ew10470⟩ : ∃ w : Int32, I10460 (ad g 0) 4 = w := ⟨_, rfl⟩
            have bw10470 := BT_get hI10460.1.1 0 4 5 (0) (0) (900) (by decide) 4 (by decide) (by decide)
            rw [ew10470] at bw10470
            obtain ⟨w10471, ew10471⟩ : ∃ w : Int32, I10460 (ad g 0) 5 = w := ⟨_, rfl⟩
            have bw10471 := BT_get hI10460.1.1 0 5 6 (0) (0) (4) (by decide) 5 (by decide) (by decide)
            rw [ew10471] at bw10471
            rw [ew10468, ew10469, ew10470, ew10471, ew10453] at pI10460
            obtain ⟨w10472, ew10472⟩ : ∃ w : Int32, I10460 (ad g 0) 7 = w := ⟨_, rfl⟩
            have bw10472 := BT_get hI10460.1.1 0 7 8 (-1) (0) (1000) (by decide) 7 (by decide) (by decide)
            rw [ew10472] at bw10472
            rw [ew10472] at cv10462
            refine WQ_if_ne 73 dX11_book_68 rfl (fun c10472 => ?_) (fun c10472 => ?_)
            · refine WP_aload_n dX11_book_73 rfl ?_
              refine WQ_getim dX11_book_74 fX11_56 rfl (ly_is hy 0 11 rfl) ew10472 ?_
              refine WP_istore (ls' := [(0, _), (1, _), (2, _), (3, _), (4, _), (5, _)]) dX11_book_77 (by decide) rfl ?_
              refine WP_aload_n dX11_book_79 rfl ?_
              refine WQ_iconst (1) (1) dX11_book_80 rfl rfl (fun v10474 hv10474 => ?_)
              refine WQ_iconst (3) (3) dX11_book_81 rfl rfl (fun v10475 hv10475 => ?_)
              refine WP_callV2 (k := 11) dX11_book_82 ⟨⟨⟨by decide, by decide⟩, zX11_number⟩, lX11_81, by decide, rfl, vX11_number.1, vX11_number.2⟩ (ly_is hy 0 11 rfl) (sm_numberx hy hr hI10460 v10474 v10475 (by omega) (by omega) (by omega) (by omega) (by rw [ew10468, ew10469, ew10470, ew10471]; omega)) (Nat.le_of_ble_eq_true rfl) ?_
              intro r I10476 J10477 Ra hq
              obtain ⟨⟨hI10476, ec, fiI10476, fjI10476, fqI10476, ⟨pI10476, sI10476_0_15, sI10476_0_16, sI10476_0_17, sI10476_0_18⟩⟩, v10478, rfl, av10478, bv10478, cv10478⟩ := hq
              show WP _ _ _ _ (.int _ :: _) _ _ _ _
              rw [ec]
              clear ec Ra
              have fr10479 : fz 49 g [0] I I10476 := fz_tr fr10463 (fz_mono fiI10476 (by decide))
              have fr10480 : fs g [1, 2, 3, 4, 5, 6, 7, 8, 9] I I10476 := fs_tr fr10464 (fs_mono fqI10476 (by decide))
              have fr10481 : fz 49 g [] J J10477 := fz_tr fr10465 (fz_mono fjI10476 (by decide))
              have e10482 : I10476 (ad g 0) 1 = L10404 := hI10476.1.2
              have b10483 := BT_get hI10476.1.1 0 1 2 (0) (0) (900) (by decide) 1 (by decide) (by decide)
              rw [e10482] at b10483
              obtain ⟨w10484, ew10484⟩ : ∃ w : Int32, I10476 (ad g 0) 2 = w := ⟨_, rfl⟩
              have bw10484 := BT_get hI10476.1.1 0 2 3 (0) (0) (900) (by decide) 2 (by decide) (by decide)
              rw [ew10484] at bw10484
              obtain ⟨w10485, ew10485⟩ : ∃ w : Int32, I10476 (ad g 0) 3 = w := ⟨_, rfl⟩
              have bw10485 := BT_get hI10476.1.1 0 3 4 (0) (0) (900) (by decide) 3 (by decide) (by decide)
              rw [ew10485] at bw10485
              obtain ⟨w10486, ew10486⟩ : ∃ w : Int32, I10476 (ad g 0) 4 = w := ⟨_, rfl⟩
              have bw10486 := BT_get hI10476.1.1 0 4 5 (0) (0) (900) (by decide) 4 (by decide) (by decide)
              rw [ew10486] at bw10486
              obtain ⟨w10487, ew10487⟩ : ∃ w : Int32, I10476 (ad g 0) 5 = w := ⟨_, rfl⟩
              have bw10487 := BT_get hI10476.1.1 0 5 6 (0) (0) (4) (by decide) 5 (by decide) (by decide)
              rw [ew10487] at bw10487
              rw [ew10484, ew10485, ew10486, ew10487, ew10469] at pI10476
              obtain ⟨w10488, ew10488⟩ : ∃ w : Int32, I10476 (ad g 0) 7 = w := ⟨_, rfl⟩
              have bw10488 := BT_get hI10476.1.1 0 7 8 (-1) (0) (1000) (by decide) 7 (by decide) (by decide)
              rw [ew10488] at bw10488
              rw [ew10488] at cv10478
              refine WQ_if_ne 90 dX11_book_85 rfl (fun c10488 => ?_) (fun c10488 => ?_)
              · refine WP_aload_n dX11_book_90 rfl ?_
                refine WQ_getim dX11_book_91 fX11_56 rfl (ly_is hy 0 11 rfl) ew10488 ?_
                refine WP_istore (ls' := [(0, _), (1, _), (2, _), (3, _), (4, _), (5, _), (6, _)]) dX11_book_94 (by decide) rfl ?_
                refine WP_aload_n dX11_book_96 rfl ?_
                refine WQ_iconst (1) (1) dX11_book_97 rfl rfl (fun v10490 hv10490 => ?_)
                refine WQ_bipush (99) (99) dX11_book_98 rfl rfl (fun v10491 hv10491 => ?_)
                refine WP_callV2 (k := 11) dX11_book_100 ⟨⟨⟨by decide, by decide⟩, zX11_number⟩, lX11_81, by decide, rfl, vX11_number.1, vX11_number.2⟩ (ly_is hy 0 11 rfl) (sm_numberx hy hr hI10476 v10490 v10491 (by omega) (by omega) (by omega) (by omega) (by rw [ew10484, ew10485, ew10486, ew10487]; omega)) (Nat.le_of_ble_eq_true rfl) ?_
                intro r I10492 J10493 Ra hq
                obtain ⟨⟨hI10492, ec, fiI10492, fjI10492, fqI10492, ⟨pI10492, sI10492_0_15, sI10492_0_16, sI10492_0_17, sI10492_0_18⟩⟩, v10494, rfl, av10494, bv10494, cv10494⟩ := hq
                show WP _ _ _ _ (.int _ :: _) _ _ _ _
                rw [ec]
                clear ec Ra
                have fr10495 : fz 49 g [0] I I10492 := fz_tr fr10479 (fz_mono fiI10492 (by decide))
                have fr10496 : fs g [1, 2, 3, 4, 5, 6, 7, 8, 9] I I10492 := fs_tr fr10480 (fs_mono fqI10492 (by decide))
                have fr10497 : fz 49 g [] J J10493 := fz_tr fr10481 (fz_mono fjI10492 (by decide))
                have e10498 : I10492 (ad g 0) 1 = L10404 := hI10492.1.2
                have b10499 := BT_get hI10492.1.1 0 1 2 (0) (0) (900) (by decide) 1 (by decide) (by decide)
                rw [e10498] at b10499
                obtain ⟨w10500, ew10500⟩ : ∃ w : Int32, I10492 (ad g 0) 2 = w := ⟨_, rfl⟩
                have bw10500 := BT_get hI10492.1.1 0 2 3 (0) (0) (900) (by decide) 2 (by decide) (by decide)
                rw [ew10500] at bw10500
                obtain ⟨w10501, ew10501⟩ : ∃ w : Int32, I10492 (ad g 0) 3 = w := ⟨_, rfl⟩
                have bw10501 := BT_get hI10492.1.1 0 3 4 (0) (0) (900) (by decide) 3 (by decide) (by decide)
                rw [ew10501] at bw10501
                obtain ⟨w10502, ew10502⟩ : ∃ w : Int32, I10492 (ad g 0) 4 = w := ⟨_, rfl⟩
                have bw10502 := BT_get hI10492.1.1 0 4 5 (0) (0) (900) (by decide) 4 (by decide) (by decide)
                rw [ew10502] at bw10502
                obtain ⟨w10503, ew10503⟩ : ∃ w : Int32, I10492 (ad g 0) 5 = w := ⟨_, rfl⟩
                have bw10503 := BT_get hI10492.1.1 0 5 6 (0) (0) (4) (by decide) 5 (by decide) (by decide)
                rw [ew10503] at bw10503
                rw [ew10500, ew10501, ew10502, ew10503, ew10485] at pI10492
                obtain ⟨w10504, ew10504⟩ : ∃ w : Int32, I10492 (ad g 0) 7 = w := ⟨_, rfl⟩
                have bw10504 := BT_get hI10492.1.1 0 7 8 (-1) (0) (1000) (by decide) 7 (by decide) (by decide)
                rw [ew10504] at bw10504
                rw [ew10504] at cv10494
                refine WQ_if_ne 108 dX11_book_103 rfl (fun c10504 => ?_) (fun c10504 => ?_)
                · refine WP_aload_n dX11_book_108 rfl ?_
                  refine WQ_getim dX11_book_109 fX11_56 rfl (ly_is hy 0 11 rfl) ew10504 ?_
                  refine WP_istore (ls' := [(0, _), (1, _), (2, _), (3, _), (4, _), (5, _), (6, _), (7, _)]) dX11_book_112 (by decide) rfl ?_
                  refine WP_aload_n dX11_book_114 rfl ?_
                  refine WP_callV0 (k := 11) dX11_book_115 ⟨⟨⟨by decide, by decide⟩, zX11_close⟩, lX11_213, by decide, rfl, vX11_close.1, vX11_close.2⟩ (ly_is hy 0 11 rfl) (sm_closex hy hr hI10492   (by rw [ew10500, ew10501, ew10502, ew10503]; omega)) (Nat.le_of_ble_eq_true rfl) ?_
                  intro r I10506 J10507 Ra hq
                  obtain ⟨⟨hI10506, ec, fiI10506, fjI10506, fqI10506, ⟨pI10506, sI10506_0_15, sI10506_0_16, sI10506_0_17, sI10506_0_18⟩⟩, v10508, rfl, av10508, bv10508, cv10508⟩ := hq
                  show WP _ _ _ _ (.int _ :: _) _ _ _ _
                  rw [ec]
                  clear ec Ra
                  have fr10509 : fz 49 g [0] I I10506 := fz_tr fr10495 (fz_mono fiI10506 (by decide))
                  have fr10510 : fs g [1, 2, 3, 4, 5, 6, 7, 8, 9] I I10506 := fs_tr fr10496 (fs_mono fqI10506 (by decide))
                  have fr10511 : fz 49 g [] J J10507 := fz_tr fr10497 (fz_mono fjI10506 (by decide))
                  have e10512 : I10506 (ad g 0) 1 = L10404 := hI10506.1.2
                  have b10513 := BT_get hI10506.1.1 0 1 2 (0) (0) (900) (by decide) 1 (by decide) (by decide)
                  rw [e10512] at b10513
                  obtain ⟨w10514, ew10514⟩ : ∃ w : Int32, I10506 (ad g 0) 2 = w := ⟨_, rfl⟩
                  have bw10514 := BT_get hI10506.1.1 0 2 3 (0) (0) (900) (by decide) 2 (by decide) (by decide)
                  rw [ew10514] at bw10514
                  obtain ⟨w10515, ew10515⟩ : ∃ w : Int32, I10506 (ad g 0) 3 = w := ⟨_, rfl⟩
                  have bw10515 := BT_get hI10506.1.1 0 3 4 (0) (0) (900) (by decide) 3 (by decide) (by decide)
                  rw [ew10515] at bw10515
                  obtain ⟨w10516, ew10516⟩ : ∃ w : Int32, I10506 (ad g 0) 4 = w := ⟨_, rfl⟩
                  have bw10516 := BT_get hI10506.1.1 0 4 5 (0) (0) (900) (by decide) 4 (by decide) (by decide)
                  rw [ew10516] at bw10516
                  obtain ⟨w10517, ew10517⟩ : ∃ w : Int32, I10506 (ad g 0) 5 = w := ⟨_, rfl⟩
                  have bw10517 := BT_get hI10506.1.1 0 5 6 (0) (0) (4) (by decide) 5 (by decide) (by decide)
                  rw [ew10517] at bw10517
                  rw [ew10514, ew10515, ew10516, ew10517, ew10501] at pI10506
                  rw [ew10515] at cv10508
                  rw [ew10501] at cv10508
                  refine WQ_if_ne 123 dX11_book_118 rfl (fun c10517 => ?_) (fun c10517 => ?_)
                  · refine WP_iload_n dX11_book_123 rfl ?_
                    refine WQ_bipush (-3) (-3) dX11_book_124 rfl rfl (fun v10519 hv10519 => ?_)
                    refine WQ_icmp_ne 147 dX11_book_126 rfl (fun c10519 => ?_) (fun c10519 => ?_)
                    · refine WP_iinc (ls' := [(0, _), (1, _), (2, _), (3, _), (4, _), (5, _), (6, _), (7, _)]) dX11_book_147 rfl (by decide) rfl ?_
                      generalize i10417 + Int32.ofInt (1) = v10521
                      refine WP_goto 9 dX11_book_150 rfl ?_
                      exact WP_sub (fc rfl (fc rfl (fc rfl fn))) (ihlp9_10423 i10416 v10521 I10506 J10507 hI10506 fr10509 fr10511 fr10510 w10514 ew10514 w10515 ew10515 w10516 ew10516 w10517 ew10517 (by omega) (by omega) (by omega) (by omega))
                    · refine WP_aload_n dX11_book_129 rfl ?_
                      refine WP_iload_n dX11_book_130 rfl ?_
                      refine WP_iload dX11_book_131 rfl ?_
                      refine WP_iload dX11_book_133 rfl ?_
                      refine WP_iload dX11_book_135 rfl ?_
                      refine WP_iload dX11_book_137 rfl ?_
                      refine WP_callV5 (k := 11) dX11_book_139 ⟨⟨⟨by decide, by decide⟩, zX11_isLost⟩, lX11_549, by decide, rfl, vX11_isLost.1, vX11_isLost.2⟩ (ly_is hy 0 11 rfl) (sm_isLost hy hr hI10506 w10441 w10456 w10472 w10488 w10504 (by omega) (by omega) (by omega) (by omega) (by omega) (by omega) (by omega) (by omega) (by omega) (by omega)) (Nat.le_of_ble_eq_true rfl) ?_
                      intro r Ia Ja Ra hq
                      obtain ⟨⟨ea, eb, ec⟩, v10522, rfl, av10522, bv10522⟩ := hq
                      show WP _ _ _ _ (.int _ :: _) _ _ _ _
                      rw [ea, eb, ec]
                      clear ea eb ec Ia Ja Ra
                      refine WQ_if_eq 147 dX11_book_142 rfl (fun c10522 => ?_) (fun c10522 => ?_)
                      · refine WP_iinc (ls' := [(0, _), (1, _), (2, _), (3, _), (4, _), (5, _), (6, _), (7, _)]) dX11_book_147 rfl (by decide) rfl ?_
                        generalize i10417 + Int32.ofInt (1) = v10524
                        refine WP_goto 9 dX11_book_150 rfl ?_
                        exact WP_sub (fc rfl (fc rfl (fc rfl fn))) (ihlp9_10423 i10416 v10524 I10506 J10507 hI10506 fr10509 fr10511 fr10510 w10514 ew10514 w10515 ew10515 w10516 ew10516 w10517 ew10517 (by omega) (by omega) (by omega) (by omega))
                      · refine WP_iload_n dX11_book_145 rfl ?_
                        refine WP_istore_n (ls' := [(0, _), (1, _), (2, _), (3, _), (4, _), (5, _), (6, _), (7, _)]) dX11_book_146 (by decide) rfl ?_
                        refine WP_iinc (ls' := [(0, _), (1, _), (2, _), (3, _), (4, _), (5, _), (6, _), (7, _)]) dX11_book_147 rfl (by decide) rfl ?_
                        generalize i10417 + Int32.ofInt (1) = v10525
                        refine WP_goto 9 dX11_book_150 rfl ?_
                        exact WP_sub (fc rfl (fc rfl (fc rfl fn))) (ihlp9_10423 i10417 v10525 I10506 J10507 hI10506 fr10509 fr10511 fr10510 w10514 ew10514 w10515 ew10515 w10516 ew10516 w10517 ew10517 (by omega) (by omega) (by omega) (by omega))
                  · refine WQ_iconst (-1) (-1) dX11_book_121 rfl rfl (fun v10526 hv10526 => ?_)
                    exact WP_iret dX11_book_122 rfl ⟨⟨⟨_, hI10506, by omega⟩, rfl, fr10509, fr10511, fr10510⟩, _, rfl⟩
                · refine WQ_iconst (-1) (-1) dX11_book_106 rfl rfl (fun v10527 hv10527 => ?_)
                  exact WP_iret dX11_book_107 rfl ⟨⟨⟨_, hI10492, by omega⟩, rfl, fr10495, fr10497, fr10496⟩, _, rfl⟩
              · refine WQ_iconst (-1) (-1) dX11_book_88 rfl rfl (fun v10528 hv10528 => ?_)
                exact WP_iret dX11_book_89 rfl ⟨⟨⟨_, hI10476, by omega⟩, rfl, fr10479, fr10481, fr10480⟩, _, rfl⟩
            · refine WQ_iconst (-1) (-1) dX11_book_71 rfl rfl (fun v10529 hv10529 => ?_)
              exact WP_iret dX11_book_72 rfl ⟨⟨⟨_, hI10460, by omega⟩, rfl, fr10463, fr10465, fr10464⟩, _, rfl⟩
          · refine WQ_iconst (-1) (-1) dX11_book_53 rfl rfl (fun v10530 hv10530 => ?_)
            exact WP_iret dX11_book_54 rfl ⟨⟨⟨_, hI10444, by omega⟩, rfl, fr10447, fr10449, fr10448⟩, _, rfl⟩
        · refine WQ_iconst (-1) (-1) dX11_book_31 rfl rfl (fun v10531 hv10531 => ?_)
          exact WP_iret dX11_book_32 rfl ⟨⟨⟨_, hI10429, by omega⟩, rfl, fr10432, fr10434, fr10433⟩, _, rfl⟩
  exact WP_sub (fc rfl (fc rfl (fc rfl fn))) (lp9_10423 _ v10414 v10415 I10402 J10403 hI10402 fr10405 fr10407 fr10406 w10410 ew10410 w10411 ew10411 w10412 ew10412 w10413 ew10413 (by omega) (by omega) (by omega) (Nat.lt_succ_self _))
