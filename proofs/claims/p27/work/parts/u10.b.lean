set_option maxHeartbeats 4000000 in
set_option maxRecDepth 100000 in
theorem sm_byteAtx {g : GG} {n : Int} {L : Int32} (hy : Ly g)  {I : pI} {J : pJ} {R : pR} (hr : Rf g R) (hI : MP g n L I) (k : Int32) (k_lo : 0 ≤ k.toInt) (k_hi : k.toInt ≤ 901) : SP g mX11_byteAt [.ref (ad g 0), .int k] I J R (fun r I' J' R' => (I' = I ∧ J' = J ∧ R' = R) ∧ ∃ v : Int32, r = some (.int v) ∧ (((I (ad g 0) 2).toInt ≤ k.toInt → v.toInt = 0) ∧ v = BF g I k)) := by
  refine SP_of ⟨by decide, rfl⟩ (Nat.le_of_ble_eq_true rfl) ?_
  have e6236 : I (ad g 0) 1 = L := hI.1.2
  have b6237 := BT_get hI.1.1 0 1 2 (0) (0) (900) (by decide) 1 (by decide) (by decide)
  rw [e6236] at b6237
  refine WP_iload_n dX11_byteAt_0 rfl ?_
  refine WP_aload_n dX11_byteAt_1 rfl ?_
  refine WQ_geti dX11_byteAt_2 fX11_13 rfl (ly_is hy 0 11 rfl) (BT_get hI.1.1 0 2 3 (0) (0) (900) (by decide) 2 (by decide) (by decide)) (fun v6238 ev6238 av6238 bv6238 => ?_)
  refine WQ_icmp_ge 21 dX11_byteAt_5 rfl (fun c6238 => ?_) (fun c6238 => ?_)
  · refine WQ_iconst (0) (0) dX11_byteAt_21 rfl rfl (fun v6240 hv6240 => ?_)
    exact WP_iret dX11_byteAt_22 rfl ⟨⟨rfl, rfl, rfl⟩, _, rfl, ⟨fun _ => by omega, by unfold BF; rw [if_neg (by rw [ev6238]; omega)]; exact (eq32 _ _).mpr (by show _ = (0 : Int); omega)⟩⟩
  · refine WP_aload_n dX11_byteAt_8 rfl ?_
    refine WP_getr dX11_byteAt_9 fX11_16 rfl (ly_is hy 0 11 rfl) (rf hr 0 0 1 (by decide)) ?_
    refine WP_iload_n dX11_byteAt_12 rfl ?_
    refine WQ_baldx dX11_byteAt_13 (ly_is hy 1 12 rfl) (ly_n hy 1 900 rfl) (by omega) (by omega) (fun v6241 zv6241 => ?_)
    refine WQ_sipush (255) (255) dX11_byteAt_14 rfl rfl (fun v6242 hv6242 => ?_)
    refine WQ_iandx dX11_byteAt_17 (fun v6243 xv6243 => ?_)
    refine WP_goto 22 dX11_byteAt_18 rfl ?_
    exact WP_iret dX11_byteAt_22 rfl ⟨⟨rfl, rfl, rfl⟩, _, rfl, ⟨fun h => by rw [ev6238] at h; omega, by unfold BF; rw [if_pos (by rw [ev6238]; omega), xv6243, zv6241, (eq32 v6242 255).mpr hv6242]⟩⟩
set_option maxHeartbeats 4000000 in
set_option maxRecDepth 100000 in
theorem sm_scanx {g : GG} {n : Int} {L : Int32} (hy : Ly g)  {I : pI} {J : pJ} {R : pR} (hr : Rf g R) (hI : MP g n L I)   (hb : (I (ad g 0) 4).toInt ≤ (I (ad g 0) 2).toInt) : SP g mX11_scan [.ref (ad g 0)] I J R (fun r I' J' R' => (MP g n L I' ∧ R' = R ∧ fz 49 g [0] I I' ∧ (((I' (ad g 0) 4).toInt ≤ (I' (ad g 0) 2).toInt ∧ (I' (ad g 0) 3).toInt ≤ (I' (ad g 0) 4).toInt ∧ ((I' (ad g 0) 5).toInt = 0 ∨ (I' (ad g 0) 3).toInt < (I' (ad g 0) 4).toInt)) ∧ (I (ad g 0) 4).toInt ≤ (I' (ad g 0) 3).toInt) ∧ I' (ad g 0) 7 = I (ad g 0) 7 ∧ I' (ad g 0) 15 = I (ad g 0) 15 ∧ I' (ad g 0) 16 = I (ad g 0) 16 ∧ I' (ad g 0) 17 = I (ad g 0) 17 ∧ I' (ad g 0) 18 = I (ad g 0) 18) ∧ r = none) := by
  refine SP_of ⟨by decide, rfl⟩ (Nat.le_of_ble_eq_true rfl) ?_
  have e6244 : I (ad g 0) 1 = L := hI.1.2
  have b6245 := BT_get hI.1.1 0 1 2 (0) (0) (900) (by decide) 1 (by decide) (by decide)
  rw [e6244] at b6245
  have fr0 : fz 49 g [0] I I := fz_rf
  obtain ⟨w6246, ew6246⟩ : ∃ w : Int32, I (ad g 0) 7 = w := ⟨_, rfl⟩
  have bw6246 := BT_get hI.1.1 0 7 8 (-1) (0) (1000) (by decide) 7 (by decide) (by decide)
  rw [ew6246] at bw6246
  obtain ⟨w6247, ew6247⟩ : ∃ w : Int32, I (ad g 0) 15 = w := ⟨_, rfl⟩
  have bw6247 := BT_get hI.1.1 0 15 16 (0) (0) (4) (by decide) 15 (by decide) (by decide)
  rw [ew6247] at bw6247
  obtain ⟨w6248, ew6248⟩ : ∃ w : Int32, I (ad g 0) 16 = w := ⟨_, rfl⟩
  have bw6248 := BT_get hI.1.1 0 16 17 (0) (0) (3) (by decide) 16 (by decide) (by decide)
  rw [ew6248] at bw6248
  obtain ⟨w6249, ew6249⟩ : ∃ w : Int32, I (ad g 0) 17 = w := ⟨_, rfl⟩
  have bw6249 := BT_get hI.1.1 0 17 18 (-1) (0) (3) (by decide) 17 (by decide) (by decide)
  rw [ew6249] at bw6249
  obtain ⟨w6250, ew6250⟩ : ∃ w : Int32, I (ad g 0) 18 = w := ⟨_, rfl⟩
  have bw6250 := BT_get hI.1.1 0 18 19 (-1) (0) (2) (by decide) 18 (by decide) (by decide)
  rw [ew6250] at bw6250
  obtain ⟨w6251, ew6251⟩ : ∃ w : Int32, I (ad g 0) 4 = w := ⟨_, rfl⟩
  have bw6251 := BT_get hI.1.1 0 4 5 (0) (0) (900) (by decide) 4 (by decide) (by decide)
  rw [ew6251] at bw6251
  obtain ⟨w6252, ew6252⟩ : ∃ w : Int32, I (ad g 0) 2 = w := ⟨_, rfl⟩
  have bw6252 := BT_get hI.1.1 0 2 3 (0) (0) (900) (by decide) 2 (by decide) (by decide)
  rw [ew6252] at bw6252
  rw [ew6251, ew6252] at hb
  have lp0_6261 : ∀ (mz : Nat)  (I6253 : pI) (J6254 : pJ), MP g n L I6253 → fz 49 g [0] I I6253 → ∀ (w6255 : Int32), I6253 (ad g 0) 2 = w6255 → ∀ (w6256 : Int32), I6253 (ad g 0) 4 = w6256 → ∀ (w6257 : Int32), I6253 (ad g 0) 7 = w6257 → ∀ (w6258 : Int32), I6253 (ad g 0) 15 = w6258 → ∀ (w6259 : Int32), I6253 (ad g 0) 16 = w6259 → ∀ (w6260 : Int32), I6253 (ad g 0) 17 = w6260 → ∀ (w6261 : Int32), I6253 (ad g 0) 18 = w6261 → w6256.toInt ≤ w6255.toInt → w6251.toInt ≤ w6256.toInt → w6257.toInt = w6246.toInt → w6258.toInt = w6247.toInt → w6259.toInt = w6248.toInt → w6260.toInt = w6249.toInt → w6261.toInt = w6250.toInt → (901 - w6256.toInt).toNat < mz → WP g mX11_scan 0 [(0, .ref (ad g 0))] [] I6253 J6254 R (fun r I' J' R' => (MP g n L I' ∧ R' = R ∧ fz 49 g [0] I I' ∧ (((I' (ad g 0) 4).toInt ≤ (I' (ad g 0) 2).toInt ∧ (I' (ad g 0) 3).toInt ≤ (I' (ad g 0) 4).toInt ∧ ((I' (ad g 0) 5).toInt = 0 ∨ (I' (ad g 0) 3).toInt < (I' (ad g 0) 4).toInt)) ∧ (I (ad g 0) 4).toInt ≤ (I' (ad g 0) 3).toInt) ∧ I' (ad g 0) 7 = I (ad g 0) 7 ∧ I' (ad g 0) 15 = I (ad g 0) 15 ∧ I' (ad g 0) 16 = I (ad g 0) 16 ∧ I' (ad g 0) 17 = I (ad g 0) 17 ∧ I' (ad g 0) 18 = I (ad g 0) 18) ∧ r = none) := by
    intro mz
    induction mz with
    | zero =>
      intro  I6253 J6254 hI6253 fiI6253 w6255 ew6255 w6256 ew6256 w6257 ew6257 w6258 ew6258 w6259 ew6259 w6260 ew6260 w6261 ew6261 j0_I6253 j1_I6253 j2_I6253 j3_I6253 j4_I6253 j5_I6253 j6_I6253 hmlp0_6261
      exact absurd hmlp0_6261 (Nat.not_lt_zero _)
    | succ mz ihlp0_6261 =>
      intro  I6253 J6254 hI6253 fiI6253 w6255 ew6255 w6256 ew6256 w6257 ew6257 w6258 ew6258 w6259 ew6259 w6260 ew6260 w6261 ew6261 j0_I6253 j1_I6253 j2_I6253 j3_I6253 j4_I6253 j5_I6253 j6_I6253 hmlp0_6261
      have bw6255 := BT_get hI6253.1.1 0 2 3 (0) (0) (900) (by decide) 2 (by decide) (by decide)
      rw [ew6255] at bw6255
      have bw6256 := BT_get hI6253.1.1 0 4 5 (0) (0) (900) (by decide) 4 (by decide) (by decide)
      rw [ew6256] at bw6256
      have bw6257 := BT_get hI6253.1.1 0 7 8 (-1) (0) (1000) (by decide) 7 (by decide) (by decide)
      rw [ew6257] at bw6257
      have bw6258 := BT_get hI6253.1.1 0 15 16 (0) (0) (4) (by decide) 15 (by decide) (by decide)
      rw [ew6258] at bw6258
      have bw6259 := BT_get hI6253.1.1 0 16 17 (0) (0) (3) (by decide) 16 (by decide) (by decide)
      rw [ew6259] at bw6259
      have bw6260 := BT_get hI6253.1.1 0 17 18 (-1) (0) (3) (by decide) 17 (by decide) (by decide)
      rw [ew6260] at bw6260
      have bw6261 := BT_get hI6253.1.1 0 18 19 (-1) (0) (2) (by decide) 18 (by decide) (by decide)
      rw [ew6261] at bw6261
      have e6263 : I6253 (ad g 0) 1 = L := hI6253.1.2
      have b6264 := BT_get hI6253.1.1 0 1 2 (0) (0) (900) (by decide) 1 (by decide) (by decide)
      rw [e6263] at b6264
      refine WP_aload_n dX11_scan_0 rfl ?_
      refine WQ_getim dX11_scan_1 fX11_20 rfl (ly_is hy 0 11 rfl) ew6256 ?_
      refine WP_aload_n dX11_scan_4 rfl ?_
      refine WQ_getim dX11_scan_5 fX11_13 rfl (ly_is hy 0 11 rfl) ew6255 ?_
      refine WQ_icmp_ge 52 dX11_scan_8 rfl (fun c6264 => ?_) (fun c6264 => ?_)
      · refine WP_aload_n dX11_scan_52 rfl ?_
        refine WP_aload_n dX11_scan_53 rfl ?_
        refine WQ_getim dX11_scan_54 fX11_20 rfl (ly_is hy 0 11 rfl) ew6256 ?_
        refine WQ_puti dX11_scan_57 fX11_7 rfl rfl (ly_is hy 0 11 rfl) (fun I6266 eI6266 => ?_)
        have hI6266 : MP g n L I6266 := by rw [eI6266]; exact (mp_w hy hI6253 (c := 0) (mi_f hy hI6253.1 (c := 0) (0) (0) (900) (by decide) (Or.inr (by decide)) (by decide) (by omega) (by omega)) (by decide) (by decide) (Or.inr (by decide)))
        have e6267 : I6266 (ad g 0) 2 = w6255 := by rw [eI6266, pp_ne _ _ (Or.inr (by decide))]; exact ew6255
        have e6268 : I6266 (ad g 0) 4 = w6256 := by rw [eI6266, pp_ne _ _ (Or.inr (by decide))]; exact ew6256
        have e6269 : I6266 (ad g 0) 7 = w6257 := by rw [eI6266, pp_ne _ _ (Or.inr (by decide))]; exact ew6257
        have e6270 : I6266 (ad g 0) 15 = w6258 := by rw [eI6266, pp_ne _ _ (Or.inr (by decide))]; exact ew6258
        have e6271 : I6266 (ad g 0) 16 = w6259 := by rw [eI6266, pp_ne _ _ (Or.inr (by decide))]; exact ew6259
        have e6272 : I6266 (ad g 0) 17 = w6260 := by rw [eI6266, pp_ne _ _ (Or.inr (by decide))]; exact ew6260
        have e6273 : I6266 (ad g 0) 18 = w6261 := by rw [eI6266, pp_ne _ _ (Or.inr (by decide))]; exact ew6261
        have e6274 : I6266 (ad g 0) 1 = L := by rw [eI6266, pp_ne _ _ (Or.inr (by decide))]; exact e6263
        have e6275 : I6266 (ad g 0) 3 = w6256 := by rw [eI6266, pp_self]
        have fr6276 : fz 49 g [0] I I6266 := by rw [eI6266]; exact fzm_pp hy fiI6253 (by decide) (by decide)
        clear eI6266
        refine WP_aload_n dX11_scan_60 rfl ?_
        refine WP_aload_n dX11_scan_61 rfl ?_
        refine WQ_getim dX11_scan_62 fX11_7 rfl (ly_is hy 0 11 rfl) e6275 ?_
        refine WP_callV1 (k := 11) dX11_scan_65 ⟨⟨⟨by decide, by decide⟩, zX11_byteAt⟩, lX11_23, by decide, rfl, vX11_byteAt.1, vX11_byteAt.2⟩ (ly_is hy 0 11 rfl) (sm_byteAtx hy hr hI6266 w6256 (by omega) (by omega)) (Nat.le_of_ble_eq_true rfl) ?_
        intro r Ia Ja Ra hq
        obtain ⟨⟨ea, eb, ec⟩, v6277, rfl, cv6277⟩ := hq
        show WP _ _ _ _ (.int _ :: _) _ _ _ _
        rw [ea, eb, ec]
        clear ea eb ec Ia Ja Ra
        rw [e6267] at cv6277
        refine WP_istore_n (ls' := [(0, _), (1, _)]) dX11_scan_68 (by decide) rfl ?_
        refine WP_aload_n dX11_scan_69 rfl ?_
        refine WQ_getim dX11_scan_70 fX11_7 rfl (ly_is hy 0 11 rfl) e6275 ?_
        refine WP_aload_n dX11_scan_73 rfl ?_
        refine WQ_getim dX11_scan_74 fX11_13 rfl (ly_is hy 0 11 rfl) e6267 ?_
        refine WQ_icmp_ne 88 dX11_scan_77 rfl (fun c6277 => ?_) (fun c6277 => ?_)
        · refine WP_iload_n dX11_scan_88 rfl ?_
          refine WP_callS1 dX11_scan_89 ⟨⟨⟨by decide, by decide⟩, zX11_isSmall⟩, lX11_30, tX11_isSmall⟩ (sm_isSmall hy hr hI6266 v6277 ) (Nat.le_of_ble_eq_true rfl) ?_
          intro r Ia Ja Ra hq
          obtain ⟨⟨ea, eb, ec⟩, v6279, rfl, av6279, bv6279, cv6279⟩ := hq
          show WP _ _ _ _ (.int _ :: _) _ _ _ _
          rw [ea, eb, ec]
          clear ea eb ec Ia Ja Ra
          refine WQ_if_eq 148 dX11_scan_92 rfl (fun c6279 => ?_) (fun c6279 => ?_)
          · refine WP_iload_n dX11_scan_148 rfl ?_
            refine WP_callS1 dX11_scan_149 ⟨⟨⟨by decide, by decide⟩, zX11_isDigit⟩, lX11_34, tX11_isDigit⟩ (sm_isDigit hy hr hI6266 v6277 ) (Nat.le_of_ble_eq_true rfl) ?_
            intro r Ia Ja Ra hq
            obtain ⟨⟨ea, eb, ec⟩, v6281, rfl, av6281, bv6281, cv6281⟩ := hq
            show WP _ _ _ _ (.int _ :: _) _ _ _ _
            rw [ea, eb, ec]
            clear ea eb ec Ia Ja Ra
            refine WQ_if_eq 248 dX11_scan_152 rfl (fun c6281 => ?_) (fun c6281 => ?_)
            · refine WP_aload_n dX11_scan_248 rfl ?_
              refine WP_iload_n dX11_scan_249 rfl ?_
              refine WQ_bipush (59) (59) dX11_scan_250 rfl rfl (fun v6283 hv6283 => ?_)
              have jn260_6286 : ∀ (v6286 : Int32), 3 ≤ v6286.toInt → v6286.toInt ≤ 4 → WP g mX11_scan 260 [(0, .ref (ad g 0)), (1, .int v6277)] [.int v6286, .ref (ad g 0)] I6266 J6254 R (fun r I' J' R' => (MP g n L I' ∧ R' = R ∧ fz 49 g [0] I I' ∧ (((I' (ad g 0) 4).toInt ≤ (I' (ad g 0) 2).toInt ∧ (I' (ad g 0) 3).toInt ≤ (I' (ad g 0) 4).toInt ∧ ((I' (ad g 0) 5).toInt = 0 ∨ (I' (ad g 0) 3).toInt < (I' (ad g 0) 4).toInt)) ∧ (I (ad g 0) 4).toInt ≤ (I' (ad g 0) 3).toInt) ∧ I' (ad g 0) 7 = I (ad g 0) 7 ∧ I' (ad g 0) 15 = I (ad g 0) 15 ∧ I' (ad g 0) 16 = I (ad g 0) 16 ∧ I' (ad g 0) 17 = I (ad g 0) 17 ∧ I' (ad g 0) 18 = I (ad g 0) 18) ∧ r = none) := by
                intro v6286 av6286 bv6286
                refine WQ_puti dX11_scan_260 fX11_27 rfl rfl (ly_is hy 0 11 rfl) (fun I6288 eI6288 => ?_)
                have hI6288 : MP g n L I6288 := by rw [eI6288]; exact (mp_w hy hI6266 (c := 0) (mi_f hy hI6266.1 (c := 0) (0) (0) (4) (by decide) (Or.inr (by decide)) (by decide) (by omega) (by omega)) (by decide) (by decide) (Or.inr (by decide)))
                have e6289 : I6288 (ad g 0) 2 = w6255 := by rw [eI6288, pp_ne _ _ (Or.inr (by decide))]; exact e6267
                have e6290 : I6288 (ad g 0) 4 = w6256 := by rw [eI6288, pp_ne _ _ (Or.inr (by decide))]; exact e6268
                have e6291 : I6288 (ad g 0) 7 = w6257 := by rw [eI6288, pp_ne _ _ (Or.inr (by decide))]; exact e6269
                have e6292 : I6288 (ad g 0) 15 = w6258 := by rw [eI6288, pp_ne _ _ (Or.inr (by decide))]; exact e6270
                have e6293 : I6288 (ad g 0) 16 = w6259 := by rw [eI6288, pp_ne _ _ (Or.inr (by decide))]; exact e6271
                have e6294 : I6288 (ad g 0) 17 = w6260 := by rw [eI6288, pp_ne _ _ (Or.inr (by decide))]; exact e6272
                have e6295 : I6288 (ad g 0) 18 = w6261 := by rw [eI6288, pp_ne _ _ (Or.inr (by decide))]; exact e6273
                have e6296 : I6288 (ad g 0) 1 = L := by rw [eI6288, pp_ne _ _ (Or.inr (by decide))]; exact e6274
                have e6297 : I6288 (ad g 0) 3 = w6256 := by rw [eI6288, pp_ne _ _ (Or.inr (by decide))]; exact e6275
                have e6298 : I6288 (ad g 0) 5 = v6286 := by rw [eI6288, pp_self]
                have fr6299 : fz 49 g [0] I I6288 := by rw [eI6288]; exact fzm_pp hy fr6276 (by decide) (by decide)
                have BI6288 : v6277 = BF g I6288 w6256 := by rw [eI6288, BF_w hy (by decide)]; exact cv6277.2
                clear eI6288
                refine WP_aload_n dX11_scan_263 rfl ?_
                refine WP_dup dX11_scan_264 rfl ?_
                refine WQ_getim dX11_scan_265 fX11_20 rfl (ly_is hy 0 11 rfl) e6290 ?_
                refine WQ_iconst (1) (1) dX11_scan_268 rfl rfl (fun v6300 hv6300 => ?_)
                refine WQ_iadd dX11_scan_269 (by omega) (by omega) (fun v6301 hv6301 => ?_)
                refine WQ_puti dX11_scan_270 fX11_20 rfl rfl (ly_is hy 0 11 rfl) (fun I6302 eI6302 => ?_)
                have hI6302 : MP g n L I6302 := by rw [eI6302]; exact (mp_w hy hI6288 (c := 0) (mi_f hy hI6288.1 (c := 0) (0) (0) (900) (by decide) (Or.inr (by decide)) (by decide) (by omega) (by omega)) (by decide) (by decide) (Or.inr (by decide)))
                have e6303 : I6302 (ad g 0) 2 = w6255 := by rw [eI6302, pp_ne _ _ (Or.inr (by decide))]; exact e6289
                have e6304 : I6302 (ad g 0) 7 = w6257 := by rw [eI6302, pp_ne _ _ (Or.inr (by decide))]; exact e6291
                have e6305 : I6302 (ad g 0) 15 = w6258 := by rw [eI6302, pp_ne _ _ (Or.inr (by decide))]; exact e6292
                have e6306 : I6302 (ad g 0) 16 = w6259 := by rw [eI6302, pp_ne _ _ (Or.inr (by decide))]; exact e6293
                have e6307 : I6302 (ad g 0) 17 = w6260 := by rw [eI6302, pp_ne _ _ (Or.inr (by decide))]; exact e6294
                have e6308 : I6302 (ad g 0) 18 = w6261 := by rw [eI6302, pp_ne _ _ (Or.inr (by decide))]; exact e6295
                have e6309 : I6302 (ad g 0) 1 = L := by rw [eI6302, pp_ne _ _ (Or.inr (by decide))]; exact e6296
                have e6310 : I6302 (ad g 0) 3 = w6256 := by rw [eI6302, pp_ne _ _ (Or.inr (by decide))]; exact e6297
                have e6311 : I6302 (ad g 0) 5 = v6286 := by rw [eI6302, pp_ne _ _ (Or.inr (by decide))]; exact e6298
                have e6312 : I6302 (ad g 0) 4 = v6301 := by rw [eI6302, pp_self]
                have fr6313 : fz 49 g [0] I I6302 := by rw [eI6302]; exact fzm_pp hy fr6299 (by decide) (by decide)
                have BI6302 : v6277 = BF g I6302 w6256 := by rw [eI6302, BF_w hy (by decide)]; exact BI6288
                clear eI6302
                exact WP_vret dX11_scan_273 rfl ⟨⟨hI6302, rfl, fr6313, ⟨(by rw [e6303, e6310, e6312, e6311, ew6251]; omega), (by rw [e6304, ew6246] <;> exact (eq32 _ _).mpr (by omega)), (by rw [e6305, ew6247] <;> exact (eq32 _ _).mpr (by omega)), (by rw [e6306, ew6248] <;> exact (eq32 _ _).mpr (by omega)), (by rw [e6307, ew6249] <;> exact (eq32 _ _).mpr (by omega)), (by rw [e6308, ew6250] <;> exact (eq32 _ _).mpr (by omega))⟩⟩, rfl⟩
              refine WQ_icmp_ne 259 dX11_scan_252 rfl (fun c6313 => ?_) (fun c6313 => ?_)
              · refine WQ_iconst (4) (4) dX11_scan_259 rfl rfl (fun v6315 hv6315 => ?_)
                exact WP_sub (fc rfl (fc rfl fn)) (jn260_6286 v6315 (by omega) (by omega))
              · refine WQ_iconst (3) (3) dX11_scan_255 rfl rfl (fun v6316 hv6316 => ?_)
                refine WP_goto 260 dX11_scan_256 rfl ?_
                exact WP_sub (fc rfl (fc rfl fn)) (jn260_6286 v6316 (by omega) (by omega))
            · refine WP_aload_n dX11_scan_155 rfl ?_
              refine WQ_iconst (0) (0) dX11_scan_156 rfl rfl (fun v6317 hv6317 => ?_)
              refine WQ_puti dX11_scan_157 fX11_37 rfl rfl (ly_is hy 0 11 rfl) (fun I6318 eI6318 => ?_)
              have hI6318 : MP g n L I6318 := by rw [eI6318]; exact (mp_w hy hI6266 (c := 0) (mi_f0 hy hI6266.1 (c := 0) (by decide) (Or.inr (by decide)) (by decide)) (by decide) (by decide) (Or.inr (by decide)))
              have e6319 : I6318 (ad g 0) 2 = w6255 := by rw [eI6318, pp_ne _ _ (Or.inr (by decide))]; exact e6267
              have e6320 : I6318 (ad g 0) 4 = w6256 := by rw [eI6318, pp_ne _ _ (Or.inr (by decide))]; exact e6268
              have e6321 : I6318 (ad g 0) 7 = w6257 := by rw [eI6318, pp_ne _ _ (Or.inr (by decide))]; exact e6269
              have e6322 : I6318 (ad g 0) 15 = w6258 := by rw [eI6318, pp_ne _ _ (Or.inr (by decide))]; exact e6270
              have e6323 : I6318 (ad g 0) 16 = w6259 := by rw [eI6318, pp_ne _ _ (Or.inr (by decide))]; exact e6271
              have e6324 : I6318 (ad g 0) 17 = w6260 := by rw [eI6318, pp_ne _ _ (Or.inr (by decide))]; exact e6272
              have e6325 : I6318 (ad g 0) 18 = w6261 := by rw [eI6318, pp_ne _ _ (Or.inr (by decide))]; exact e6273
              have e6326 : I6318 (ad g 0) 1 = L := by rw [eI6318, pp_ne _ _ (Or.inr (by decide))]; exact e6274
              have e6327 : I6318 (ad g 0) 3 = w6256 := by rw [eI6318, pp_ne _ _ (Or.inr (by decide))]; exact e6275
              have e6328 : I6318 (ad g 0) 6 = v6317 := by rw [eI6318, pp_self]
              have fr6329 : fz 49 g [0] I I6318 := by rw [eI6318]; exact fzm_pp hy fr6276 (by decide) (by decide)
              have BI6318 : v6277 = BF g I6318 w6256 := by rw [eI6318, BF_w hy (by decide)]; exact cv6277.2
              clear eI6318
              refine WP_aload_n dX11_scan_160 rfl ?_
              refine WP_aload_n dX11_scan_161 rfl ?_
              refine WQ_getim dX11_scan_162 fX11_20 rfl (ly_is hy 0 11 rfl) e6320 ?_
              refine WP_callV1 (k := 11) dX11_scan_165 ⟨⟨⟨by decide, by decide⟩, zX11_byteAt⟩, lX11_23, by decide, rfl, vX11_byteAt.1, vX11_byteAt.2⟩ (ly_is hy 0 11 rfl) (sm_byteAtx hy hr hI6318 w6256 (by omega) (by omega)) (Nat.le_of_ble_eq_true rfl) ?_
              intro r Ia Ja Ra hq
              obtain ⟨⟨ea, eb, ec⟩, v6330, rfl, cv6330⟩ := hq
              show WP _ _ _ _ (.int _ :: _) _ _ _ _
              rw [ea, eb, ec]
              clear ea eb ec Ia Ja Ra
              rw [e6319] at cv6330
              have ttv6330 : v6330.toInt = v6277.toInt := by rw [cv6330.2, ← BI6318]
              refine WP_callS1 dX11_scan_168 ⟨⟨⟨by decide, by decide⟩, zX11_isDigit⟩, lX11_34, tX11_isDigit⟩ (sm_isDigit hy hr hI6318 v6330 ) (Nat.le_of_ble_eq_true rfl) ?_
              intro r Ia Ja Ra hq
              obtain ⟨⟨ea, eb, ec⟩, v6331, rfl, av6331, bv6331, cv6331⟩ := hq
              show WP _ _ _ _ (.int _ :: _) _ _ _ _
              rw [ea, eb, ec]
              clear ea eb ec Ia Ja Ra
              refine WQ_if_eq 223 dX11_scan_171 rfl (fun c6331 => ?_) (fun c6331 => ?_)
              · refine WP_aload_n dX11_scan_223 rfl ?_
                refine WP_aload_n dX11_scan_224 rfl ?_
                refine WQ_getim dX11_scan_225 fX11_20 rfl (ly_is hy 0 11 rfl) e6320 ?_
                refine WP_aload_n dX11_scan_228 rfl ?_
                refine WQ_getim dX11_scan_229 fX11_7 rfl (ly_is hy 0 11 rfl) e6327 ?_
                refine WQ_isub dX11_scan_232 (by omega) (by omega) (fun v6333 hv6333 => ?_)
                refine WQ_iconst (4) (4) dX11_scan_233 rfl rfl (fun v6334 hv6334 => ?_)
                have jn242_6337 : ∀ (v6337 : Int32), 2 ≤ v6337.toInt → v6337.toInt ≤ 4 → WP g mX11_scan 242 [(0, .ref (ad g 0)), (1, .int v6277)] [.int v6337, .ref (ad g 0)] I6318 J6254 R (fun r I' J' R' => (MP g n L I' ∧ R' = R ∧ fz 49 g [0] I I' ∧ (((I' (ad g 0) 4).toInt ≤ (I' (ad g 0) 2).toInt ∧ (I' (ad g 0) 3).toInt ≤ (I' (ad g 0) 4).toInt ∧ ((I' (ad g 0) 5).toInt = 0 ∨ (I' (ad g 0) 3).toInt < (I' (ad g 0) 4).toInt)) ∧ (I (ad g 0) 4).toInt ≤ (I' (ad g 0) 3).toInt) ∧ I' (ad g 0) 7 = I (ad g 0) 7 ∧ I' (ad g 0) 15 = I (ad g 0) 15 ∧ I' (ad g 0) 16 = I (ad g 0) 16 ∧ I' (ad g 0) 17 = I (ad g 0) 17 ∧ I' (ad g 0) 18 = I (ad g 0) 18) ∧ r = none) := by
                  intro v6337 av6337 bv6337
                  refine WQ_puti dX11_scan_242 fX11_27 rfl rfl (ly_is hy 0 11 rfl) (fun I6339 eI6339 => ?_)
                  have hI6339 : MP g n L I6339 := by rw [eI6339]; exact (mp_w hy hI6318 (c := 0) (mi_f hy hI6318.1 (c := 0) (0) (0) (4) (by decide) (Or.inr (by decide)) (by decide) (by omega) (by omega)) (by decide) (by decide) (Or.inr (by decide)))
                  have e6340 : I6339 (ad g 0) 2 = w6255 := by rw [eI6339, pp_ne _ _ (Or.inr (by decide))]; exact e6319
                  have e6341 : I6339 (ad g 0) 4 = w6256 := by rw [eI6339, pp_ne _ _ (Or.inr (by decide))]; exact e6320
                  have e6342 : I6339 (ad g 0) 7 = w6257 := by rw [eI6339, pp_ne _ _ (Or.inr (by decide))]; exact e6321
                  have e6343 : I6339 (ad g 0) 15 = w6258 := by rw [eI6339, pp_ne _ _ (Or.inr (by decide))]; exact e6322
                  have e6344 : I6339 (ad g 0) 16 = w6259 := by rw [eI6339, pp_ne _ _ (Or.inr (by decide))]; exact e6323
                  have e6345 : I6339 (ad g 0) 17 = w6260 := by rw [eI6339, pp_ne _ _ (Or.inr (by decide))]; exact e6324
                  have e6346 : I6339 (ad g 0) 18 = w6261 := by rw [eI6339, pp_ne _ _ (Or.inr (by decide))]; exact e6325
                  have e6347 : I6339 (ad g 0) 1 = L := by rw [eI6339, pp_ne _ _ (Or.inr (by decide))]; exact e6326
                  have e6348 : I6339 (ad g 0) 3 = w6256 := by rw [eI6339, pp_ne _ _ (Or.inr (by decide))]; exact e6327
                  have e6349 : I6339 (ad g 0) 6 = v6317 := by rw [eI6339, pp_ne _ _ (Or.inr (by decide))]; exact e6328
                  have e6350 : I6339 (ad g 0) 5 = v6337 := by rw [eI6339, pp_self]
                  have fr6351 : fz 49 g [0] I I6339 := by rw [eI6339]; exact fzm_pp hy fr6329 (by decide) (by decide)
                  have BI6339 : v6277 = BF g I6339 w6256 := by rw [eI6339, BF_w hy (by decide)]; exact BI6318
                  clear eI6339
                  refine WP_goto 273 dX11_scan_245 rfl ?_
                  exact WP_vret dX11_scan_273 rfl ⟨⟨hI6339, rfl, fr6351, ⟨(by rw [e6340, e6348, e6341, e6350, ew6251]; omega), (by rw [e6342, ew6246] <;> exact (eq32 _ _).mpr (by omega)), (by rw [e6343, ew6247] <;> exact (eq32 _ _).mpr (by omega)), (by rw [e6344, ew6248] <;> exact (eq32 _ _).mpr (by omega)), (by rw [e6345, ew6249] <;> exact (eq32 _ _).mpr (by omega)), (by rw [e6346, ew6250] <;> exact (eq32 _ _).mpr (by omega))⟩⟩, rfl⟩
                refine WQ_icmp_le 241 dX11_scan_234 rfl (fun c6351 => ?_) (fun c6351 => ?_)
                · refine WQ_iconst (2) (2) dX11_scan_241 rfl rfl (fun v6353 hv6353 => ?_)
                  exact WP_sub (fc rfl (fc rfl fn)) (jn242_6337 v6353 (by omega) (by omega))
                · refine WQ_iconst (4) (4) dX11_scan_237 rfl rfl (fun v6354 hv6354 => ?_)
                  refine WP_goto 242 dX11_scan_238 rfl ?_
                  exact WP_sub (fc rfl (fc rfl fn)) (jn242_6337 v6354 (by omega) (by omega))
              · refine WP_aload_n dX11_scan_174 rfl ?_
                refine WQ_getim dX11_scan_175 fX11_20 rfl (ly_is hy 0 11 rfl) e6320 ?_
                refine WP_aload_n dX11_scan_178 rfl ?_
                refine WQ_getim dX11_scan_179 fX11_7 rfl (ly_is hy 0 11 rfl) e6327 ?_
                refine WQ_isub dX11_scan_182 (by omega) (by omega) (fun v6355 hv6355 => ?_)
                refine WQ_iconst (4) (4) dX11_scan_183 rfl rfl (fun v6356 hv6356 => ?_)
                refine WQ_icmp_ge 210 dX11_scan_184 rfl (fun c6356 => ?_) (fun c6356 => ?_)
                · refine WP_aload_n dX11_scan_210 rfl ?_
                  refine WP_dup dX11_scan_211 rfl ?_
                  refine WQ_getim dX11_scan_212 fX11_20 rfl (ly_is hy 0 11 rfl) e6320 ?_
                  refine WQ_iconst (1) (1) dX11_scan_215 rfl rfl (fun v6358 hv6358 => ?_)
                  refine WQ_iadd dX11_scan_216 (by omega) (by omega) (fun v6359 hv6359 => ?_)
                  refine WQ_puti dX11_scan_217 fX11_20 rfl rfl (ly_is hy 0 11 rfl) (fun I6360 eI6360 => ?_)
                  have hI6360 : MP g n L I6360 := by rw [eI6360]; exact (mp_w hy hI6318 (c := 0) (mi_f hy hI6318.1 (c := 0) (0) (0) (900) (by decide) (Or.inr (by decide)) (by decide) (by omega) (by omega)) (by decide) (by decide) (Or.inr (by decide)))
                  have e6361 : I6360 (ad g 0) 2 = w6255 := by rw [eI6360, pp_ne _ _ (Or.inr (by decide))]; exact e6319
                  have e6362 : I6360 (ad g 0) 7 = w6257 := by rw [eI6360, pp_ne _ _ (Or.inr (by decide))]; exact e6321
                  have e6363 : I6360 (ad g 0) 15 = w6258 := by rw [eI6360, pp_ne _ _ (Or.inr (by decide))]; exact e6322
                  have e6364 : I6360 (ad g 0) 16 = w6259 := by rw [eI6360, pp_ne _ _ (Or.inr (by decide))]; exact e6323
                  have e6365 : I6360 (ad g 0) 17 = w6260 := by rw [eI6360, pp_ne _ _ (Or.inr (by decide))]; exact e6324
                  have e6366 : I6360 (ad g 0) 18 = w6261 := by rw [eI6360, pp_ne _ _ (Or.inr (by decide))]; exact e6325
                  have e6367 : I6360 (ad g 0) 1 = L := by rw [eI6360, pp_ne _ _ (Or.inr (by decide))]; exact e6326
                  have e6368 : I6360 (ad g 0) 3 = w6256 := by rw [eI6360, pp_ne _ _ (Or.inr (by decide))]; exact e6327
                  have e6369 : I6360 (ad g 0) 6 = v6317 := by rw [eI6360, pp_ne _ _ (Or.inr (by decide))]; exact e6328
                  have e6370 : I6360 (ad g 0) 4 = v6359 := by rw [eI6360, pp_self]
                  have fr6371 : fz 49 g [0] I I6360 := by rw [eI6360]; exact fzm_pp hy fr6329 (by decide) (by decide)
                  have BI6360 : v6277 = BF g I6360 w6256 := by rw [eI6360, BF_w hy (by decide)]; exact BI6318
                  clear eI6360
                  refine WP_goto 160 dX11_scan_220 rfl ?_
                  have lp160_6381 : ∀ (mz : Nat)  (I6372 : pI) (J6373 : pJ), MP g n L I6372 → fz 49 g [0] I I6372 → ∀ (w6374 : Int32), I6372 (ad g 0) 2 = w6374 → ∀ (w6375 : Int32), I6372 (ad g 0) 3 = w6375 → ∀ (w6376 : Int32), I6372 (ad g 0) 4 = w6376 → ∀ (w6377 : Int32), I6372 (ad g 0) 7 = w6377 → ∀ (w6378 : Int32), I6372 (ad g 0) 15 = w6378 → ∀ (w6379 : Int32), I6372 (ad g 0) 16 = w6379 → ∀ (w6380 : Int32), I6372 (ad g 0) 17 = w6380 → ∀ (w6381 : Int32), I6372 (ad g 0) 18 = w6381 → w6376.toInt ≤ w6374.toInt → w6375.toInt < w6376.toInt → w6251.toInt ≤ w6375.toInt → w6377.toInt = w6246.toInt → w6378.toInt = w6247.toInt → w6379.toInt = w6248.toInt → w6380.toInt = w6249.toInt → w6381.toInt = w6250.toInt → (901 - w6376.toInt).toNat < mz → WP g mX11_scan 160 [(0, .ref (ad g 0)), (1, .int v6277)] [] I6372 J6373 R (fun r I' J' R' => (MP g n L I' ∧ R' = R ∧ fz 49 g [0] I I' ∧ (((I' (ad g 0) 4).toInt ≤ (I' (ad g 0) 2).toInt ∧ (I' (ad g 0) 3).toInt ≤ (I' (ad g 0) 4).toInt ∧ ((I' (ad g 0) 5).toInt = 0 ∨ (I' (ad g 0) 3).toInt < (I' (ad g 0) 4).toInt)) ∧ (I (ad g 0) 4).toInt ≤ (I' (ad g 0) 3).toInt) ∧ I' (ad g 0) 7 = I (ad g 0) 7 ∧ I' (ad g 0) 15 = I (ad g 0) 15 ∧ I' (ad g 0) 16 = I (ad g 0) 16 ∧ I' (ad g 0) 17 = I (ad g 0) 17 ∧ I' (ad g 0) 18 = I (ad g 0) 18) ∧ r = none) := by
                    intro mz
                    induction mz with
                    | zero =>
                      intro  I6372 J6373 hI6372 fiI6372 w6374 ew6374 w6375 ew6375 w6376 ew6376 w6377 ew6377 w6378 ew6378 w6379 ew6379 w6380 ew6380 w6381 ew6381 j0_I6372 j1_I6372 j2_I6372 j3_I6372 j4_I6372 j5_I6372 j6_I6372 j7_I6372 hmlp160_6381
                      exact absurd hmlp160_6381 (Nat.not_lt_zero _)
                    | succ mz ihlp160_6381 =>
                      intro  I6372 J6373 hI6372 fiI6372 w6374 ew6374 w6375 ew6375 w6376 ew6376 w6377 ew6377 w6378 ew6378 w6379 ew6379 w6380 ew6380 w6381 ew6381 j0_I6372 j1_I6372 j2_I6372 j3_I6372 j4_I6372 j5_I6372 j6_I6372 j7_I6372 hmlp160_6381
                      have bw6374 := BT_get hI6372.1.1 0 2 3 (0) (0) (900) (by decide) 2 (by decide) (by decide)
                      rw [ew6374] at bw6374
                      have bw6375 := BT_get hI6372.1.1 0 3 4 (0) (0) (900) (by decide) 3 (by decide) (by decide)
                      rw [ew6375] at bw6375
                      have bw6376 := BT_get hI6372.1.1 0 4 5 (0) (0) (900) (by decide) 4 (by decide) (by decide)
                      rw [ew6376] at bw6376
                      have bw6377 := BT_get hI6372.1.1 0 7 8 (-1) (0) (1000) (by decide) 7 (by decide) (by decide)
                      rw [ew6377] at bw6377
                      have bw6378 := BT_get hI6372.1.1 0 15 16 (0) (0) (4) (by decide) 15 (by decide) (by decide)
                      rw [ew6378] at bw6378
                      have bw6379 := BT_get hI6372.1.1 0 16 17 (0) (0) (3) (by decide) 16 (by decide) (by decide)
                      rw [ew6379] at bw6379
                      have bw6380 := BT_get hI6372.1.1 0 17 18 (-1) (0) (3) (by decide) 17 (by decide) (by decide)
                      rw [ew6380] at bw6380
                      have bw6381 := BT_get hI6372.1.1 0 18 19 (-1) (0) (2) (by decide) 18 (by decide) (by decide)
                      rw [ew6381] at bw6381
                      have e6383 : I6372 (ad g 0) 1 = L := hI6372.1.2
                      have b6384 := BT_get hI6372.1.1 0 1 2 (0) (0) (900) (by decide) 1 (by decide) (by decide)
                      rw [e6383] at b6384
                      refine WP_aload_n dX11_scan_160 rfl ?_
                      refine WP_aload_n dX11_scan_161 rfl ?_
                      refine WQ_getim dX11_scan_162 fX11_20 rfl (ly_is hy 0 11 rfl) ew6376 ?_
                      refine WP_callV1 (k := 11) dX11_scan_165 ⟨⟨⟨by decide, by decide⟩, zX11_byteAt⟩, lX11_23, by decide, rfl, vX11_byteAt.1, vX11_byteAt.2⟩ (ly_is hy 0 11 rfl) (sm_byteAtx hy hr hI6372 w6376 (by omega) (by omega)) (Nat.le_of_ble_eq_true rfl) ?_
                      intro r Ia Ja Ra hq
                      obtain ⟨⟨ea, eb, ec⟩, v6385, rfl, cv6385⟩ := hq
                      show WP _ _ _ _ (.int _ :: _) _ _ _ _
                      rw [ea, eb, ec]
                      clear ea eb ec Ia Ja Ra
                      rw [ew6374] at cv6385
                      refine WP_callS1 dX11_scan_168 ⟨⟨⟨by decide, by decide⟩, zX11_isDigit⟩, lX11_34, tX11_isDigit⟩ (sm_isDigit hy hr hI6372 v6385 ) (Nat.le_of_ble_eq_true rfl) ?_
                      intro r Ia Ja Ra hq
                      obtain ⟨⟨ea, eb, ec⟩, v6386, rfl, av6386, bv6386, cv6386⟩ := hq
                      show WP _ _ _ _ (.int _ :: _) _ _ _ _
                      rw [ea, eb, ec]
                      clear ea eb ec Ia Ja Ra
                      refine WQ_if_eq 223 dX11_scan_171 rfl (fun c6386 => ?_) (fun c6386 => ?_)
                      · refine WP_aload_n dX11_scan_223 rfl ?_
                        refine WP_aload_n dX11_scan_224 rfl ?_
                        refine WQ_getim dX11_scan_225 fX11_20 rfl (ly_is hy 0 11 rfl) ew6376 ?_
                        refine WP_aload_n dX11_scan_228 rfl ?_
                        refine WQ_getim dX11_scan_229 fX11_7 rfl (ly_is hy 0 11 rfl) ew6375 ?_
                        refine WQ_isub dX11_scan_232 (by omega) (by omega) (fun v6388 hv6388 => ?_)
                        refine WQ_iconst (4) (4) dX11_scan_233 rfl rfl (fun v6389 hv6389 => ?_)
                        have jn242_6392 : ∀ (v6392 : Int32), 2 ≤ v6392.toInt → v6392.toInt ≤ 4 → WP g mX11_scan 242 [(0, .ref (ad g 0)), (1, .int v6277)] [.int v6392, .ref (ad g 0)] I6372 J6373 R (fun r I' J' R' => (MP g n L I' ∧ R' = R ∧ fz 49 g [0] I I' ∧ (((I' (ad g 0) 4).toInt ≤ (I' (ad g 0) 2).toInt ∧ (I' (ad g 0) 3).toInt ≤ (I' (ad g 0) 4).toInt ∧ ((I' (ad g 0) 5).toInt = 0 ∨ (I' (ad g 0) 3).toInt < (I' (ad g 0) 4).toInt)) ∧ (I (ad g 0) 4).toInt ≤ (I' (ad g 0) 3).toInt) ∧ I' (ad g 0) 7 = I (ad g 0) 7 ∧ I' (ad g 0) 15 = I (ad g 0) 15 ∧ I' (ad g 0) 16 = I (ad g 0) 16 ∧ I' (ad g 0) 17 = I (ad g 0) 17 ∧ I' (ad g 0) 18 = I (ad g 0) 18) ∧ r = none) := by
                          intro v6392 av6392 bv6392
                          refine WQ_puti dX11_scan_242 fX11_27 rfl rfl (ly_is hy 0 11 rfl) (fun I6394 eI6394 => ?_)
                          have hI6394 : MP g n L I6394 := by rw [eI6394]; exact (mp_w hy hI6372 (c := 0) (mi_f hy hI6372.1 (c := 0) (0) (0) (4) (by decide) (Or.inr (by decide)) (by decide) (by omega) (by omega)) (by decide) (by decide) (Or.inr (by decide)))
                          have e6395 : I6394 (ad g 0) 2 = w6374 := by rw [eI6394, pp_ne _ _ (Or.inr (by decide))]; exact ew6374
                          have e6396 : I6394 (ad g 0) 3 = w6375 := by rw [eI6394, pp_ne _ _ (Or.inr (by decide))]; exact ew6375
                          have e6397 : I6394 (ad g 0) 4 = w6376 := by rw [eI6394, pp_ne _ _ (Or.inr (by decide))]; exact ew6376
                          have e6398 : I6394 (ad g 0) 7 = w6377 := by rw [eI6394, pp_ne _ _ (Or.inr (by decide))]; exact ew6377
                          have e6399 : I6394 (ad g 0) 15 = w6378 := by rw [eI6394, pp_ne _ _ (Or.inr (by decide))]; exact ew6378
                          have e6400 : I6394 (ad g 0) 16 = w6379 := by rw [eI6394, pp_ne _ _ (Or.inr (by decide))]; exact ew6379
                          have e6401 : I6394 (ad g 0) 17 = w6380 := by rw [eI6394, pp_ne _ _ (Or.inr (by decide))]; exact ew6380
                          have e6402 : I6394 (ad g 0) 18 = w6381 := by rw [eI6394, pp_ne _ _ (Or.inr (by decide))]; exact ew6381
                          have e6403 : I6394 (ad g 0) 1 = L := by rw [eI6394, pp_ne _ _ (Or.inr (by decide))]; exact e6383
                          have e6404 : I6394 (ad g 0) 5 = v6392 := by rw [eI6394, pp_self]
                          have fr6405 : fz 49 g [0] I I6394 := by rw [eI6394]; exact fzm_pp hy fiI6372 (by decide) (by decide)
                          clear eI6394
                          refine WP_goto 273 dX11_scan_245 rfl ?_
                          exact WP_vret dX11_scan_273 rfl ⟨⟨hI6394, rfl, fr6405, ⟨(by rw [e6395, e6396, e6397, e6404, ew6251]; omega), (by rw [e6398, ew6246] <;> exact (eq32 _ _).mpr (by omega)), (by rw [e6399, ew6247] <;> exact (eq32 _ _).mpr (by omega)), (by rw [e6400, ew6248] <;> exact (eq32 _ _).mpr (by omega)), (by rw [e6401, ew6249] <;> exact (eq32 _ _).mpr (by omega)), (by rw [e6402, ew6250] <;> exact (eq32 _ _).mpr (by omega))⟩⟩, rfl⟩
                        refine WQ_icmp_le 241 dX11_scan_234 rfl (fun c6405 => ?_) (fun c6405 => ?_)
                        · refine WQ_iconst (2) (2) dX11_scan_241 rfl rfl (fun v6407 hv6407 => ?_)
                          exact WP_sub (fc rfl (fc rfl fn)) (jn242_6392 v6407 (by omega) (by omega))
                        · refine WQ_iconst (4) (4) dX11_scan_237 rfl rfl (fun v6408 hv6408 => ?_)
                          refine WP_goto 242 dX11_scan_238 rfl ?_
                          exact WP_sub (fc rfl (fc rfl fn)) (jn242_6392 v6408 (by omega) (by omega))
                      · refine WP_aload_n dX11_scan_174 rfl ?_
                        refine WQ_getim dX11_scan_175 fX11_20 rfl (ly_is hy 0 11 rfl) ew6376 ?_
                        refine WP_aload_n dX11_scan_178 rfl ?_
                        refine WQ_getim dX11_scan_179 fX11_7 rfl (ly_is hy 0 11 rfl) ew6375 ?_
                        refine WQ_isub dX11_scan_182 (by omega) (by omega) (fun v6409 hv6409 => ?_)
                        refine WQ_iconst (4) (4) dX11_scan_183 rfl rfl (fun v6410 hv6410 => ?_)
                        refine WQ_icmp_ge 210 dX11_scan_184 rfl (fun c6410 => ?_) (fun c6410 => ?_)
                        · refine WP_aload_n dX11_scan_210 rfl ?_
                          refine WP_dup dX11_scan_211 rfl ?_
                          refine WQ_getim dX11_scan_212 fX11_20 rfl (ly_is hy 0 11 rfl) ew6376 ?_
                          refine WQ_iconst (1) (1) dX11_scan_215 rfl rfl (fun v6412 hv6412 => ?_)
                          refine WQ_iadd dX11_scan_216 (by omega) (by omega) (fun v6413 hv6413 => ?_)
                          refine WQ_puti dX11_scan_217 fX11_20 rfl rfl (ly_is hy 0 11 rfl) (fun I6414 eI6414 => ?_)
                          have hI6414 : MP g n L I6414 := by rw [eI6414]; exact (mp_w hy hI6372 (c := 0) (mi_f hy hI6372.1 (c := 0) (0) (0) (900) (by decide) (Or.inr (by decide)) (by decide) (by omega) (by omega)) (by decide) (by decide) (Or.inr (by decide)))
                          have e6415 : I6414 (ad g 0) 2 = w6374 := by rw [eI6414, pp_ne _ _ (Or.inr (by decide))]; exact ew6374
                          have e6416 : I6414 (ad g 0) 3 = w6375 := by rw [eI6414, pp_ne _ _ (Or.inr (by decide))]; exact ew6375
                          have e6417 : I6414 (ad g 0) 7 = w6377 := by rw [eI6414, pp_ne _ _ (Or.inr (by decide))]; exact ew6377
                          have e6418 : I6414 (ad g 0) 15 = w6378 := by rw [eI6414, pp_ne _ _ (Or.inr (by decide))]; exact ew6378
                          have e6419 : I6414 (ad g 0) 16 = w6379 := by rw [eI6414, pp_ne _ _ (Or.inr (by decide))]; exact ew6379
                          have e6420 : I6414 (ad g 0) 17 = w6380 := by rw [eI6414, pp_ne _ _ (Or.inr (by decide))]; exact ew6380
                          have e6421 : I6414 (ad g 0) 18 = w6381 := by rw [eI6414, pp_ne _ _ (Or.inr (by decide))]; exact ew6381
                          have e6422 : I6414 (ad g 0) 1 = L := by rw [eI6414, pp_ne _ _ (Or.inr (by decide))]; exact e6383
                          have e6423 : I6414 (ad g 0) 4 = v6413 := by rw [eI6414, pp_self]
                          have fr6424 : fz 49 g [0] I I6414 := by rw [eI6414]; exact fzm_pp hy fiI6372 (by decide) (by decide)
                          clear eI6414
                          refine WP_goto 160 dX11_scan_220 rfl ?_
                          exact WP_sub (fc rfl (fc rfl fn)) (ihlp160_6381 I6414 J6373 hI6414 fr6424 w6374 e6415 w6375 e6416 v6413 e6423 w6377 e6417 w6378 e6418 w6379 e6419 w6380 e6420 w6381 e6421 (by omega) (by omega) (by omega) (by omega) (by omega) (by omega) (by omega) (by omega) (by omega))
                        · refine WP_aload_n dX11_scan_187 rfl ?_
                          refine WQ_bipush (10) (10) dX11_scan_188 rfl rfl (fun v6425 hv6425 => ?_)
                          refine WP_aload_n dX11_scan_190 rfl ?_
                          refine WQ_getiu dX11_scan_191 fX11_37 rfl (ly_is hy 0 11 rfl) (fun v6426 ev6426 => ?_)
                          refine WQ_imulu dX11_scan_194 (fun v6427 => ?_)
                          refine WP_aload_n dX11_scan_195 rfl ?_
                          refine WP_aload_n dX11_scan_196 rfl ?_
                          refine WQ_getim dX11_scan_197 fX11_20 rfl (ly_is hy 0 11 rfl) ew6376 ?_
                          refine WP_callV1 (k := 11) dX11_scan_200 ⟨⟨⟨by decide, by decide⟩, zX11_byteAt⟩, lX11_23, by decide, rfl, vX11_byteAt.1, vX11_byteAt.2⟩ (ly_is hy 0 11 rfl) (sm_byteAtx hy hr hI6372 w6376 (by omega) (by omega)) (Nat.le_of_ble_eq_true rfl) ?_
                          intro r Ia Ja Ra hq
                          obtain ⟨⟨ea, eb, ec⟩, v6428, rfl, cv6428⟩ := hq
                          show WP _ _ _ _ (.int _ :: _) _ _ _ _
                          rw [ea, eb, ec]
                          clear ea eb ec Ia Ja Ra
                          rw [ew6374] at cv6428
                          refine WQ_iaddu dX11_scan_203 (fun v6429 => ?_)
                          refine WQ_bipush (48) (48) dX11_scan_204 rfl rfl (fun v6430 hv6430 => ?_)
                          refine WQ_isubu dX11_scan_206 (fun v6431 => ?_)
                          refine WQ_puti dX11_scan_207 fX11_37 rfl rfl (ly_is hy 0 11 rfl) (fun I6432 eI6432 => ?_)
                          have hI6432 : MP g n L I6432 := by rw [eI6432]; exact (mp_w hy hI6372 (c := 0) (mi_f0 hy hI6372.1 (c := 0) (by decide) (Or.inr (by decide)) (by decide)) (by decide) (by decide) (Or.inr (by decide)))
                          have e6433 : I6432 (ad g 0) 2 = w6374 := by rw [eI6432, pp_ne _ _ (Or.inr (by decide))]; exact ew6374
                          have e6434 : I6432 (ad g 0) 3 = w6375 := by rw [eI6432, pp_ne _ _ (Or.inr (by decide))]; exact ew6375
                          have e6435 : I6432 (ad g 0) 4 = w6376 := by rw [eI6432, pp_ne _ _ (Or.inr (by decide))]; exact ew6376
                          have e6436 : I6432 (ad g 0) 7 = w6377 := by rw [eI6432, pp_ne _ _ (Or.inr (by decide))]; exact ew6377
                          have e6437 : I6432 (ad g 0) 15 = w6378 := by rw [eI6432, pp_ne _ _ (Or.inr (by decide))]; exact ew6378
                          have e6438 : I6432 (ad g 0) 16 = w6379 := by rw [eI6432, pp_ne _ _ (Or.inr (by decide))]; exact ew6379
                          have e6439 : I6432 (ad g 0) 17 = w6380 := by rw [eI6432, pp_ne _ _ (Or.inr (by decide))]; exact ew6380
                          have e6440 : I6432 (ad g 0) 18 = w6381 := by rw [eI6432, pp_ne _ _ (Or.inr (by decide))]; exact ew6381
                          have e6441 : I6432 (ad g 0) 1 = L := by rw [eI6432, pp_ne _ _ (Or.inr (by decide))]; exact e6383
                          have e6442 : I6432 (ad g 0) 6 = v6431 := by rw [eI6432, pp_self]
                          have fr6443 : fz 49 g [0] I I6432 := by rw [eI6432]; exact fzm_pp hy fiI6372 (by decide) (by decide)
                          clear eI6432
                          refine WP_aload_n dX11_scan_210 rfl ?_
                          refine WP_dup dX11_scan_211 rfl ?_
                          refine WQ_getim dX11_scan_212 fX11_20 rfl (ly_is hy 0 11 rfl) e6435 ?_
                          refine WQ_iconst (1) (1) dX11_scan_215 rfl rfl (fun v6444 hv6444 => ?_)
                          refine WQ_iadd dX11_scan_216 (by omega) (by omega) (fun v6445 hv6445 => ?_)
                          refine WQ_puti dX11_scan_217 fX11_20 rfl rfl (ly_is hy 0 11 rfl) (fun I6446 eI6446 => ?_)
                          have hI6446 : MP g n L I6446 := by rw [eI6446]; exact (mp_w hy hI6432 (c := 0) (mi_f hy hI6432.1 (c := 0) (0) (0) (900) (by decide) (Or.inr (by decide)) (by decide) (by omega) (by omega)) (by decide) (by decide) (Or.inr (by decide)))
                          have e6447 : I6446 (ad g 0) 2 = w6374 := by rw [eI6446, pp_ne _ _ (Or.inr (by decide))]; exact e6433
                          have e6448 : I6446 (ad g 0) 3 = w6375 := by rw [eI6446, pp_ne _ _ (Or.inr (by decide))]; exact e6434
                          have e6449 : I6446 (ad g 0) 7 = w6377 := by rw [eI6446, pp_ne _ _ (Or.inr (by decide))]; exact e6436
                          have e6450 : I6446 (ad g 0) 15 = w6378 := by rw [eI6446, pp_ne _ _ (Or.inr (by decide))]; exact e6437
                          have e6451 : I6446 (ad g 0) 16 = w6379 := by rw [eI6446, pp_ne _ _ (Or.inr (by decide))]; exact e6438
                          have e6452 : I6446 (ad g 0) 17 = w6380 := by rw [eI6446, pp_ne _ _ (Or.inr (by decide))]; exact e6439
                          have e6453 : I6446 (ad g 0) 18 = w6381 := by rw [eI6446, pp_ne _ _ (Or.inr (by decide))]; exact e6440
                          have e6454 : I6446 (ad g 0) 1 = L := by rw [eI6446, pp_ne _ _ (Or.inr (by decide))]; exact e6441
                          have e6455 : I6446 (ad g 0) 6 = v6431 := by rw [eI6446, pp_ne _ _ (Or.inr (by decide))]; exact e6442
                          have e6456 : I6446 (ad g 0) 4 = v6445 := by rw [eI6446, pp_self]
                          have fr6457 : fz 49 g [0] I I6446 := by rw [eI6446]; exact fzm_pp hy fr6443 (by decide) (by decide)
                          clear eI6446
                          refine WP_goto 160 dX11_scan_220 rfl ?_
                          exact WP_sub (fc rfl (fc rfl fn)) (ihlp160_6381 I6446 J6373 hI6446 fr6457 w6374 e6447 w6375 e6448 v6445 e6456 w6377 e6449 w6378 e6450 w6379 e6451 w6380 e6452 w6381 e6453 (by omega) (by omega) (by omega) (by omega) (by omega) (by omega) (by omega) (by omega) (by omega))
                  exact WP_sub (fc rfl (fc rfl fn)) (lp160_6381 _ I6360 J6254 hI6360 fr6371 w6255 e6361 w6256 e6368 v6359 e6370 w6257 e6362 w6258 e6363 w6259 e6364 w6260 e6365 w6261 e6366 (by omega) (by omega) (by omega) (by omega) (by omega) (by omega) (by omega) (by omega) (Nat.lt_succ_self _))
                · refine WP_aload_n dX11_scan_187 rfl ?_
                  refine WQ_bipush (10) (10) dX11_scan_188 rfl rfl (fun v6458 hv6458 => ?_)
                  refine WP_aload_n dX11_scan_190 rfl ?_
                  refine WQ_getim dX11_scan_191 fX11_37 rfl (ly_is hy 0 11 rfl) e6328 ?_
                  refine WQ_imulk (0) dX11_scan_194 hv6317 (by omega) (by omega) (fun v6459 hv6459 => ?_)
                  refine WP_aload_n dX11_scan_195 rfl ?_
                  refine WP_aload_n dX11_scan_196 rfl ?_
                  refine WQ_getim dX11_scan_197 fX11_20 rfl (ly_is hy 0 11 rfl) e6320 ?_
                  refine WP_callV1 (k := 11) dX11_scan_200 ⟨⟨⟨by decide, by decide⟩, zX11_byteAt⟩, lX11_23, by decide, rfl, vX11_byteAt.1, vX11_byteAt.2⟩ (ly_is hy 0 11 rfl) (sm_byteAtx hy hr hI6318 w6256 (by omega) (by omega)) (Nat.le_of_ble_eq_true rfl) ?_
                  intro r Ia Ja Ra hq
                  obtain ⟨⟨ea, eb, ec⟩, v6460, rfl, cv6460⟩ := hq
                  show WP _ _ _ _ (.int _ :: _) _ _ _ _
                  rw [ea, eb, ec]
                  clear ea eb ec Ia Ja Ra
                  rw [e6319] at cv6460
                  refine WQ_iaddu dX11_scan_203 (fun v6461 => ?_)
                  refine WQ_bipush (48) (48) dX11_scan_204 rfl rfl (fun v6462 hv6462 => ?_)
                  refine WQ_isubu dX11_scan_206 (fun v6463 => ?_)
                  refine WQ_puti dX11_scan_207 fX11_37 rfl rfl (ly_is hy 0 11 rfl) (fun I6464 eI6464 => ?_)
                  have hI6464 : MP g n L I6464 := by rw [eI6464]; exact (mp_w hy hI6318 (c := 0) (mi_f0 hy hI6318.1 (c := 0) (by decide) (Or.inr (by decide)) (by decide)) (by decide) (by decide) (Or.inr (by decide)))
                  have e6465 : I6464 (ad g 0) 2 = w6255 := by rw [eI6464, pp_ne _ _ (Or.inr (by decide))]; exact e6319
                  have e6466 : I6464 (ad g 0) 4 = w6256 := by rw [eI6464, pp_ne _ _ (Or.inr (by decide))]; exact e6320
                  have e6467 : I6464 (ad g 0) 7 = w6257 := by rw [eI6464, pp_ne _ _ (Or.inr (by decide))]; exact e6321
                  have e6468 : I6464 (ad g 0) 15 = w6258 := by rw [eI6464, pp_ne _ _ (Or.inr (by decide))]; exact e6322
                  have e6469 : I6464 (ad g 0) 16 = w6259 := by rw [eI6464, pp_ne _ _ (Or.inr (by decide))]; exact e6323
                  have e6470 : I6464 (ad g 0) 17 = w6260 := by rw [eI6464, pp_ne _ _ (Or.inr (by decide))]; exact e6324
                  have e6471 : I6464 (ad g 0) 18 = w6261 := by rw [eI6464, pp_ne _ _ (Or.inr (by decide))]; exact e6325
                  have e6472 : I6464 (ad g 0) 1 = L := by rw [eI6464, pp_ne _ _ (Or.inr (by decide))]; exact e6326
                  have e6473 : I6464 (ad g 0) 3 = w6256 := by rw [eI6464, pp_ne _ _ (Or.inr (by decide))]; exact e6327
                  have e6474 : I6464 (ad g 0) 6 = v6463 := by rw [eI6464, pp_self]
                  have fr6475 : fz 49 g [0] I I6464 := by rw [eI6464]; exact fzm_pp hy fr6329 (by decide) (by decide)
                  have BI6464 : v6277 = BF g I6464 w6256 := by rw [eI6464, BF_w hy (by decide)]; exact BI6318
                  clear eI6464
                  refine WP_aload_n dX11_scan_210 rfl ?_
                  refine WP_dup dX11_scan_211 rfl ?_
                  refine WQ_getim dX11_scan_212 fX11_20 rfl (ly_is hy 0 11 rfl) e6466 ?_
                  refine WQ_iconst (1) (1) dX11_scan_215 rfl rfl (fun v6476 hv6476 => ?_)
                  refine WQ_iadd dX11_scan_216 (by omega) (by omega) (fun v6477 hv6477 => ?_)
                  refine WQ_puti dX11_scan_217 fX11_20 rfl rfl (ly_is hy 0 11 rfl) (fun I6478 eI6478 => ?_)
                  have hI6478 : MP g n L I6478 := by rw [eI6478]; exact (mp_w hy hI6464 (c := 0) (mi_f hy hI6464.1 (c := 0) (0) (0) (900) (by decide) (Or.inr (by decide)) (by decide) (by omega) (by omega)) (by decide) (by decide) (Or.inr (by decide)))
                  have e6479 : I6478 (ad g 0) 2 = w6255 := by rw [eI6478, pp_ne _ _ (Or.inr (by decide))]; exact e6465
                  have e6480 : I6478 (ad g 0) 7 = w6257 := by rw [eI6478, pp_ne _ _ (Or.inr (by decide))]; exact e6467
                  have e6481 : I6478 (ad g 0) 15 = w6258 := by rw [eI6478, pp_ne _ _ (Or.inr (by decide))]; exact e6468
                  have e6482 : I6478 (ad g 0) 16 = w6259 := by rw [eI6478, pp_ne _ _ (Or.inr (by decide))]; exact e6469
                  have e6483 : I6478 (ad g 0) 17 = w6260 := by rw [eI6478, pp_ne _ _ (Or.inr (by decide))]; exact e6470
                  have e6484 : I6478 (ad g 0) 18 = w6261 := by rw [eI6478, pp_ne _ _ (Or.inr (by decide))]; exact e6471
                  have e6485 : I6478 (ad g 0) 1 = L := by rw [eI6478, pp_ne _ _ (Or.inr (by decide))]; exact e6472
                  have e6486 : I6478 (ad g 0) 3 = w6256 := by rw [eI6478, pp_ne _ _ (Or.inr (by decide))]; exact e6473
                  have e6487 : I6478 (ad g 0) 6 = v6463 := by rw [eI6478, pp_ne _ _ (Or.inr (by decide))]; exact e6474
                  have e6488 : I6478 (ad g 0) 4 = v6477 := by rw [eI6478, pp_self]
                  have fr6489 : fz 49 g [0] I I6478 := by rw [eI6478]; exact fzm_pp hy fr6475 (by decide) (by decide)
                  have BI6478 : v6277 = BF g I6478 w6256 := by rw [eI6478, BF_w hy (by decide)]; exact BI6464
                  clear eI6478
                  refine WP_goto 160 dX11_scan_220 rfl ?_
                  have lp160_6499 : ∀ (mz : Nat)  (I6490 : pI) (J6491 : pJ), MP g n L I6490 → fz 49 g [0] I I6490 → ∀ (w6492 : Int32), I6490 (ad g 0) 2 = w6492 → ∀ (w6493 : Int32), I6490 (ad g 0) 3 = w6493 → ∀ (w6494 : Int32), I6490 (ad g 0) 4 = w6494 → ∀ (w6495 : Int32), I6490 (ad g 0) 7 = w6495 → ∀ (w6496 : Int32), I6490 (ad g 0) 15 = w6496 → ∀ (w6497 : Int32), I6490 (ad g 0) 16 = w6497 → ∀ (w6498 : Int32), I6490 (ad g 0) 17 = w6498 → ∀ (w6499 : Int32), I6490 (ad g 0) 18 = w6499 → w6494.toInt ≤ w6492.toInt → w6493.toInt < w6494.toInt → w6251.toInt ≤ w6493.toInt → w6495.toInt = w6246.toInt → w6496.toInt = w6247.toInt → w6497.toInt = w6248.toInt → w6498.toInt = w6249.toInt → w6499.toInt = w6250.toInt → (901 - w6494.toInt).toNat < mz → WP g mX11_scan 160 [(0, .ref (ad g 0)), (1, .int v6277)] [] I6490 J6491 R (fun r I' J' R' => (MP g n L I' ∧ R' = R ∧ fz 49 g [0] I I' ∧ (((I' (ad g 0) 4).toInt ≤ (I' (ad g 0) 2).toInt ∧ (I' (ad g 0) 3).toInt ≤ (I' (ad g 0) 4).toInt ∧ ((I' (ad g 0) 5).toInt = 0 ∨ (I' (ad g 0) 3).toInt < (I' (ad g 0) 4).toInt)) ∧ (I (ad g 0) 4).toInt ≤ (I' (ad g 0) 3).toInt) ∧ I' (ad g 0) 7 = I (ad g 0) 7 ∧ I' (ad g 0) 15 = I (ad g 0) 15 ∧ I' (ad g 0) 16 = I (ad g 0) 16 ∧ I' (ad g 0) 17 = I (ad g 0) 17 ∧ I' (ad g 0) 18 = I (ad g 0) 18) ∧ r = none) := by
                    intro mz
                    induction mz with
                    | zero =>
                      intro  I6490 J6491 hI6490 fiI6490 w6492 ew6492 w6493 ew6493 w6494 ew6494 w6495 ew6495 w6496 ew6496 w6497 ew6497 w6498 ew6498 w6499 ew6499 j0_I6490 j1_I6490 j2_I6490 j3_I6490 j4_I6490 j5_I6490 j6_I6490 j7_I6490 hmlp160_6499
                      exact absurd hmlp160_6499 (Nat.not_lt_zero _)
                    | succ mz ihlp160_6499 =>
                      intro  I6490 J6491 hI6490 fiI6490 w6492 ew6492 w6493 ew6493 w6494 ew6494 w6495 ew6495 w6496 ew6496 w6497 ew6497 w6498 ew6498 w6499 ew6499 j0_I6490 j1_I6490 j2_I6490 j3_I6490 j4_I6490 j5_I6490 j6_I6490 j7_I6490 hmlp160_6499
                      have bw6492 := BT_get hI6490.1.1 0 2 3 (0) (0) (900) (by decide) 2 (by decide) (by decide)
                      rw [ew6492] at bw6492
                      have bw6493 := BT_get hI6490.1.1 0 3 4 (0) (0) (900) (by decide) 3 (by decide) (by decide)
                      rw [ew6493] at bw6493
                      have bw6494 := BT_get hI6490.1.1 0 4 5 (0) (0) (900) (by decide) 4 (by decide) (by decide)
                      rw [ew6494] at bw6494
                      have bw6495 := BT_get hI6490.1.1 0 7 8 (-1) (0) (1000) (by decide) 7 (by decide) (by decide)
                      rw [ew6495] at bw6495
                      have bw6496 := BT_get hI6490.1.1 0 15 16 (0) (0) (4) (by decide) 15 (by decide) (by decide)
                      rw [ew6496] at bw6496
                      have bw6497 := BT_get hI6490.1.1 0 16 17 (0) (0) (3) (by decide) 16 (by decide) (by decide)
                      rw [ew6497] at bw6497
                      have bw6498 := BT_get hI6490.1.1 0 17 18 (-1) (0) (3) (by decide) 17 (by decide) (by decide)
                      rw [ew6498] at bw6498
                      have bw6499 := BT_get hI6490.1.1 0 18 19 (-1) (0) (2) (by decide) 18 (by decide) (by decide)
                      rw [ew6499] at bw6499
                      have e6501 : I6490 (ad g 0) 1 = L := hI6490.1.2
                      have b6502 := BT_get hI6490.1.1 0 1 2 (0) (0) (900) (by decide) 1 (by decide) (by decide)
                      rw [e6501] at b6502
                      refine WP_aload_n dX11_scan_160 rfl ?_
                      refine WP_aload_n dX11_scan_161 rfl ?_
                      refine WQ_getim dX11_scan_162 fX11_20 rfl (ly_is hy 0 11 rfl) ew6494 ?_
                      refine WP_callV1 (k := 11) dX11_scan_165 ⟨⟨⟨by decide, by decide⟩, zX11_byteAt⟩, lX11_23, by decide, rfl, vX11_byteAt.1, vX11_byteAt.2⟩ (ly_is hy 0 11 rfl) (sm_byteAtx hy hr hI6490 w6494 (by omega) (by omega)) (Nat.le_of_ble_eq_true rfl) ?_
                      intro r Ia Ja Ra hq
                      obtain ⟨⟨ea, eb, ec⟩, v6503, rfl, cv6503⟩ := hq
                      show WP _ _ _ _ (.int _ :: _) _ _ _ _
                      rw [ea, eb, ec]
                      clear ea eb ec Ia Ja Ra
                      rw [ew6492] at cv6503
                      refine WP_callS1 dX11_scan_168 ⟨⟨⟨by decide, by decide⟩, zX11_isDigit⟩, lX11_34, tX11_isDigit⟩ (sm_isDigit hy hr hI6490 v6503 ) (Nat.le_of_ble_eq_true rfl) ?_
                      intro r Ia Ja Ra hq
                      obtain ⟨⟨ea, eb, ec⟩, v6504, rfl, av6504, bv6504, cv6504⟩ := hq
                      show WP _ _ _ _ (.int _ :: _) _ _ _ _
                      rw [ea, eb, ec]
                      clear ea eb ec Ia Ja Ra
                      refine WQ_if_eq 223 dX11_scan_171 rfl (fun c6504 => ?_) (fun c6504 => ?_)
                      · refine WP_aload_n dX11_scan_223 rfl ?_
                        refine WP_aload_n dX11_scan_224 rfl ?_
                        refine WQ_getim dX11_scan_225 fX11_20 rfl (ly_is hy 0 11 rfl) ew6494 ?_
                        refine WP_aload_n dX11_scan_228 rfl ?_
                        refine WQ_getim dX11_scan_229 fX11_7 rfl (ly_is hy 0 11 rfl) ew6493 ?_
                        refine WQ_isub dX11_scan_232 (by omega) (by omega) (fun v6506 hv6506 => ?_)
                        refine WQ_iconst (4) (4) dX11_scan_233 rfl rfl (fun v6507 hv6507 => ?_)
                        have jn242_6510 : ∀ (v6510 : Int32), 2 ≤ v6510.toInt → v6510.toInt ≤ 4 → WP g mX11_scan 242 [(0, .ref (ad g 0)), (1, .int v6277)] [.int v6510, .ref (ad g 0)] I6490 J6491 R (fun r I' J' R' => (MP g n L I' ∧ R' = R ∧ fz 49 g [0] I I' ∧ (((I' (ad g 0) 4).toInt ≤ (I' (ad g 0) 2).toInt ∧ (I' (ad g 0) 3).toInt ≤ (I' (ad g 0) 4).toInt ∧ ((I' (ad g 0) 5).toInt = 0 ∨ (I' (ad g 0) 3).toInt < (I' (ad g 0) 4).toInt)) ∧ (I (ad g 0) 4).toInt ≤ (I' (ad g 0) 3).toInt) ∧ I' (ad g 0) 7 = I (ad g 0) 7 ∧ I' (ad g 0) 15 = I (ad g 0) 15 ∧ I' (ad g 0) 16 = I (ad g 0) 16 ∧ I' (ad g 0) 17 = I (ad g 0) 17 ∧ I' (ad g 0) 18 = I (ad g 0) 18) ∧ r = none) := by
                          intro v6510 av6510 bv6510
                          refine WQ_puti dX11_scan_242 fX11_27 rfl rfl (ly_is hy 0 11 rfl) (fun I6512 eI6512 => ?_)
                          have hI6512 : MP g n L I6512 := by rw [eI6512]; exact (mp_w hy hI6490 (c := 0) (mi_f hy hI6490.1 (c := 0) (0) (0) (4) (by decide) (Or.inr (by decide)) (by decide) (by omega) (by omega)) (by decide) (by decide) (Or.inr (by decide)))
                          have e6513 : I6512 (ad g 0) 2 = w6492 := by rw [eI6512, pp_ne _ _ (Or.inr (by decide))]; exact ew6492
                          have e6514 : I6512 (ad g 0) 3 = w6493 := by rw [eI6512, pp_ne _ _ (Or.inr (by decide))]; exact ew6493
                          have e6515 : I6512 (ad g 0) 4 = w6494 := by rw [eI6512, pp_ne _ _ (Or.inr (by decide))]; exact ew6494
                          have e6516 : I6512 (ad g 0) 7 = w6495 := by rw [eI6512, pp_ne _ _ (Or.inr (by decide))]; exact ew6495
                          have e6517 : I6512 (ad g 0) 15 = w6496 := by rw [eI6512, pp_ne _ _ (Or.inr (by decide))]; exact ew6496
                          have e6518 : I6512 (ad g 0) 16 = w6497 := by rw [eI6512, pp_ne _ _ (Or.inr (by decide))]; exact ew6497
                          have e6519 : I6512 (ad g 0) 17 = w6498 := by rw [eI6512, pp_ne _ _ (Or.inr (by decide))]; exact ew6498
                          have e6520 : I6512 (ad g 0) 18 = w6499 := by rw [eI6512, pp_ne _ _ (Or.inr (by decide))]; exact ew6499
                          have e6521 : I6512 (ad g 0) 1 = L := by rw [eI6512, pp_ne _ _ (Or.inr (by decide))]; exact e6501
                          have e6522 : I6512 (ad g 0) 5 = v6510 := by rw [eI6512, pp_self]
                          have fr6523 : fz 49 g [0] I I6512 := by rw [eI6512]; exact fzm_pp hy fiI6490 (by decide) (by decide)
                          clear eI6512
                          refine WP_goto 273 dX11_scan_245 rfl ?_
                          exact WP_vret dX11_scan_273 rfl ⟨⟨hI6512, rfl, fr6523, ⟨(by rw [e6513, e6514, e6515, e6522, ew6251]; omega), (by rw [e6516, ew6246] <;> exact (eq32 _ _).mpr (by omega)), (by rw [e6517, ew6247] <;> exact (eq32 _ _).mpr (by omega)), (by rw [e6518, ew6248] <;> exact (eq32 _ _).mpr (by omega)), (by rw [e6519, ew6249] <;> exact (eq32 _ _).mpr (by omega)), (by rw [e6520, ew6250] <;> exact (eq32 _ _).mpr (by omega))⟩⟩, rfl⟩
                        refine WQ_icmp_le 241 dX11_scan_234 rfl (fun c6523 => ?_) (fun c6523 => ?_)
                        · refine WQ_iconst (2) (2) dX11_scan_241 rfl rfl (fun v6525 hv6525 => ?_)
                          exact WP_sub (fc rfl (fc rfl fn)) (jn242_6510 v6525 (by omega) (by omega))
                        · refine WQ_iconst (4) (4) dX11_scan_237 rfl rfl (fun v6526 hv6526 => ?_)
                          refine WP_goto 242 dX11_scan_238 rfl ?_
                          exact WP_sub (fc rfl (fc rfl fn)) (jn242_6510 v6526 (by omega) (by omega))
                      · refine WP_aload_n dX11_scan_174 rfl ?_
                        refine WQ_getim dX11_scan_175 fX11_20 rfl (ly_is hy 0 11 rfl) ew6494 ?_
                        refine WP_aload_n dX11_scan_178 rfl ?_
                        refine WQ_getim dX11_scan_179 fX11_7 rfl (ly_is hy 0 11 rfl) ew6493 ?_
                        refine WQ_isub dX11_scan_182 (by omega) (by omega) (fun v6527 hv6527 => ?_)
                        refine WQ_iconst (4) (4) dX11_scan_183 rfl rfl (fun v6528 hv6528 => ?_)
                        refine WQ_icmp_ge 210 dX11_scan_184 rfl (fun c6528 => ?_) (fun c6528 => ?_)
                        · refine WP_aload_n dX11_scan_210 rfl ?_
                          refine WP_dup dX11_scan_211 rfl ?_
                          refine WQ_getim dX11_scan_212 fX11_20 rfl (ly_is hy 0 11 rfl) ew6494 ?_
                          refine WQ_iconst (1) (1) dX11_scan_215 rfl rfl (fun v6530 hv6530 => ?_)
                          refine WQ_iadd dX11_scan_216 (by omega) (by omega) (fun v6531 hv6531 => ?_)
                          refine WQ_puti dX11_scan_217 fX11_20 rfl rfl (ly_is hy 0 11 rfl) (fun I6532 eI6532 => ?_)
                          have hI6532 : MP g n L I6532 := by rw [eI6532]; exact (mp_w hy hI6490 (c := 0) (mi_f hy hI6490.1 (c := 0) (0) (0) (900) (by decide) (Or.inr (by decide)) (by decide) (by omega) (by omega)) (by decide) (by decide) (Or.inr (by decide)))
                          have e6533 : I6532 (ad g 0) 2 = w6492 := by rw [eI6532, pp_ne _ _ (Or.inr (by decide))]; exact ew6492
                          have e6534 : I6532 (ad g 0) 3 = w6493 := by rw [eI6532, pp_ne _ _ (Or.inr (by decide))]; exact ew6493
                          have e6535 : I6532 (ad g 0) 7 = w6495 := by rw [eI6532, pp_ne _ _ (Or.inr (by decide))]; exact ew6495
                          have e6536 : I6532 (ad g 0) 15 = w6496 := by rw [eI6532, pp_ne _ _ (Or.inr (by decide))]; exact ew6496
                          have e6537 : I6532 (ad g 0) 16 = w6497 := by rw [eI6532, pp_ne _ _ (Or.inr (by decide))]; exact ew6497
                          have e6538 : I6532 (ad g 0) 17 = w6498 := by rw [eI6532, pp_ne _ _ (Or.inr (by decide))]; exact ew6498
                          have e6539 : I6532 (ad g 0) 18 = w6499 := by rw [eI6532, pp_ne _ _ (Or.inr (by decide))]; exact ew6499
                          have e6540 : I6532 (ad g 0) 1 = L := by rw [eI6532, pp_ne _ _ (Or.inr (by decide))]; exact e6501
                          have e6541 : I6532 (ad g 0) 4 = v6531 := by rw [eI6532, pp_self]
                          have fr6542 : fz 49 g [0] I I6532 := by rw [eI6532]; exact fzm_pp hy fiI6490 (by decide) (by decide)
                          clear eI6532
                          refine WP_goto 160 dX11_scan_220 rfl ?_
                          exact WP_sub (fc rfl (fc rfl fn)) (ihlp160_6499 I6532 J6491 hI6532 fr6542 w6492 e6533 w6493 e6534 v6531 e6541 w6495 e6535 w6496 e6536 w6497 e6537 w6498 e6538 w6499 e6539 (by omega) (by omega) (by omega) (by omega) (by omega) (by omega) (by omega) (by omega) (by omega))
                        · refine WP_aload_n dX11_scan_187 rfl ?_
                          refine WQ_bipush (10) (10) dX11_scan_188 rfl rfl (fun v6543 hv6543 => ?_)
                          refine WP_aload_n dX11_scan_190 rfl ?_
                          refine WQ_getiu dX11_scan_191 fX11_37 rfl (ly_is hy 0 11 rfl) (fun v6544 ev6544 => ?_)
                          refine WQ_imulu dX11_scan_194 (fun v6545 => ?_)
                          refine WP_aload_n dX11_scan_195 rfl ?_
                          refine WP_aload_n dX11_scan_196 rfl ?_
                          refine WQ_getim dX11_scan_197 fX11_20 rfl (ly_is hy 0 11 rfl) ew6494 ?_
                          refine WP_callV1 (k := 11) dX11_scan_200 ⟨⟨⟨by decide, by decide⟩, zX11_byteAt⟩, lX11_23, by decide, rfl, vX11_byteAt.1, vX11_byteAt.2⟩ (ly_is hy 0 11 rfl) (sm_byteAtx hy hr hI6490 w6494 (by omega) (by omega)) (Nat.le_of_ble_eq_true rfl) ?_
                          intro r Ia Ja Ra hq
                          obtain ⟨⟨ea, eb, ec⟩, v6546, rfl, cv6546⟩ := hq
                          show WP _ _ _ _ (.int _ :: _) _ _ _ _
                          rw [ea, eb, ec]
                          clear ea eb ec Ia Ja Ra
                          rw [ew6492] at cv6546
                          refine WQ_iaddu dX11_scan_203 (fun v6547 => ?_)
                          refine WQ_bipush (48) (48) dX11_scan_204 rfl rfl (fun v6548 hv6548 => ?_)
                          refine WQ_isubu dX11_scan_206 (fun v6549 => ?_)
                          refine WQ_puti dX11_scan_207 fX11_37 rfl rfl (ly_is hy 0 11 rfl) (fun I6550 eI6550 => ?_)
                          have hI6550 : MP g n L I6550 := by rw [eI6550]; exact (mp_w hy hI6490 (c := 0) (mi_f0 hy hI6490.1 (c := 0) (by decide) (Or.inr (by decide)) (by decide)) (by decide) (by decide) (Or.inr (by decide)))
                          have e6551 : I6550 (ad g 0) 2 = w6492 := by rw [eI6550, pp_ne _ _ (Or.inr (by decide))]; exact ew6492
                          have e6552 : I6550 (ad g 0) 3 = w6493 := by rw [eI6550, pp_ne _ _ (Or.inr (by decide))]; exact ew6493
                          have e6553 : I6550 (ad g 0) 4 = w6494 := by rw [eI6550, pp_ne _ _ (Or.inr (by decide))]; exact ew6494
                          have e6554 : I6550 (ad g 0) 7 = w6495 := by rw [eI6550, pp_ne _ _ (Or.inr (by decide))]; exact ew6495
                          have e6555 : I6550 (ad g 0) 15 = w6496 := by rw [eI6550, pp_ne _ _ (Or.inr (by decide))]; exact ew6496
                          have e6556 : I6550 (ad g 0) 16 = w6497 := by rw [eI6550, pp_ne _ _ (Or.inr (by decide))]; exact ew6497
                          have e6557 : I6550 (ad g 0) 17 = w6498 := by rw [eI6550, pp_ne _ _ (Or.inr (by decide))]; exact ew6498
                          have e6558 : I6550 (ad g 0) 18 = w6499 := by rw [eI6550, pp_ne _ _ (Or.inr (by decide))]; exact ew6499
                          have e6559 : I6550 (ad g 0) 1 = L := by rw [eI6550, pp_ne _ _ (Or.inr (by decide))]; exact e6501
                          have e6560 : I6550 (ad g 0) 6 = v6549 := by rw [eI6550, pp_self]
                          have fr6561 : fz 49 g [0] I I6550 := by rw [eI6550]; exact fzm_pp hy fiI6490 (by decide) (by decide)
                          clear eI6550
                          refine WP_aload_n dX11_scan_210 rfl ?_
                          refine WP_dup dX11_scan_211 rfl ?_
                          refine WQ_getim dX11_scan_212 fX11_20 rfl (ly_is hy 0 11 rfl) e6553 ?_
                          refine WQ_iconst (1) (1) dX11_scan_215 rfl rfl (fun v6562 hv6562 => ?_)
                          refine WQ_iadd dX11_scan_216 (by omega) (by omega) (fun v6563 hv6563 => ?_)
                          refine WQ_puti dX11_scan_217 fX11_20 rfl rfl (ly_is hy 0 11 rfl) (fun I6564 eI6564 => ?_)
                          have hI6564 : MP g n L I6564 := by rw [eI6564]; exact (mp_w hy hI6550 (c := 0) (mi_f hy hI6550.1 (c := 0) (0) (0) (900) (by decide) (Or.inr (by decide)) (by decide) (by omega) (by omega)) (by decide) (by decide) (Or.inr (by decide)))
                          have e6565 : I6564 (ad g 0) 2 = w6492 := by rw [eI6564, pp_ne _ _ (Or.inr (by decide))]; exact e6551
                          have e6566 : I6564 (ad g 0) 3 = w6493 := by rw [eI6564, pp_ne _ _ (Or.inr (by decide))]; exact e6552
                          have e6567 : I6564 (ad g 0) 7 = w6495 := by rw [eI6564, pp_ne _ _ (Or.inr (by decide))]; exact e6554
                          have e6568 : I6564 (ad g 0) 15 = w6496 := by rw [eI6564, pp_ne _ _ (Or.inr (by decide))]; exact e6555
                          have e6569 : I6564 (ad g 0) 16 = w6497 := by rw [eI6564, pp_ne _ _ (Or.inr (by decide))]; exact e6556
                          have e6570 : I6564 (ad g 0) 17 = w6498 := by rw [eI6564, pp_ne _ _ (Or.inr (by decide))]; exact e6557
                          have e6571 : I6564 (ad g 0) 18 = w6499 := by rw [eI6564, pp_ne _ _ (Or.inr (by decide))]; exact e6558
                          have e6572 : I6564 (ad g 0) 1 = L := by rw [eI6564, pp_ne _ _ (Or.inr (by decide))]; exact e6559
                          have e6573 : I6564 (ad g 0) 6 = v6549 := by rw [eI6564, pp_ne _ _ (Or.inr (by decide))]; exact e6560
                          have e6574 : I6564 (ad g 0) 4 = v6563 := by rw [eI6564, pp_self]
                          have fr6575 : fz 49 g [0] I I6564 := by rw [eI6564]; exact fzm_pp hy fr6561 (by decide) (by decide)
                          clear eI6564
                          refine WP_goto 160 dX11_scan_220 rfl ?_
                          exact WP_sub (fc rfl (fc rfl fn)) (ihlp160_6499 I6564 J6491 hI6564 fr6575 w6492 e6565 w6493 e6566 v6563 e6574 w6495 e6567 w6496 e6568 w6497 e6569 w6498 e6570 w6499 e6571 (by omega) (by omega) (by omega) (by omega) (by omega) (by omega) (by omega) (by omega) (by omega))
                  exact WP_sub (fc rfl (fc rfl fn)) (lp160_6499 _ I6478 J6254 hI6478 fr6489 w6255 e6479 w6256 e6486 v6477 e6488 w6257 e6480 w6258 e6481 w6259 e6482 w6260 e6483 w6261 e6484 (by omega) (by omega) (by omega) (by omega) (by omega) (by omega) (by omega) (by omega) (Nat.lt_succ_self _))
          · refine WP_aload_n dX11_scan_95 rfl ?_
            refine WP_aload_n dX11_scan_96 rfl ?_
            refine WQ_getim dX11_scan_97 fX11_20 rfl (ly_is hy 0 11 rfl) e6268 ?_
            refine WP_callV1 (k := 11) dX11_scan_100 ⟨⟨⟨by decide, by decide⟩, zX11_byteAt⟩, lX11_23, by decide, rfl, vX11_byteAt.1, vX11_byteAt.2⟩ (ly_is hy 0 11 rfl) (sm_byteAtx hy hr hI6266 w6256 (by omega) (by omega)) (Nat.le_of_ble_eq_true rfl) ?_
            intro r Ia Ja Ra hq
            obtain ⟨⟨ea, eb, ec⟩, v6576, rfl, cv6576⟩ := hq
            show WP _ _ _ _ (.int _ :: _) _ _ _ _
            rw [ea, eb, ec]
            clear ea eb ec Ia Ja Ra
            rw [e6267] at cv6576
            have ttv6576 : v6576.toInt = v6277.toInt := by rw [cv6576.2, ← cv6277.2]
            refine WP_callS1 dX11_scan_103 ⟨⟨⟨by decide, by decide⟩, zX11_isSmall⟩, lX11_30, tX11_isSmall⟩ (sm_isSmall hy hr hI6266 v6576 ) (Nat.le_of_ble_eq_true rfl) ?_
            intro r Ia Ja Ra hq
            obtain ⟨⟨ea, eb, ec⟩, v6577, rfl, av6577, bv6577, cv6577⟩ := hq
            show WP _ _ _ _ (.int _ :: _) _ _ _ _
            rw [ea, eb, ec]
            clear ea eb ec Ia Ja Ra
            refine WQ_if_eq 122 dX11_scan_106 rfl (fun c6577 => ?_) (fun c6577 => ?_)
            · refine WP_aload_n dX11_scan_122 rfl ?_
              refine WP_aload_n dX11_scan_123 rfl ?_
              refine WQ_getim dX11_scan_124 fX11_20 rfl (ly_is hy 0 11 rfl) e6268 ?_
              refine WP_aload_n dX11_scan_127 rfl ?_
              refine WQ_getim dX11_scan_128 fX11_7 rfl (ly_is hy 0 11 rfl) e6275 ?_
              refine WQ_isub dX11_scan_131 (by omega) (by omega) (fun v6579 hv6579 => ?_)
              refine WQ_bipush (8) (8) dX11_scan_132 rfl rfl (fun v6580 hv6580 => ?_)
              have jn142_6583 : ∀ (v6583 : Int32), 1 ≤ v6583.toInt → v6583.toInt ≤ 4 → WP g mX11_scan 142 [(0, .ref (ad g 0)), (1, .int v6277)] [.int v6583, .ref (ad g 0)] I6266 J6254 R (fun r I' J' R' => (MP g n L I' ∧ R' = R ∧ fz 49 g [0] I I' ∧ (((I' (ad g 0) 4).toInt ≤ (I' (ad g 0) 2).toInt ∧ (I' (ad g 0) 3).toInt ≤ (I' (ad g 0) 4).toInt ∧ ((I' (ad g 0) 5).toInt = 0 ∨ (I' (ad g 0) 3).toInt < (I' (ad g 0) 4).toInt)) ∧ (I (ad g 0) 4).toInt ≤ (I' (ad g 0) 3).toInt) ∧ I' (ad g 0) 7 = I (ad g 0) 7 ∧ I' (ad g 0) 15 = I (ad g 0) 15 ∧ I' (ad g 0) 16 = I (ad g 0) 16 ∧ I' (ad g 0) 17 = I (ad g 0) 17 ∧ I' (ad g 0) 18 = I (ad g 0) 18) ∧ r = none) := by
                intro v6583 av6583 bv6583
                refine WQ_puti dX11_scan_142 fX11_27 rfl rfl (ly_is hy 0 11 rfl) (fun I6585 eI6585 => ?_)
                have hI6585 : MP g n L I6585 := by rw [eI6585]; exact (mp_w hy hI6266 (c := 0) (mi_f hy hI6266.1 (c := 0) (0) (0) (4) (by decide) (Or.inr (by decide)) (by decide) (by omega) (by omega)) (by decide) (by decide) (Or.inr (by decide)))
                have e6586 : I6585 (ad g 0) 2 = w6255 := by rw [eI6585, pp_ne _ _ (Or.inr (by decide))]; exact e6267
                have e6587 : I6585 (ad g 0) 4 = w6256 := by rw [eI6585, pp_ne _ _ (Or.inr (by decide))]; exact e6268
                have e6588 : I6585 (ad g 0) 7 = w6257 := by rw [eI6585, pp_ne _ _ (Or.inr (by decide))]; exact e6269
                have e6589 : I6585 (ad g 0) 15 = w6258 := by rw [eI6585, pp_ne _ _ (Or.inr (by decide))]; exact e6270
                have e6590 : I6585 (ad g 0) 16 = w6259 := by rw [eI6585, pp_ne _ _ (Or.inr (by decide))]; exact e6271
                have e6591 : I6585 (ad g 0) 17 = w6260 := by rw [eI6585, pp_ne _ _ (Or.inr (by decide))]; exact e6272
                have e6592 : I6585 (ad g 0) 18 = w6261 := by rw [eI6585, pp_ne _ _ (Or.inr (by decide))]; exact e6273
                have e6593 : I6585 (ad g 0) 1 = L := by rw [eI6585, pp_ne _ _ (Or.inr (by decide))]; exact e6274
                have e6594 : I6585 (ad g 0) 3 = w6256 := by rw [eI6585, pp_ne _ _ (Or.inr (by decide))]; exact e6275
                have e6595 : I6585 (ad g 0) 5 = v6583 := by rw [eI6585, pp_self]
                have fr6596 : fz 49 g [0] I I6585 := by rw [eI6585]; exact fzm_pp hy fr6276 (by decide) (by decide)
                have BI6585 : v6277 = BF g I6585 w6256 := by rw [eI6585, BF_w hy (by decide)]; exact cv6277.2
                clear eI6585
                refine WP_goto 273 dX11_scan_145 rfl ?_
                exact WP_vret dX11_scan_273 rfl ⟨⟨hI6585, rfl, fr6596, ⟨(by rw [e6586, e6594, e6587, e6595, ew6251]; omega), (by rw [e6588, ew6246] <;> exact (eq32 _ _).mpr (by omega)), (by rw [e6589, ew6247] <;> exact (eq32 _ _).mpr (by omega)), (by rw [e6590, ew6248] <;> exact (eq32 _ _).mpr (by omega)), (by rw [e6591, ew6249] <;> exact (eq32 _ _).mpr (by omega)), (by rw [e6592, ew6250] <;> exact (eq32 _ _).mpr (by omega))⟩⟩, rfl⟩
              refine WQ_icmp_le 141 dX11_scan_134 rfl (fun c6596 => ?_) (fun c6596 => ?_)
              · refine WQ_iconst (1) (1) dX11_scan_141 rfl rfl (fun v6598 hv6598 => ?_)
                exact WP_sub (fc rfl (fc rfl fn)) (jn142_6583 v6598 (by omega) (by omega))
              · refine WQ_iconst (4) (4) dX11_scan_137 rfl rfl (fun v6599 hv6599 => ?_)
                refine WP_goto 142 dX11_scan_138 rfl ?_
                exact WP_sub (fc rfl (fc rfl fn)) (jn142_6583 v6599 (by omega) (by omega))
            · refine WP_aload_n dX11_scan_109 rfl ?_
              refine WP_dup dX11_scan_110 rfl ?_
              refine WQ_getim dX11_scan_111 fX11_20 rfl (ly_is hy 0 11 rfl) e6268 ?_
              refine WQ_iconst (1) (1) dX11_scan_114 rfl rfl (fun v6600 hv6600 => ?_)
              refine WQ_iadd dX11_scan_115 (by omega) (by omega) (fun v6601 hv6601 => ?_)
              refine WQ_puti dX11_scan_116 fX11_20 rfl rfl (ly_is hy 0 11 rfl) (fun I6602 eI6602 => ?_)
              have hI6602 : MP g n L I6602 := by rw [eI6602]; exact (mp_w hy hI6266 (c := 0) (mi_f hy hI6266.1 (c := 0) (0) (0) (900) (by decide) (Or.inr (by decide)) (by decide) (by omega) (by omega)) (by decide) (by decide) (Or.inr (by decide)))
              have e6603 : I6602 (ad g 0) 2 = w6255 := by rw [eI6602, pp_ne _ _ (Or.inr (by decide))]; exact e6267
              have e6604 : I6602 (ad g 0) 7 = w6257 := by rw [eI6602, pp_ne _ _ (Or.inr (by decide))]; exact e6269
              have e6605 : I6602 (ad g 0) 15 = w6258 := by rw [eI6602, pp_ne _ _ (Or.inr (by decide))]; exact e6270
              have e6606 : I6602 (ad g 0) 16 = w6259 := by rw [eI6602, pp_ne _ _ (Or.inr (by decide))]; exact e6271
              have e6607 : I6602 (ad g 0) 17 = w6260 := by rw [eI6602, pp_ne _ _ (Or.inr (by decide))]; exact e6272
              have e6608 : I6602 (ad g 0) 18 = w6261 := by rw [eI6602, pp_ne _ _ (Or.inr (by decide))]; exact e6273
              have e6609 : I6602 (ad g 0) 1 = L := by rw [eI6602, pp_ne _ _ (Or.inr (by decide))]; exact e6274
              have e6610 : I6602 (ad g 0) 3 = w6256 := by rw [eI6602, pp_ne _ _ (Or.inr (by decide))]; exact e6275
              have e6611 : I6602 (ad g 0) 4 = v6601 := by rw [eI6602, pp_self]
              have fr6612 : fz 49 g [0] I I6602 := by rw [eI6602]; exact fzm_pp hy fr6276 (by decide) (by decide)
              have BI6602 : v6277 = BF g I6602 w6256 := by rw [eI6602, BF_w hy (by decide)]; exact cv6277.2
              clear eI6602
              refine WP_goto 95 dX11_scan_119 rfl ?_
              have lp95_6622 : ∀ (mz : Nat)  (I6613 : pI) (J6614 : pJ), MP g n L I6613 → fz 49 g [0] I I6613 → ∀ (w6615 : Int32), I6613 (ad g 0) 2 = w6615 → ∀ (w6616 : Int32), I6613 (ad g 0) 3 = w6616 → ∀ (w6617 : Int32), I6613 (ad g 0) 4 = w6617 → ∀ (w6618 : Int32), I6613 (ad g 0) 7 = w6618 → ∀ (w6619 : Int32), I6613 (ad g 0) 15 = w6619 → ∀ (w6620 : Int32), I6613 (ad g 0) 16 = w6620 → ∀ (w6621 : Int32), I6613 (ad g 0) 17 = w6621 → ∀ (w6622 : Int32), I6613 (ad g 0) 18 = w6622 → w6617.toInt ≤ w6615.toInt → w6616.toInt < w6617.toInt → w6251.toInt ≤ w6616.toInt → w6618.toInt = w6246.toInt → w6619.toInt = w6247.toInt → w6620.toInt = w6248.toInt → w6621.toInt = w6249.toInt → w6622.toInt = w6250.toInt → (901 - w6617.toInt).toNat < mz → WP g mX11_scan 95 [(0, .ref (ad g 0)), (1, .int v6277)] [] I6613 J6614 R (fun r I' J' R' => (MP g n L I' ∧ R' = R ∧ fz 49 g [0] I I' ∧ (((I' (ad g 0) 4).toInt ≤ (I' (ad g 0) 2).toInt ∧ (I' (ad g 0) 3).toInt ≤ (I' (ad g 0) 4).toInt ∧ ((I' (ad g 0) 5).toInt = 0 ∨ (I' (ad g 0) 3).toInt < (I' (ad g 0) 4).toInt)) ∧ (I (ad g 0) 4).toInt ≤ (I' (ad g 0) 3).toInt) ∧ I' (ad g 0) 7 = I (ad g 0) 7 ∧ I' (ad g 0) 15 = I (ad g 0) 15 ∧ I' (ad g 0) 16 = I (ad g 0) 16 ∧ I' (ad g 0) 17 = I (ad g 0) 17 ∧ I' (ad g 0) 18 = I (ad g 0) 18) ∧ r = none) := by
                intro mz
                induction mz with
                | zero =>
                  intro  I6613 J6614 hI6613 fiI6613 w6615 ew6615 w6616 ew6616 w6617 ew6617 w6618 ew6618 w6619 ew6619 w6620 ew6620 w6621 ew6621 w6622 ew6622 j0_I6613 j1_I6613 j2_I6613 j3_I6613 j4_I6613 j5_I6613 j6_I6613 j7_I6613 hmlp95_6622
                  exact absurd hmlp95_6622 (Nat.not_lt_zero _)
                | succ mz ihlp95_6622 =>
                  intro  I6613 J6614 hI6613 fiI6613 w6615 ew6615 w6616 ew6616 w6617 ew6617 w6618 ew6618 w6619 ew6619 w6620 ew6620 w6621 ew6621 w6622 ew6622 j0_I6613 j1_I6613 j2_I6613 j3_I6613 j4_I6613 j5_I6613 j6_I6613 j7_I6613 hmlp95_6622
                  have bw6615 := BT_get hI6613.1.1 0 2 3 (0) (0) (900) (by decide) 2 (by decide) (by decide)
                  rw [ew6615] at bw6615
                  have bw6616 := BT_get hI6613.1.1 0 3 4 (0) (0) (900) (by decide) 3 (by decide) (by decide)
                  rw [ew6616] at bw6616
                  have bw6617 := BT_get hI6613.1.1 0 4 5 (0) (0) (900) (by decide) 4 (by decide) (by decide)
                  rw [ew6617] at bw6617
                  have bw6618 := BT_get hI6613.1.1 0 7 8 (-1) (0) (1000) (by decide) 7 (by decide) (by decide)
                  rw [ew6618] at bw6618
                  have bw6619 := BT_get hI6613.1.1 0 15 16 (0) (0) (4) (by decide) 15 (by decide) (by decide)
                  rw [ew6619] at bw6619
                  have bw6620 := BT_get hI6613.1.1 0 16 17 (0) (0) (3) (by decide) 16 (by decide) (by decide)
                  rw [ew6620] at bw6620
                  have bw6621 := BT_get hI6613.1.1 0 17 18 (-1) (0) (3) (by decide) 17 (by decide) (by decide)
                  rw [ew6621] at bw6621
                  have bw6622 := BT_get hI6613.1.1 0 18 19 (-1) (0) (2) (by decide) 18 (by decide) (by decide)
                  rw [ew6622] at bw6622
                  have e6624 : I6613 (ad g 0) 1 = L := hI6613.1.2
                  have b6625 := BT_get hI6613.1.1 0 1 2 (0) (0) (900) (by decide) 1 (by decide) (by decide)
                  rw [e6624] at b6625
                  refine WP_aload_n dX11_scan_95 rfl ?_
                  refine WP_aload_n dX11_scan_96 rfl ?_
                  refine WQ_getim dX11_scan_97 fX11_20 rfl (ly_is hy 0 11 rfl) ew6617 ?_
                  refine WP_callV1 (k := 11) dX11_scan_100 ⟨⟨⟨by decide, by decide⟩, zX11_byteAt⟩, lX11_23, by decide, rfl, vX11_byteAt.1, vX11_byteAt.2⟩ (ly_is hy 0 11 rfl) (sm_byteAtx hy hr hI6613 w6617 (by omega) (by omega)) (Nat.le_of_ble_eq_true rfl) ?_
                  intro r Ia Ja Ra hq
                  obtain ⟨⟨ea, eb, ec⟩, v6626, rfl, cv6626⟩ := hq
                  show WP _ _ _ _ (.int _ :: _) _ _ _ _
                  rw [ea, eb, ec]
                  clear ea eb ec Ia Ja Ra
                  rw [ew6615] at cv6626
                  refine WP_callS1 dX11_scan_103 ⟨⟨⟨by decide, by decide⟩, zX11_isSmall⟩, lX11_30, tX11_isSmall⟩ (sm_isSmall hy hr hI6613 v6626 ) (Nat.le_of_ble_eq_true rfl) ?_
                  intro r Ia Ja Ra hq
                  obtain ⟨⟨ea, eb, ec⟩, v6627, rfl, av6627, bv6627, cv6627⟩ := hq
                  show WP _ _ _ _ (.int _ :: _) _ _ _ _
                  rw [ea, eb, ec]
                  clear ea eb ec Ia Ja Ra
                  refine WQ_if_eq 122 dX11_scan_106 rfl (fun c6627 => ?_) (fun c6627 => ?_)
                  · refine WP_aload_n dX11_scan_122 rfl ?_
                    refine WP_aload_n dX11_scan_123 rfl ?_
                    refine WQ_getim dX11_scan_124 fX11_20 rfl (ly_is hy 0 11 rfl) ew6617 ?_
                    refine WP_aload_n dX11_scan_127 rfl ?_
                    refine WQ_getim dX11_scan_128 fX11_7 rfl (ly_is hy 0 11 rfl) ew6616 ?_
                    refine WQ_isub dX11_scan_131 (by omega) (by omega) (fun v6629 hv6629 => ?_)
                    refine WQ_bipush (8) (8) dX11_scan_132 rfl rfl (fun v6630 hv6630 => ?_)
                    have jn142_6633 : ∀ (v6633 : Int32), 1 ≤ v6633.toInt → v6633.toInt ≤ 4 → WP g mX11_scan 142 [(0, .ref (ad g 0)), (1, .int v6277)] [.int v6633, .ref (ad g 0)] I6613 J6614 R (fun r I' J' R' => (MP g n L I' ∧ R' = R ∧ fz 49 g [0] I I' ∧ (((I' (ad g 0) 4).toInt ≤ (I' (ad g 0) 2).toInt ∧ (I' (ad g 0) 3).toInt ≤ (I' (ad g 0) 4).toInt ∧ ((I' (ad g 0) 5).toInt = 0 ∨ (I' (ad g 0) 3).toInt < (I' (ad g 0) 4).toInt)) ∧ (I (ad g 0) 4).toInt ≤ (I' (ad g 0) 3).toInt) ∧ I' (ad g 0) 7 = I (ad g 0) 7 ∧ I' (ad g 0) 15 = I (ad g 0) 15 ∧ I' (ad g 0) 16 = I (ad g 0) 16 ∧ I' (ad g 0) 17 = I (ad g 0) 17 ∧ I' (ad g 0) 18 = I (ad g 0) 18) ∧ r = none) := by
                      intro v6633 av6633 bv6633
                      refine WQ_puti dX11_scan_142 fX11_27 rfl rfl (ly_is hy 0 11 rfl) (fun I6635 eI6635 => ?_)
                      have hI6635 : MP g n L I6635 := by rw [eI6635]; exact (mp_w hy hI6613 (c := 0) (mi_f hy hI6613.1 (c := 0) (0) (0) (4) (by decide) (Or.inr (by decide)) (by decide) (by omega) (by omega)) (by decide) (by decide) (Or.inr (by decide)))
                      have e6636 : I6635 (ad g 0) 2 = w6615 := by rw [eI6635, pp_ne _ _ (Or.inr (by decide))]; exact ew6615
                      have e6637 : I6635 (ad g 0) 3 = w6616 := by rw [eI6635, pp_ne _ _ (Or.inr (by decide))]; exact ew6616
                      have e6638 : I6635 (ad g 0) 4 = w6617 := by rw [eI6635, pp_ne _ _ (Or.inr (by decide))]; exact ew6617
                      have e6639 : I6635 (ad g 0) 7 = w6618 := by rw [eI6635, pp_ne _ _ (Or.inr (by decide))]; exact ew6618
                      have e6640 : I6635 (ad g 0) 15 = w6619 := by rw [eI6635, pp_ne _ _ (Or.inr (by decide))]; exact ew6619
                      have e6641 : I6635 (ad g 0) 16 = w6620 := by rw [eI6635, pp_ne _ _ (Or.inr (by decide))]; exact ew6620
                      have e6642 : I6635 (ad g 0) 17 = w6621 := by rw [eI6635, pp_ne _ _ (Or.inr (by decide))]; exact ew6621
                      have e6643 : I6635 (ad g 0) 18 = w6622 := by rw [eI6635, pp_ne _ _ (Or.inr (by decide))]; exact ew6622
                      have e6644 : I6635 (ad g 0) 1 = L := by rw [eI6635, pp_ne _ _ (Or.inr (by decide))]; exact e6624
                      have e6645 : I6635 (ad g 0) 5 = v6633 := by rw [eI6635, pp_self]
                      have fr6646 : fz 49 g [0] I I6635 := by rw [eI6635]; exact fzm_pp hy fiI6613 (by decide) (by decide)
                      clear eI6635
                      refine WP_goto 273 dX11_scan_145 rfl ?_
                      exact WP_vret dX11_scan_273 rfl ⟨⟨hI6635, rfl, fr6646, ⟨(by rw [e6636, e6637, e6638, e6645, ew6251]; omega), (by rw [e6639, ew6246] <;> exact (eq32 _ _).mpr (by omega)), (by rw [e6640, ew6247] <;> exact (eq32 _ _).mpr (by omega)), (by rw [e6641, ew6248] <;> exact (eq32 _ _).mpr (by omega)), (by rw [e6642, ew6249] <;> exact (eq32 _ _).mpr (by omega)), (by rw [e6643, ew6250] <;> exact (eq32 _ _).mpr (by omega))⟩⟩, rfl⟩
                    refine WQ_icmp_le 141 dX11_scan_134 rfl (fun c6646 => ?_) (fun c6646 => ?_)
                    · refine WQ_iconst (1) (1) dX11_scan_141 rfl rfl (fun v6648 hv6648 => ?_)
                      exact WP_sub (fc rfl (fc rfl fn)) (jn142_6633 v6648 (by omega) (by omega))
                    · refine WQ_iconst (4) (4) dX11_scan_137 rfl rfl (fun v6649 hv6649 => ?_)
                      refine WP_goto 142 dX11_scan_138 rfl ?_
                      exact WP_sub (fc rfl (fc rfl fn)) (jn142_6633 v6649 (by omega) (by omega))
                  · refine WP_aload_n dX11_scan_109 rfl ?_
                    refine WP_dup dX11_scan_110 rfl ?_
                    refine WQ_getim dX11_scan_111 fX11_20 rfl (ly_is hy 0 11 rfl) ew6617 ?_
                    refine WQ_iconst (1) (1) dX11_scan_114 rfl rfl (fun v6650 hv6650 => ?_)
                    refine WQ_iadd dX11_scan_115 (by omega) (by omega) (fun v6651 hv6651 => ?_)
                    refine WQ_puti dX11_scan_116 fX11_20 rfl rfl (ly_is hy 0 11 rfl) (fun I6652 eI6652 => ?_)
                    have hI6652 : MP g n L I6652 := by rw [eI6652]; exact (mp_w hy hI6613 (c := 0) (mi_f hy hI6613.1 (c := 0) (0) (0) (900) (by decide) (Or.inr (by decide)) (by decide) (by omega) (by omega)) (by decide) (by decide) (Or.inr (by decide)))
                    have e6653 : I6652 (ad g 0) 2 = w6615 := by rw [eI6652, pp_ne _ _ (Or.inr (by decide))]; exact ew6615
                    have e6654 : I6652 (ad g 0) 3 = w6616 := by rw [eI6652, pp_ne _ _ (Or.inr (by decide))]; exact ew6616
                    have e6655 : I6652 (ad g 0) 7 = w6618 := by rw [eI6652, pp_ne _ _ (Or.inr (by decide))]; exact ew6618
                    have e6656 : I6652 (ad g 0) 15 = w6619 := by rw [eI6652, pp_ne _ _ (Or.inr (by decide))]; exact ew6619
                    have e6657 : I6652 (ad g 0) 16 = w6620 := by rw [eI6652, pp_ne _ _ (Or.inr (by decide))]; exact ew6620
                    have e6658 : I6652 (ad g 0) 17 = w6621 := by rw [eI6652, pp_ne _ _ (Or.inr (by decide))]; exact ew6621
                    have e6659 : I6652 (ad g 0) 18 = w6622 := by rw [eI6652, pp_ne _ _ (Or.inr (by decide))]; exact ew6622
                    have e6660 : I6652 (ad g 0) 1 = L := by rw [eI6652, pp_ne _ _ (Or.inr (by decide))]; exact e6624
                    have e6661 : I6652 (ad g 0) 4 = v6651 := by rw [eI6652, pp_self]
                    have fr6662 : fz 49 g [0] I I6652 := by rw [eI6652]; exact fzm_pp hy fiI6613 (by decide) (by decide)
                    clear eI6652
                    refine WP_goto 95 dX11_scan_119 rfl ?_
                    exact WP_sub (fc rfl (fc rfl fn)) (ihlp95_6622 I6652 J6614 hI6652 fr6662 w6615 e6653 w6616 e6654 v6651 e6661 w6618 e6655 w6619 e6656 w6620 e6657 w6621 e6658 w6622 e6659 (by omega) (by omega) (by omega) (by omega) (by omega) (by omega) (by omega) (by omega) (by omega))
              exact WP_sub (fc rfl (fc rfl fn)) (lp95_6622 _ I6602 J6254 hI6602 fr6612 w6255 e6603 w6256 e6610 v6601 e6611 w6257 e6604 w6258 e6605 w6259 e6606 w6260 e6607 w6261 e6608 (by omega) (by omega) (by omega) (by omega) (by omega) (by omega) (by omega) (by omega) (Nat.lt_succ_self _))
        · refine WP_aload_n dX11_scan_80 rfl ?_
          refine WQ_iconst (0) (0) dX11_scan_81 rfl rfl (fun v6663 hv6663 => ?_)
          refine WQ_puti dX11_scan_82 fX11_27 rfl rfl (ly_is hy 0 11 rfl) (fun I6664 eI6664 => ?_)
          have hI6664 : MP g n L I6664 := by rw [eI6664]; exact (mp_w hy hI6266 (c := 0) (mi_f hy hI6266.1 (c := 0) (0) (0) (4) (by decide) (Or.inr (by decide)) (by decide) (by omega) (by omega)) (by decide) (by decide) (Or.inr (by decide)))
          have e6665 : I6664 (ad g 0) 2 = w6255 := by rw [eI6664, pp_ne _ _ (Or.inr (by decide))]; exact e6267
          have e6666 : I6664 (ad g 0) 4 = w6256 := by rw [eI6664, pp_ne _ _ (Or.inr (by decide))]; exact e6268
          have e6667 : I6664 (ad g 0) 7 = w6257 := by rw [eI6664, pp_ne _ _ (Or.inr (by decide))]; exact e6269
          have e6668 : I6664 (ad g 0) 15 = w6258 := by rw [eI6664, pp_ne _ _ (Or.inr (by decide))]; exact e6270
          have e6669 : I6664 (ad g 0) 16 = w6259 := by rw [eI6664, pp_ne _ _ (Or.inr (by decide))]; exact e6271
          have e6670 : I6664 (ad g 0) 17 = w6260 := by rw [eI6664, pp_ne _ _ (Or.inr (by decide))]; exact e6272
          have e6671 : I6664 (ad g 0) 18 = w6261 := by rw [eI6664, pp_ne _ _ (Or.inr (by decide))]; exact e6273
          have e6672 : I6664 (ad g 0) 1 = L := by rw [eI6664, pp_ne _ _ (Or.inr (by decide))]; exact e6274
          have e6673 : I6664 (ad g 0) 3 = w6256 := by rw [eI6664, pp_ne _ _ (Or.inr (by decide))]; exact e6275
          have e6674 : I6664 (ad g 0) 5 = v6663 := by rw [eI6664, pp_self]
          have fr6675 : fz 49 g [0] I I6664 := by rw [eI6664]; exact fzm_pp hy fr6276 (by decide) (by decide)
          have BI6664 : v6277 = BF g I6664 w6256 := by rw [eI6664, BF_w hy (by decide)]; exact cv6277.2
          clear eI6664
          refine WP_goto 273 dX11_scan_85 rfl ?_
          exact WP_vret dX11_scan_273 rfl ⟨⟨hI6664, rfl, fr6675, ⟨(by rw [e6665, e6673, e6666, e6674, ew6251]; omega), (by rw [e6667, ew6246] <;> exact (eq32 _ _).mpr (by omega)), (by rw [e6668, ew6247] <;> exact (eq32 _ _).mpr (by omega)), (by rw [e6669, ew6248] <;> exact (eq32 _ _).mpr (by omega)), (by rw [e6670, ew6249] <;> exact (eq32 _ _).mpr (by omega)), (by rw [e6671, ew6250] <;> exact (eq32 _ _).mpr (by omega))⟩⟩, rfl⟩
      · refine WP_aload_n dX11_scan_11 rfl ?_
        refine WP_getr dX11_scan_12 fX11_16 rfl (ly_is hy 0 11 rfl) (rf hr 0 0 1 (by decide)) ?_
        refine WP_aload_n dX11_scan_15 rfl ?_
        refine WQ_getim dX11_scan_16 fX11_20 rfl (ly_is hy 0 11 rfl) ew6256 ?_
        refine WQ_baldu dX11_scan_19 (ly_is hy 1 12 rfl) (ly_n hy 1 900 rfl) (by omega) (by omega) (fun v6676 => ?_)
        refine WQ_bipush (32) (32) dX11_scan_20 rfl rfl (fun v6677 hv6677 => ?_)
        refine WQ_icmp_eq 39 dX11_scan_22 rfl (fun c6677 => ?_) (fun c6677 => ?_)
        · refine WP_aload_n dX11_scan_39 rfl ?_
          refine WP_dup dX11_scan_40 rfl ?_
          refine WQ_getim dX11_scan_41 fX11_20 rfl (ly_is hy 0 11 rfl) ew6256 ?_
          refine WQ_iconst (1) (1) dX11_scan_44 rfl rfl (fun v6679 hv6679 => ?_)
          refine WQ_iadd dX11_scan_45 (by omega) (by omega) (fun v6680 hv6680 => ?_)
          refine WQ_puti dX11_scan_46 fX11_20 rfl rfl (ly_is hy 0 11 rfl) (fun I6681 eI6681 => ?_)
          have hI6681 : MP g n L I6681 := by rw [eI6681]; exact (mp_w hy hI6253 (c := 0) (mi_f hy hI6253.1 (c := 0) (0) (0) (900) (by decide) (Or.inr (by decide)) (by decide) (by omega) (by omega)) (by decide) (by decide) (Or.inr (by decide)))
          have e6682 : I6681 (ad g 0) 2 = w6255 := by rw [eI6681, pp_ne _ _ (Or.inr (by decide))]; exact ew6255
          have e6683 : I6681 (ad g 0) 7 = w6257 := by rw [eI6681, pp_ne _ _ (Or.inr (by decide))]; exact ew6257
          have e6684 : I6681 (ad g 0) 15 = w6258 := by rw [eI6681, pp_ne _ _ (Or.inr (by decide))]; exact ew6258
          have e6685 : I6681 (ad g 0) 16 = w6259 := by rw [eI6681, pp_ne _ _ (Or.inr (by decide))]; exact ew6259
          have e6686 : I6681 (ad g 0) 17 = w6260 := by rw [eI6681, pp_ne _ _ (Or.inr (by decide))]; exact ew6260
          have e6687 : I6681 (ad g 0) 18 = w6261 := by rw [eI6681, pp_ne _ _ (Or.inr (by decide))]; exact ew6261
          have e6688 : I6681 (ad g 0) 1 = L := by rw [eI6681, pp_ne _ _ (Or.inr (by decide))]; exact e6263
          have e6689 : I6681 (ad g 0) 4 = v6680 := by rw [eI6681, pp_self]
          have fr6690 : fz 49 g [0] I I6681 := by rw [eI6681]; exact fzm_pp hy fiI6253 (by decide) (by decide)
          clear eI6681
          refine WP_goto 0 dX11_scan_49 rfl ?_
          exact WP_sub (fc rfl fn) (ihlp0_6261 I6681 J6254 hI6681 fr6690 w6255 e6682 v6680 e6689 w6257 e6683 w6258 e6684 w6259 e6685 w6260 e6686 w6261 e6687 (by omega) (by omega) (by omega) (by omega) (by omega) (by omega) (by omega) (by omega))
        · refine WP_aload_n dX11_scan_25 rfl ?_
          refine WP_getr dX11_scan_26 fX11_16 rfl (ly_is hy 0 11 rfl) (rf hr 0 0 1 (by decide)) ?_
          refine WP_aload_n dX11_scan_29 rfl ?_
          refine WQ_getim dX11_scan_30 fX11_20 rfl (ly_is hy 0 11 rfl) ew6256 ?_
          refine WQ_baldu dX11_scan_33 (ly_is hy 1 12 rfl) (ly_n hy 1 900 rfl) (by omega) (by omega) (fun v6691 => ?_)
          refine WQ_bipush (10) (10) dX11_scan_34 rfl rfl (fun v6692 hv6692 => ?_)
          refine WQ_icmp_ne 52 dX11_scan_36 rfl (fun c6692 => ?_) (fun c6692 => ?_)
          · refine WP_aload_n dX11_scan_52 rfl ?_
            refine WP_aload_n dX11_scan_53 rfl ?_
            refine WQ_getim dX11_scan_54 fX11_20 rfl (ly_is hy 0 11 rfl) ew6256 ?_
            refine WQ_puti dX11_scan_57 fX11_7 rfl rfl (ly_is hy 0 11 rfl) (fun I6694 eI6694 => ?_)
            have hI6694 : MP g n L I6694 := by rw [eI6694]; exact (mp_w hy hI6253 (c := 0) (mi_f hy hI6253.1 (c := 0) (0) (0) (900) (by decide) (Or.inr (by decide)) (by decide) (by omega) (by omega)) (by decide) (by decide) (Or.inr (by decide)))
            have e6695 : I6694 (ad g 0) 2 = w6255 := by rw [eI6694, pp_ne _ _ (Or.inr (by decide))]; exact ew6255
            have e6696 : I6694 (ad g 0) 4 = w6256 := by rw [eI6694, pp_ne _ _ (Or.inr (by decide))]; exact ew6256
            have e6697 : I6694 (ad g 0) 7 = w6257 := by rw [eI6694, pp_ne _ _ (Or.inr (by decide))]; exact ew6257
            have e6698 : I6694 (ad g 0) 15 = w6258 := by rw [eI6694, pp_ne _ _ (Or.inr (by decide))]; exact ew6258
            have e6699 : I6694 (ad g 0) 16 = w6259 := by rw [eI6694, pp_ne _ _ (Or.inr (by decide))]; exact ew6259
            have e6700 : I6694 (ad g 0) 17 = w6260 := by rw [eI6694, pp_ne _ _ (Or.inr (by decide))]; exact ew6260
            have e6701 : I6694 (ad g 0) 18 = w6261 := by rw [eI6694, pp_ne _ _ (Or.inr (by decide))]; exact ew6261
            have e6702 : I6694 (ad g 0) 1 = L := by rw [eI6694, pp_ne _ _ (Or.inr (by decide))]; exact e6263
            have e6703 : I6694 (ad g 0) 3 = w6256 := by rw [eI6694, pp_self]
            have fr6704 : fz 49 g [0] I I6694 := by rw [eI6694]; exact fzm_pp hy fiI6253 (by decide) (by decide)
            clear eI6694
            refine WP_aload_n dX11_scan_60 rfl ?_
            refine WP_aload_n dX11_scan_61 rfl ?_
            refine WQ_getim dX11_scan_62 fX11_7 rfl (ly_is hy 0 11 rfl) e6703 ?_
            refine WP_callV1 (k := 11) dX11_scan_65 ⟨⟨⟨by decide, by decide⟩, zX11_byteAt⟩, lX11_23, by decide, rfl, vX11_byteAt.1, vX11_byteAt.2⟩ (ly_is hy 0 11 rfl) (sm_byteAtx hy hr hI6694 w6256 (by omega) (by omega)) (Nat.le_of_ble_eq_true rfl) ?_
            intro r Ia Ja Ra hq
            obtain ⟨⟨ea, eb, ec⟩, v6705, rfl, cv6705⟩ := hq
            show WP _ _ _ _ (.int _ :: _) _ _ _ _
            rw [ea, eb, ec]
            clear ea eb ec Ia Ja Ra
            rw [e6695] at cv6705
            refine WP_istore_n (ls' := [(0, _), (1, _)]) dX11_scan_68 (by decide) rfl ?_
            refine WP_aload_n dX11_scan_69 rfl ?_
            refine WQ_getim dX11_scan_70 fX11_7 rfl (ly_is hy 0 11 rfl) e6703 ?_
            refine WP_aload_n dX11_scan_73 rfl ?_
            refine WQ_getim dX11_scan_74 fX11_13 rfl (ly_is hy 0 11 rfl) e6695 ?_
            refine WQ_icmp_ne 88 dX11_scan_77 rfl (fun c6705 => ?_) (fun c6705 => ?_)
            · refine WP_iload_n dX11_scan_88 rfl ?_
              refine WP_callS1 dX11_scan_89 ⟨⟨⟨by decide, by decide⟩, zX11_isSmall⟩, lX11_30, tX11_isSmall⟩ (sm_isSmall hy hr hI6694 v6705 ) (Nat.le_of_ble_eq_true rfl) ?_
              intro r Ia Ja Ra hq
              obtain ⟨⟨ea, eb, ec⟩, v6707, rfl, av6707, bv6707, cv6707⟩ := hq
              show WP _ _ _ _ (.int _ :: _) _ _ _ _
              rw [ea, eb, ec]
              clear ea eb ec Ia Ja Ra
              refine WQ_if_eq 148 dX11_scan_92 rfl (fun c6707 => ?_) (fun c6707 => ?_)
              · refine WP_iload_n dX11_scan_148 rfl ?_
                refine WP_callS1 dX11_scan_149 ⟨⟨⟨by decide, by decide⟩, zX11_isDigit⟩, lX11_34, tX11_isDigit⟩ (sm_isDigit hy hr hI6694 v6705 ) (Nat.le_of_ble_eq_true rfl) ?_
                intro r Ia Ja Ra hq
                obtain ⟨⟨ea, eb, ec⟩, v6709, rfl, av6709, bv6709, cv6709⟩ := hq
                show WP _ _ _ _ (.int _ :: _) _ _ _ _
                rw [ea, eb, ec]
                clear ea eb ec Ia Ja Ra
                refine WQ_if_eq 248 dX11_scan_152 rfl (fun c6709 => ?_) (fun c6709 => ?_)
                · refine WP_aload_n dX11_scan_248 rfl ?_
                  refine WP_iload_n dX11_scan_249 rfl ?_
                  refine WQ_bipush (59) (59) dX11_scan_250 rfl rfl (fun v6711 hv6711 => ?_)
                  have jn260_6714 : ∀ (v6714 : Int32), 3 ≤ v6714.toInt → v6714.toInt ≤ 4 → WP g mX11_scan 260 [(0, .ref (ad g 0)), (1, .int v6705)] [.int v6714, .ref (ad g 0)] I6694 J6254 R (fun r I' J' R' => (MP g n L I' ∧ R' = R ∧ fz 49 g [0] I I' ∧ (((I' (ad g 0) 4).toInt ≤ (I' (ad g 0) 2).toInt ∧ (I' (ad g 0) 3).toInt ≤ (I' (ad g 0) 4).toInt ∧ ((I' (ad g 0) 5).toInt = 0 ∨ (I' (ad g 0) 3).toInt < (I' (ad g 0) 4).toInt)) ∧ (I (ad g 0) 4).toInt ≤ (I' (ad g 0) 3).toInt) ∧ I' (ad g 0) 7 = I (ad g 0) 7 ∧ I' (ad g 0) 15 = I (ad g 0) 15 ∧ I' (ad g 0) 16 = I (ad g 0) 16 ∧ I' (ad g 0) 17 = I (ad g 0) 17 ∧ I' (ad g 0) 18 = I (ad g 0) 18) ∧ r = none) := by
                    intro v6714 av6714 bv6714
                    refine WQ_puti dX11_scan_260 fX11_27 rfl rfl (ly_is hy 0 11 rfl) (fun I6716 eI6716 => ?_)
                    have hI6716 : MP g n L I6716 := by rw [eI6716]; exact (mp_w hy hI6694 (c := 0) (mi_f hy hI6694.1 (c := 0) (0) (0) (4) (by decide) (Or.inr (by decide)) (by decide) (by omega) (by omega)) (by decide) (by decide) (Or.inr (by decide)))
                    have e6717 : I6716 (ad g 0) 2 = w6255 := by rw [eI6716, pp_ne _ _ (Or.inr (by decide))]; exact e6695
                    have e6718 : I6716 (ad g 0) 4 = w6256 := by rw [eI6716, pp_ne _ _ (Or.inr (by decide))]; exact e6696
                    have e6719 : I6716 (ad g 0) 7 = w6257 := by rw [eI6716, pp_ne _ _ (Or.inr (by decide))]; exact e6697
                    have e6720 : I6716 (ad g 0) 15 = w6258 := by rw [eI6716, pp_ne _ _ (Or.inr (by decide))]; exact e6698
                    have e6721 : I6716 (ad g 0) 16 = w6259 := by rw [eI6716, pp_ne _ _ (Or.inr (by decide))]; exact e6699
                    have e6722 : I6716 (ad g 0) 17 = w6260 := by rw [eI6716, pp_ne _ _ (Or.inr (by decide))]; exact e6700
                    have e6723 : I6716 (ad g 0) 18 = w6261 := by rw [eI6716, pp_ne _ _ (Or.inr (by decide))]; exact e6701
                    have e6724 : I6716 (ad g 0) 1 = L := by rw [eI6716, pp_ne _ _ (Or.inr (by decide))]; exact e6702
                    have e6725 : I6716 (ad g 0) 3 = w6256 := by rw [eI6716, pp_ne _ _ (Or.inr (by decide))]; exact e6703
                    have e6726 : I6716 (ad g 0) 5 = v6714 := by rw [eI6716, pp_self]
                    have fr6727 : fz 49 g [0] I I6716 := by rw [eI6716]; exact fzm_pp hy fr6704 (by decide) (by decide)
                    have BI6716 : v6705 = BF g I6716 w6256 := by rw [eI6716, BF_w hy (by decide)]; exact cv6705.2
                    clear eI6716
                    refine WP_aload_n dX11_scan_263 rfl ?_
                    refine WP_dup dX11_scan_264 rfl ?_
                    refine WQ_getim dX11_scan_265 fX11_20 rfl (ly_is hy 0 11 rfl) e6718 ?_
                    refine WQ_iconst (1) (1) dX11_scan_268 rfl rfl (fun v6728 hv6728 => ?_)
                    refine WQ_iadd dX11_scan_269 (by omega) (by omega) (fun v6729 hv6729 => ?_)
                    refine WQ_puti dX11_scan_270 fX11_20 rfl rfl (ly_is hy 0 11 rfl) (fun I6730 eI6730 => ?_)
                    have hI6730 : MP g n L I6730 := by rw [eI6730]; exact (mp_w hy hI6716 (c := 0) (mi_f hy hI6716.1 (c := 0) (0) (0) (900) (by decide) (Or.inr (by decide)) (by decide) (by omega) (by omega)) (by decide) (by decide) (Or.inr (by decide)))
                    have e6731 : I6730 (ad g 0) 2 = w6255 := by rw [eI6730, pp_ne _ _ (Or.inr (by decide))]; exact e6717
                    have e6732 : I6730 (ad g 0) 7 = w6257 := by rw [eI6730, pp_ne _ _ (Or.inr (by decide))]; exact e6719
                    have e6733 : I6730 (ad g 0) 15 = w6258 := by rw [eI6730, pp_ne _ _ (Or.inr (by decide))]; exact e6720
                    have e6734 : I6730 (ad g 0) 16 = w6259 := by rw [eI6730, pp_ne _ _ (Or.inr (by decide))]; exact e6721
                    have e6735 : I6730 (ad g 0) 17 = w6260 := by rw [eI6730, pp_ne _ _ (Or.inr (by decide))]; exact e6722
                    have e6736 : I6730 (ad g 0) 18 = w6261 := by rw [eI6730, pp_ne _ _ (Or.inr (by decide))]; exact e6723
                    have e6737 : I6730 (ad g 0) 1 = L := by rw [eI6730, pp_ne _ _ (Or.inr (by decide))]; exact e6724
                    have e6738 : I6730 (ad g 0) 3 = w6256 := by rw [eI6730, pp_ne _ _ (Or.inr (by decide))]; exact e6725
                    have e6739 : I6730 (ad g 0) 5 = v6714 := by rw [eI6730, pp_ne _ _ (Or.inr (by decide))]; exact e6726
                    have e6740 : I6730 (ad g 0) 4 = v6729 := by rw [eI6730, pp_self]
                    have fr6741 : fz 49 g [0] I I6730 := by rw [eI6730]; exact fzm_pp hy fr6727 (by decide) (by decide)
                    have BI6730 : v6705 = BF g I6730 w6256 := by rw [eI6730, BF_w hy (by decide)]; exact BI6716
                    clear eI6730
                    exact WP_vret dX11_scan_273 rfl ⟨⟨hI6730, rfl, fr6741, ⟨(by rw [e6731, e6738, e6740, e6739, ew6251]; omega), (by rw [e6732, ew6246] <;> exact (eq32 _ _).mpr (by omega)), (by rw [e6733, ew6247] <;> exact (eq32 _ _).mpr (by omega)), (by rw [e6734, ew6248] <;> exact (eq32 _ _).mpr (by omega)), (by rw [e6735, ew6249] <;> exact (eq32 _ _).mpr (by omega)), (by rw [e6736, ew6250] <;> exact (eq32 _ _).mpr (by omega))⟩⟩, rfl⟩
                  refine WQ_icmp_ne 259 dX11_scan_252 rfl (fun c6741 => ?_) (fun c6741 => ?_)
                  · refine WQ_iconst (4) (4) dX11_scan_259 rfl rfl (fun v6743 hv6743 => ?_)
                    exact WP_sub (fc rfl (fc rfl fn)) (jn260_6714 v6743 (by omega) (by omega))
                  · refine WQ_iconst (3) (3) dX11_scan_255 rfl rfl (fun v6744 hv6744 => ?_)
                    refine WP_goto 260 dX11_scan_256 rfl ?_
                    exact WP_sub (fc rfl (fc rfl fn)) (jn260_6714 v6744 (by omega) (by omega))
                · refine WP_aload_n dX11_scan_155 rfl ?_
                  refine WQ_iconst (0) (0) dX11_scan_156 rfl rfl (fun v6745 hv6745 => ?_)
                  refine WQ_puti dX11_scan_157 fX11_37 rfl rfl (ly_is hy 0 11 rfl) (fun I6746 eI6746 => ?_)
                  have hI6746 : MP g n L I6746 := by rw [eI6746]; exact (mp_w hy hI6694 (c := 0) (mi_f0 hy hI6694.1 (c := 0) (by decide) (Or.inr (by decide)) (by decide)) (by decide) (by decide) (Or.inr (by decide)))
                  have e6747 : I6746 (ad g 0) 2 = w6255 := by rw [eI6746, pp_ne _ _ (Or.inr (by decide))]; exact e6695
                  have e6748 : I6746 (ad g 0) 4 = w6256 := by rw [eI6746, pp_ne _ _ (Or.inr (by decide))]; exact e6696
                  have e6749 : I6746 (ad g 0) 7 = w6257 := by rw [eI6746, pp_ne _ _ (Or.inr (by decide))]; exact e6697
                  have e6750 : I6746 (ad g 0) 15 = w6258 := by rw [eI6746, pp_ne _ _ (Or.inr (by decide))]; exact e6698
                  have e6751 : I6746 (ad g 0) 16 = w6259 := by rw [eI6746, pp_ne _ _ (Or.inr (by decide))]; exact e6699
                  have e6752 : I6746 (ad g 0) 17 = w6260 := by rw [eI6746, pp_ne _ _ (Or.inr (by decide))]; exact e6700
                  have e6753 : I6746 (ad g 0) 18 = w6261 := by rw [eI6746, pp_ne _ _ (Or.inr (by decide))]; exact e6701
                  have e6754 : I6746 (ad g 0) 1 = L := by rw [eI6746, pp_ne _ _ (Or.inr (by decide))]; exact e6702
                  have e6755 : I6746 (ad g 0) 3 = w6256 := by rw [eI6746, pp_ne _ _ (Or.inr (by decide))]; exact e6703
                  have e6756 : I6746 (ad g 0) 6 = v6745 := by rw [eI6746, pp_self]
                  have fr6757 : fz 49 g [0] I I6746 := by rw [eI6746]; exact fzm_pp hy fr6704 (by decide) (by decide)
                  have BI6746 : v6705 = BF g I6746 w6256 := by rw [eI6746, BF_w hy (by decide)]; exact cv6705.2
                  clear eI6746
                  refine WP_aload_n dX11_scan_160 rfl ?_
                  refine WP_aload_n dX11_scan_161 rfl ?_
                  refine WQ_getim dX11_scan_162 fX11_20 rfl (ly_is hy 0 11 rfl) e6748 ?_
                  refine WP_callV1 (k := 11) dX11_scan_165 ⟨⟨⟨by decide, by decide⟩, zX11_byteAt⟩, lX11_23, by decide, rfl, vX11_byteAt.1, vX11_byteAt.2⟩ (ly_is hy 0 11 rfl) (sm_byteAtx hy hr hI6746 w6256 (by omega) (by omega)) (Nat.le_of_ble_eq_true rfl) ?_
                  intro r Ia Ja Ra hq
                  obtain ⟨⟨ea, eb, ec⟩, v6758, rfl, cv6758⟩ := hq
                  show WP _ _ _ _ (.int _ :: _) _ _ _ _
                  rw [ea, eb, ec]
                  clear ea eb ec Ia Ja Ra
                  rw [e6747] at cv6758
                  have ttv6758 : v6758.toInt = v6705.toInt := by rw [cv6758.2, ← BI6746]
                  refine WP_callS1 dX11_scan_168 ⟨⟨⟨by decide, by decide⟩, zX11_isDigit⟩, lX11_34, tX11_isDigit⟩ (sm_isDigit hy hr hI6746 v6758 ) (Nat.le_of_ble_eq_true rfl) ?_
                  intro r Ia Ja Ra hq
                  obtain ⟨⟨ea, eb, ec⟩, v6759, rfl, av6759, bv6759, cv6759⟩ := hq
                  show WP _ _ _ _ (.int _ :: _) _ _ _ _
                  rw [ea, eb, ec]
                  clear ea eb ec Ia Ja Ra
                  refine WQ_if_eq 223 dX11_scan_171 rfl (fun c6759 => ?_) (fun c6759 => ?_)
                  · refine WP_aload_n dX11_scan_223 rfl ?_
                    refine WP_aload_n dX11_scan_224 rfl ?_
                    refine WQ_getim dX11_scan_225 fX11_20 rfl (ly_is hy 0 11 rfl) e6748 ?_
                    refine WP_aload_n dX11_scan_228 rfl ?_
                    refine WQ_getim dX11_scan_229 fX11_7 rfl (ly_is hy 0 11 rfl) e6755 ?_
                    refine WQ_isub dX11_scan_232 (by omega) (by omega) (fun v6761 hv6761 => ?_)
                    refine WQ_iconst (4) (4) dX11_scan_233 rfl rfl (fun v6762 hv6762 => ?_)
                    have jn242_6765 : ∀ (v6765 : Int32), 2 ≤ v6765.toInt → v6765.toInt ≤ 4 → WP g mX11_scan 242 [(0, .ref (ad g 0)), (1, .int v6705)] [.int v6765, .ref (ad g 0)] I6746 J6254 R (fun r I' J' R' => (MP g n L I' ∧ R' = R ∧ fz 49 g [0] I I' ∧ (((I' (ad g 0) 4).toInt ≤ (I' (ad g 0) 2).toInt ∧ (I' (ad g 0) 3).toInt ≤ (I' (ad g 0) 4).toInt ∧ ((I' (ad g 0) 5).toInt = 0 ∨ (I' (ad g 0) 3).toInt < (I' (ad g 0) 4).toInt)) ∧ (I (ad g 0) 4).toInt ≤ (I' (ad g 0) 3).toInt) ∧ I' (ad g 0) 7 = I (ad g 0) 7 ∧ I' (ad g 0) 15 = I (ad g 0) 15 ∧ I' (ad g 0) 16 = I (ad g 0) 16 ∧ I' (ad g 0) 17 = I (ad g 0) 17 ∧ I' (ad g 0) 18 = I (ad g 0) 18) ∧ r = none) := by
                      intro v6765 av6765 bv6765
                      refine WQ_puti dX11_scan_242 fX11_27 rfl rfl (ly_is hy 0 11 rfl) (fun I6767 eI6767 => ?_)
                      have hI6767 : MP g n L I6767 := by rw [eI6767]; exact (mp_w hy hI6746 (c := 0) (mi_f hy hI6746.1 (c := 0) (0) (0) (4) (by decide) (Or.inr (by decide)) (by decide) (by omega) (by omega)) (by decide) (by decide) (Or.inr (by decide)))
                      have e6768 : I6767 (ad g 0) 2 = w6255 := by rw [eI6767, pp_ne _ _ (Or.inr (by decide))]; exact e6747
                      have e6769 : I6767 (ad g 0) 4 = w6256 := by rw [eI6767, pp_ne _ _ (Or.inr (by decide))]; exact e6748
                      have e6770 : I6767 (ad g 0) 7 = w6257 := by rw [eI6767, pp_ne _ _ (Or.inr (by decide))]; exact e6749
                      have e6771 : I6767 (ad g 0) 15 = w6258 := by rw [eI6767, pp_ne _ _ (Or.inr (by decide))]; exact e6750
                      have e6772 : I6767 (ad g 0) 16 = w6259 := by rw [eI6767, pp_ne _ _ (Or.inr (by decide))]; exact e6751
                      have e6773 : I6767 (ad g 0) 17 = w6260 := by rw [eI6767, pp_ne _ _ (Or.inr (by decide))]; exact e6752
                      have e6774 : I6767 (ad g 0) 18 = w6261 := by rw [eI6767, pp_ne _ _ (Or.inr (by decide))]; exact e6753
                      have e6775 : I6767 (ad g 0) 1 = L := by rw [eI6767, pp_ne _ _ (Or.inr (by decide))]; exact e6754
                      have e6776 : I6767 (ad g 0) 3 = w6256 := by rw [eI6767, pp_ne _ _ (Or.inr (by decide))]; exact e6755
                      have e6777 : I6767 (ad g 0) 6 = v6745 := by rw [eI6767, pp_ne _ _ (Or.inr (by decide))]; exact e6756
                      have e6778 : I6767 (ad g 0) 5 = v6765 := by rw [eI6767, pp_self]
                      have fr6779 : fz 49 g [0] I I6767 := by rw [eI6767]; exact fzm_pp hy fr6757 (by decide) (by decide)
                      have BI6767 : v6705 = BF g I6767 w6256 := by rw [eI6767, BF_w hy (by decide)]; exact BI6746
                      clear eI6767
                      refine WP_goto 273 dX11_scan_245 rfl ?_
                      exact WP_vret dX11_scan_273 rfl ⟨⟨hI6767, rfl, fr6779, ⟨(by rw [e6768, e6776, e6769, e6778, ew6251]; omega), (by rw [e6770, ew6246] <;> exact (eq32 _ _).mpr (by omega)), (by rw [e6771, ew6247] <;> exact (eq32 _ _).mpr (by omega)), (by rw [e6772, ew6248] <;> exact (eq32 _ _).mpr (by omega)), (by rw [e6773, ew6249] <;> exact (eq32 _ _).mpr (by omega)), (by rw [e6774, ew6250] <;> exact (eq32 _ _).mpr (by omega))⟩⟩, rfl⟩
                    refine WQ_icmp_le 241 dX11_scan_234 rfl (fun c6779 => ?_) (fun c6779 => ?_)
                    · refine WQ_iconst (2) (2) dX11_scan_241 rfl rfl (fun v6781 hv6781 => ?_)
                      exact WP_sub (fc rfl (fc rfl fn)) (jn242_6765 v6781 (by omega) (by omega))
                    · refine WQ_iconst (4) (4) dX11_scan_237 rfl rfl (fun v6782 hv6782 => ?_)
                      refine WP_goto 242 dX11_scan_238 rfl ?_
                      exact WP_sub (fc rfl (fc rfl fn)) (jn242_6765 v6782 (by omega) (by omega))
                  · refine WP_aload_n dX11_scan_174 rfl ?_
                    refine WQ_getim dX11_scan_175 fX11_20 rfl (ly_is hy 0 11 rfl) e6748 ?_
                    refine WP_aload_n dX11_scan_178 rfl ?_
                    refine WQ_getim dX11_scan_179 fX11_7 rfl (ly_is hy 0 11 rfl) e6755 ?_
                    refine WQ_isub dX11_scan_182 (by omega) (by omega) (fun v6783 hv6783 => ?_)
                    refine WQ_iconst (4) (4) dX11_scan_183 rfl rfl (fun v6784 hv6784 => ?_)
                    refine WQ_icmp_ge 210 dX11_scan_184 rfl (fun c6784 => ?_) (fun c6784 => ?_)
                    · refine WP_aload_n dX11_scan_210 rfl ?_
                      refine WP_dup dX11_scan_211 rfl ?_
                      refine WQ_getim dX11_scan_212 fX11_20 rfl (ly_is hy 0 11 rfl) e6748 ?_
                      refine WQ_iconst (1) (1) dX11_scan_215 rfl rfl (fun v6786 hv6786 => ?_)
                      refine WQ_iadd dX11_scan_216 (by omega) (by omega) (fun v6787 hv6787 => ?_)
                      refine WQ_puti dX11_scan_217 fX11_20 rfl rfl (ly_is hy 0 11 rfl) (fun I6788 eI6788 => ?_)
                      have hI6788 : MP g n L I6788 := by rw [eI6788]; exact (mp_w hy hI6746 (c := 0) (mi_f hy hI6746.1 (c := 0) (0) (0) (900) (by decide) (Or.inr (by decide)) (by decide) (by omega) (by omega)) (by decide) (by decide) (Or.inr (by decide)))
                      have e6789 : I6788 (ad g 0) 2 = w6255 := by rw [eI6788, pp_ne _ _ (Or.inr (by decide))]; exact e6747
                      have e6790 : I6788 (ad g 0) 7 = w6257 := by rw [eI6788, pp_ne _ _ (Or.inr (by decide))]; exact e6749
                      have e6791 : I6788 (ad g 0) 15 = w6258 := by rw [eI6788, pp_ne _ _ (Or.inr (by decide))]; exact e6750
                      have e6792 : I6788 (ad g 0) 16 = w6259 := by rw [eI6788, pp_ne _ _ (Or.inr (by decide))]; exact e6751
                      have e6793 : I6788 (ad g 0) 17 = w6260 := by rw [eI6788, pp_ne _ _ (Or.inr (by decide))]; exact e6752
                      have e6794 : I6788 (ad g 0) 18 = w6261 := by rw [eI6788, pp_ne _ _ (Or.inr (by decide))]; exact e6753
                      have e6795 : I6788 (ad g 0) 1 = L := by rw [eI6788, pp_ne _ _ (Or.inr (by decide))]; exact e6754
                      have e6796 : I6788 (ad g 0) 3 = w6256 := by rw [eI6788, pp_ne _ _ (Or.inr (by decide))]; exact e6755
                      have e6797 : I6788 (ad g 0) 6 = v6745 := by rw [eI6788, pp_ne _ _ (Or.inr (by decide))]; exact e6756
                      have e6798 : I6788 (ad g 0) 4 = v6787 := by rw [eI6788, pp_self]
                      have fr6799 : fz 49 g [0] I I6788 := by rw [eI6788]; exact fzm_pp hy fr6757 (by decide) (by decide)
                      have BI6788 : v6705 = BF g I6788 w6256 := by rw [eI6788, BF_w hy (by decide)]; exact BI6746
                      clear eI6788
                      refine WP_goto 160 dX11_scan_220 rfl ?_
                      have lp160_6809 : ∀ (mz : Nat)  (I6800 : pI) (J6801 : pJ), MP g n L I6800 → fz 49 g [0] I I6800 → ∀ (w6802 : Int32), I6800 (ad g 0) 2 = w6802 → ∀ (w6803 : Int32), I6800 (ad g 0) 3 = w6803 → ∀ (w6804 : Int32), I6800 (ad g 0) 4 = w6804 → ∀ (w6805 : Int32), I6800 (ad g 0) 7 = w6805 → ∀ (w6806 : Int32), I6800 (ad g 0) 15 = w6806 → ∀ (w6807 : Int32), I6800 (ad g 0) 16 = w6807 → ∀ (w6808 : Int32), I6800 (ad g 0) 17 = w6808 → ∀ (w6809 : Int32), I6800 (ad g 0) 18 = w6809 → w6804.toInt ≤ w6802.toInt → w6803.toInt < w6804.toInt → w6251.toInt ≤ w6803.toInt → w6805.toInt = w6246.toInt → w6806.toInt = w6247.toInt → w6807.toInt = w6248.toInt → w6808.toInt = w6249.toInt → w6809.toInt = w6250.toInt → (901 - w6804.toInt).toNat < mz → WP g mX11_scan 160 [(0, .ref (ad g 0)), (1, .int v6705)] [] I6800 J6801 R (fun r I' J' R' => (MP g n L I' ∧ R' = R ∧ fz 49 g [0] I I' ∧ (((I' (ad g 0) 4).toInt ≤ (I' (ad g 0) 2).toInt ∧ (I' (ad g 0) 3).toInt ≤ (I' (ad g 0) 4).toInt ∧ ((I' (ad g 0) 5).toInt = 0 ∨ (I' (ad g 0) 3).toInt < (I' (ad g 0) 4).toInt)) ∧ (I (ad g 0) 4).toInt ≤ (I' (ad g 0) 3).toInt) ∧ I' (ad g 0) 7 = I (ad g 0) 7 ∧ I' (ad g 0) 15 = I (ad g 0) 15 ∧ I' (ad g 0) 16 = I (ad g 0) 16 ∧ I' (ad g 0) 17 = I (ad g 0) 17 ∧ I' (ad g 0) 18 = I (ad g 0) 18) ∧ r = none) := by
                        intro mz
                        induction mz with
                        | zero =>
                          intro  I6800 J6801 hI6800 fiI6800 w6802 ew6802 w6803 ew6803 w6804 ew6804 w6805 ew6805 w6806 ew6806 w6807 ew6807 w6808 ew6808 w6809 ew6809 j0_I6800 j1_I6800 j2_I6800 j3_I6800 j4_I6800 j5_I6800 j6_I6800 j7_I6800 hmlp160_6809
                          exact absurd hmlp160_6809 (Nat.not_lt_zero _)
                        | succ mz ihlp160_6809 =>
                          intro  I6800 J6801 hI6800 fiI6800 w6802 ew6802 w6803 ew6803 w6804 ew6804 w6805 ew6805 w6806 ew6806 w6807 ew6807 w6808 ew6808 w6809 ew6809 j0_I6800 j1_I6800 j2_I6800 j3_I6800 j4_I6800 j5_I6800 j6_I6800 j7_I6800 hmlp160_6809
                          have bw6802 := BT_get hI6800.1.1 0 2 3 (0) (0) (900) (by decide) 2 (by decide) (by decide)
                          rw [ew6802] at bw6802
                          have bw6803 := BT_get hI6800.1.1 0 3 4 (0) (0) (900) (by decide) 3 (by decide) (by decide)
                          rw [ew6803] at bw6803
                          have bw6804 := BT_get hI6800.1.1 0 4 5 (0) (0) (900) (by decide) 4 (by decide) (by decide)
                          rw [ew6804] at bw6804
                          have bw6805 := BT_get hI6800.1.1 0 7 8 (-1) (0) (1000) (by decide) 7 (by decide) (by decide)
                          rw [ew6805] at bw6805
                          have bw6806 := BT_get hI6800.1.1 0 15 16 (0) (0) (4) (by decide) 15 (by decide) (by decide)
                          rw [ew6806] at bw6806
                          have bw6807 := BT_get hI6800.1.1 0 16 17 (0) (0) (3) (by decide) 16 (by decide) (by decide)
                          rw [ew6807] at bw6807
                          have bw6808 := BT_get hI6800.1.1 0 17 18 (-1) (0) (3) (by decide) 17 (by decide) (by decide)
                          rw [ew6808] at bw6808
                          have bw6809 := BT_get hI6800.1.1 0 18 19 (-1) (0) (2) (by decide) 18 (by decide) (by decide)
                          rw [ew6809] at bw6809
                          have e6811 : I6800 (ad g 0) 1 = L := hI6800.1.2
                          have b6812 := BT_get hI6800.1.1 0 1 2 (0) (0) (900) (by decide) 1 (by decide) (by decide)
                          rw [e6811] at b6812
                          refine WP_aload_n dX11_scan_160 rfl ?_
                          refine WP_aload_n dX11_scan_161 rfl ?_
                          refine WQ_getim dX11_scan_162 fX11_20 rfl (ly_is hy 0 11 rfl) ew6804 ?_
                          refine WP_callV1 (k := 11) dX11_scan_165 ⟨⟨⟨by decide, by decide⟩, zX11_byteAt⟩, lX11_23, by decide, rfl, vX11_byteAt.1, vX11_byteAt.2⟩ (ly_is hy 0 11 rfl) (sm_byteAtx hy hr hI6800 w6804 (by omega) (by omega)) (Nat.le_of_ble_eq_true rfl) ?_
                          intro r Ia Ja Ra hq
                          obtain ⟨⟨ea, eb, ec⟩, v6813, rfl, cv6813⟩ := hq
                          show WP _ _ _ _ (.int _ :: _) _ _ _ _
                          rw [ea, eb, ec]
                          clear ea eb ec Ia Ja Ra
                          rw [ew6802] at cv6813
                          refine WP_callS1 dX11_scan_168 ⟨⟨⟨by decide, by decide⟩, zX11_isDigit⟩, lX11_34, tX11_isDigit⟩ (sm_isDigit hy hr hI6800 v6813 ) (Nat.le_of_ble_eq_true rfl) ?_
                          intro r Ia Ja Ra hq
                          obtain ⟨⟨ea, eb, ec⟩, v6814, rfl, av6814, bv6814, cv6814⟩ := hq
                          show WP _ _ _ _ (.int _ :: _) _ _ _ _
                          rw [ea, eb, ec]
                          clear ea eb ec Ia Ja Ra
                          refine WQ_if_eq 223 dX11_scan_171 rfl (fun c6814 => ?_) (fun c6814 => ?_)
                          · refine WP_aload_n dX11_scan_223 rfl ?_
                            refine WP_aload_n dX11_scan_224 rfl ?_
                            refine WQ_getim dX11_scan_225 fX11_20 rfl (ly_is hy 0 11 rfl) ew6804 ?_
                            refine WP_aload_n dX11_scan_228 rfl ?_
                            refine WQ_getim dX11_scan_229 fX11_7 rfl (ly_is hy 0 11 rfl) ew6803 ?_
                            refine WQ_isub dX11_scan_232 (by omega) (by omega) (fun v6816 hv6816 => ?_)
                            refine WQ_iconst (4) (4) dX11_scan_233 rfl rfl (fun v6817 hv6817 => ?_)
                            have jn242_6820 : ∀ (v6820 : Int32), 2 ≤ v6820.toInt → v6820.toInt ≤ 4 → WP g mX11_scan 242 [(0, .ref (ad g 0)), (1, .int v6705)] [.int v6820, .ref (ad g 0)] I6800 J6801 R (fun r I' J' R' => (MP g n L I' ∧ R' = R ∧ fz 49 g [0] I I' ∧ (((I' (ad g 0) 4).toInt ≤ (I' (ad g 0) 2).toInt ∧ (I' (ad g 0) 3).toInt ≤ (I' (ad g 0) 4).toInt ∧ ((I' (ad g 0) 5).toInt = 0 ∨ (I' (ad g 0) 3).toInt < (I' (ad g 0) 4).toInt)) ∧ (I (ad g 0) 4).toInt ≤ (I' (ad g 0) 3).toInt) ∧ I' (ad g 0) 7 = I (ad g 0) 7 ∧ I' (ad g 0) 15 = I (ad g 0) 15 ∧ I' (ad g 0) 16 = I (ad g 0) 16 ∧ I' (ad g 0) 17 = I (ad g 0) 17 ∧ I' (ad g 0) 18 = I (ad g 0) 18) ∧ r = none) := by
                              intro v6820 av6820 bv6820
                              refine WQ_puti dX11_scan_242 fX11_27 rfl rfl (ly_is hy 0 11 rfl) (fun I6822 eI6822 => ?_)
                              have hI6822 : MP g n L I6822 := by rw [eI6822]; exact (mp_w hy hI6800 (c := 0) (mi_f hy hI6800.1 (c := 0) (0) (0) (4) (by decide) (Or.inr (by decide)) (by decide) (by omega) (by omega)) (by decide) (by decide) (Or.inr (by decide)))
                              have e6823 : I6822 (ad g 0) 2 = w6802 := by rw [eI6822, pp_ne _ _ (Or.inr (by decide))]; exact ew6802
                              have e6824 : I6822 (ad g 0) 3 = w6803 := by rw [eI6822, pp_ne _ _ (Or.inr (by decide))]; exact ew6803
                              have e6825 : I6822 (ad g 0) 4 = w6804 := by rw [eI6822, pp_ne _ _ (Or.inr (by decide))]; exact ew6804
                              have e6826 : I6822 (ad g 0) 7 = w6805 := by rw [eI6822, pp_ne _ _ (Or.inr (by decide))]; exact ew6805
                              have e6827 : I6822 (ad g 0) 15 = w6806 := by rw [eI6822, pp_ne _ _ (Or.inr (by decide))]; exact ew6806
                              have e6828 : I6822 (ad g 0) 16 = w6807 := by rw [eI6822, pp_ne _ _ (Or.inr (by decide))]; exact ew6807
                              have e6829 : I6822 (ad g 0) 17 = w6808 := by rw [eI6822, pp_ne _ _ (Or.inr (by decide))]; exact ew6808
                              have e6830 : I6822 (ad g 0) 18 = w6809 := by rw [eI6822, pp_ne _ _ (Or.inr (by decide))]; exact ew6809
                              have e6831 : I6822 (ad g 0) 1 = L := by rw [eI6822, pp_ne _ _ (Or.inr (by decide))]; exact e6811
                              have e6832 : I6822 (ad g 0) 5 = v6820 := by rw [eI6822, pp_self]
                              have fr6833 : fz 49 g [0] I I6822 := by rw [eI6822]; exact fzm_pp hy fiI6800 (by decide) (by decide)
                              clear eI6822
                              refine WP_goto 273 dX11_scan_245 rfl ?_
                              exact WP_vret dX11_scan_273 rfl ⟨⟨hI6822, rfl, fr6833, ⟨(by rw [e6823, e6824, e6825, e6832, ew6251]; omega), (by rw [e6826, ew6246] <;> exact (eq32 _ _).mpr (by omega)), (by rw [e6827, ew6247] <;> exact (eq32 _ _).mpr (by omega)), (by rw [e6828, ew6248] <;> exact (eq32 _ _).mpr (by omega)), (by rw [e6829, ew6249] <;> exact (eq32 _ _).mpr (by omega)), (by rw [e6830, ew6250] <;> exact (eq32 _ _).mpr (by omega))⟩⟩, rfl⟩
                            refine WQ_icmp_le 241 dX11_scan_234 rfl (fun c6833 => ?_) (fun c6833 => ?_)
                            · refine WQ_iconst (2) (2) dX11_scan_241 rfl rfl (fun v6835 hv6835 => ?_)
                              exact WP_sub (fc rfl (fc rfl fn)) (jn242_6820 v6835 (by omega) (by omega))
                            · refine WQ_iconst (4) (4) dX11_scan_237 rfl rfl (fun v6836 hv6836 => ?_)
                              refine WP_goto 242 dX11_scan_238 rfl ?_
                              exact WP_sub (fc rfl (fc rfl fn)) (jn242_6820 v6836 (by omega) (by omega))
                          · refine WP_aload_n dX11_scan_174 rfl ?_
                            refine WQ_getim dX11_scan_175 fX11_20 rfl (ly_is hy 0 11 rfl) ew6804 ?_
                            refine WP_aload_n dX11_scan_178 rfl ?_
                            refine WQ_getim dX11_scan_179 fX11_7 rfl (ly_is hy 0 11 rfl) ew6803 ?_
                            refine WQ_isub dX11_scan_182 (by omega) (by omega) (fun v6837 hv6837 => ?_)
                            refine WQ_iconst (4) (4) dX11_scan_183 rfl rfl (fun v6838 hv6838 => ?_)
                            refine WQ_icmp_ge 210 dX11_scan_184 rfl (fun c6838 => ?_) (fun c6838 => ?_)
                            · refine WP_aload_n dX11_scan_210 rfl ?_
                              refine WP_dup dX11_scan_211 rfl ?_
                              refine WQ_getim dX11_scan_212 fX11_20 rfl (ly_is hy 0 11 rfl) ew6804 ?_
                              refine WQ_iconst (1) (1) dX11_scan_215 rfl rfl (fun v6840 hv6840 => ?_)
                              refine WQ_iadd dX11_scan_216 (by omega) (by omega) (fun v6841 hv6841 => ?_)
                              refine WQ_puti dX11_scan_217 fX11_20 rfl rfl (ly_is hy 0 11 rfl) (fun I6842 eI6842 => ?_)
                              have hI6842 : MP g n L I6842 := by rw [eI6842]; exact (mp_w hy hI6800 (c := 0) (mi_f hy hI6800.1 (c := 0) (0) (0) (900) (by decide) (Or.inr (by decide)) (by decide) (by omega) (by omega)) (by decide) (by decide) (Or.inr (by decide)))
                              have e6843 : I6842 (ad g 0) 2 = w6802 := by rw [eI6842, pp_ne _ _ (Or.inr (by decide))]; exact ew6802
                              have e6844 : I6842 (ad g 0) 3 = w6803 := by rw [eI6842, pp_ne _ _ (Or.inr (by decide))]; exact ew6803
                              have e6845 : I6842 (ad g 0) 7 = w6805 := by rw [eI6842, pp_ne _ _ (Or.inr (by decide))]; exact ew6805
                              have e6846 : I6842 (ad g 0) 15 = w6806 := by rw [eI6842, pp_ne _ _ (Or.inr (by decide))]; exact ew6806
                              have e6847 : I6842 (ad g 0) 16 = w6807 := by rw [eI6842, pp_ne _ _ (Or.inr (by decide))]; exact ew6807
                              have e6848 : I6842 (ad g 0) 17 = w6808 := by rw [eI6842, pp_ne _ _ (Or.inr (by decide))]; exact ew6808
                              have e6849 : I6842 (ad g 0) 18 = w6809 := by rw [eI6842, pp_ne _ _ (Or.inr (by decide))]; exact ew6809
                              have e6850 : I6842 (ad g 0) 1 = L := by rw [eI6842, pp_ne _ _ (Or.inr (by decide))]; exact e6811
                              have e6851 : I6842 (ad g 0) 4 = v6841 := by rw [eI6842, pp_self]
                              have fr6852 : fz 49 g [0] I I6842 := by rw [eI6842]; exact fzm_pp hy fiI6800 (by decide) (by decide)
                              clear eI6842
                              refine WP_goto 160 dX11_scan_220 rfl ?_
                              exact WP_sub (fc rfl (fc rfl fn)) (ihlp160_6809 I6842 J6801 hI6842 fr6852 w6802 e6843 w6803 e6844 v6841 e6851 w6805 e6845 w6806 e6846 w6807 e6847 w6808 e6848 w6809 e6849 (by omega) (by omega) (by omega) (by omega) (by omega) (by omega) (by omega) (by omega) (by omega))
                            · refine WP_aload_n dX11_scan_187 rfl ?_
                              refine WQ_bipush (10) (10) dX11_scan_188 rfl rfl (fun v6853 hv6853 => ?_)
                              refine WP_aload_n dX11_scan_190 rfl ?_
                              refine WQ_getiu dX11_scan_191 fX11_37 rfl (ly_is hy 0 11 rfl) (fun v6854 ev6854 => ?_)
                              refine WQ_imulu dX11_scan_194 (fun v6855 => ?_)
                              refine WP_aload_n dX11_scan_195 rfl ?_
                              refine WP_aload_n dX11_scan_196 rfl ?_
                              refine WQ_getim dX11_scan_197 fX11_20 rfl (ly_is hy 0 11 rfl) ew6804 ?_
                              refine WP_callV1 (k := 11) dX11_scan_200 ⟨⟨⟨by decide, by decide⟩, zX11_byteAt⟩, lX11_23, by decide, rfl, vX11_byteAt.1, vX11_byteAt.2⟩ (ly_is hy 0 11 rfl) (sm_byteAtx hy hr hI6800 w6804 (by omega) (by omega)) (Nat.le_of_ble_eq_true rfl) ?_
                              intro r Ia Ja Ra hq
                              obtain ⟨⟨ea, eb, ec⟩, v6856, rfl, cv6856⟩ := hq
                              show WP _ _ _ _ (.int _ :: _) _ _ _ _
                              rw [ea, eb, ec]
                              clear ea eb ec Ia Ja Ra
                              rw [ew6802] at cv6856
                              refine WQ_iaddu dX11_scan_203 (fun v6857 => ?_)
                              refine WQ_bipush (48) (48) dX11_scan_204 rfl rfl (fun v6858 hv6858 => ?_)
                              refine WQ_isubu dX11_scan_206 (fun v6859 => ?_)
                              refine WQ_puti dX11_scan_207 fX11_37 rfl rfl (ly_is hy 0 11 rfl) (fun I6860 eI6860 => ?_)
                              have hI6860 : MP g n L I6860 := by rw [eI6860]; exact (mp_w hy hI6800 (c := 0) (mi_f0 hy hI6800.1 (c := 0) (by decide) (Or.inr (by decide)) (by decide)) (by decide) (by decide) (Or.inr (by decide)))
                              have e6861 : I6860 (ad g 0) 2 = w6802 := by rw [eI6860, pp_ne _ _ (Or.inr (by decide))]; exact ew6802
                              have e6862 : I6860 (ad g 0) 3 = w6803 := by rw [eI6860, pp_ne _ _ (Or.inr (by decide))]; exact ew6803
                              have e6863 : I6860 (ad g 0) 4 = w6804 := by rw [eI6860, pp_ne _ _ (Or.inr (by decide))]; exact ew6804
                              have e6864 : I6860 (ad g 0) 7 = w6805 := by rw [eI6860, pp_ne _ _ (Or.inr (by decide))]; exact ew6805
                              have e6865 : I6860 (ad g 0) 15 = w6806 := by rw [eI6860, pp_ne _ _ (Or.inr (by decide))]; exact ew6806
                              have e6866 : I6860 (ad g 0) 16 = w6807 := by rw [eI6860, pp_ne _ _ (Or.inr (by decide))]; exact ew6807
                              have e6867 : I6860 (ad g 0) 17 = w6808 := by rw [eI6860, pp_ne _ _ (Or.inr (by decide))]; exact ew6808
                              have e6868 : I6860 (ad g 0) 18 = w6809 := by rw [eI6860, pp_ne _ _ (Or.inr (by decide))]; exact ew6809
                              have e6869 : I6860 (ad g 0) 1 = L := by rw [eI6860, pp_ne _ _ (Or.inr (by decide))]; exact e6811
                              have e6870 : I6860 (ad g 0) 6 = v6859 := by rw [eI6860, pp_self]
                              have fr6871 : fz 49 g [0] I I6860 := by rw [eI6860]; exact fzm_pp hy fiI6800 (by decide) (by decide)
                              clear eI6860
                              refine WP_aload_n dX11_scan_210 rfl ?_
                              refine WP_dup dX11_scan_211 rfl ?_
                              refine WQ_getim dX11_scan_212 fX11_20 rfl (ly_is hy 0 11 rfl) e6863 ?_
                              refine WQ_iconst (1) (1) dX11_scan_215 rfl rfl (fun v6872 hv6872 => ?_)
                              refine WQ_iadd dX11_scan_216 (by omega) (by omega) (fun v6873 hv6873 => ?_)
                              refine WQ_puti dX11_scan_217 fX11_20 rfl rfl (ly_is hy 0 11 rfl) (fun I6874 eI6874 => ?_)
                              have hI6874 : MP g n L I6874 := by rw [eI6874]; exact (mp_w hy hI6860 (c := 0) (mi_f hy hI6860.1 (c := 0) (0) (0) (900) (by decide) (Or.inr (by decide)) (by decide) (by omega) (by omega)) (by decide) (by decide) (Or.inr (by decide)))
                              have e6875 : I6874 (ad g 0) 2 = w6802 := by rw [eI6874, pp_ne _ _ (Or.inr (by decide))]; exact e6861
                              have e6876 : I6874 (ad g 0) 3 = w6803 := by rw [eI6874, pp_ne _ _ (Or.inr (by decide))]; exact e6862
                              have e6877 : I6874 (ad g 0) 7 = w6805 := by rw [eI6874, pp_ne _ _ (Or.inr (by decide))]; exact e6864
                              have e6878 : I6874 (ad g 0) 15 = w6806 := by rw [eI6874, pp_ne _ _ (Or.inr (by decide))]; exact e6865
                              have e6879 : I6874 (ad g 0) 16 = w6807 := by rw [eI6874, pp_ne _ _ (Or.inr (by decide))]; exact e6866
                              have e6880 : I6874 (ad g 0) 17 = w6808 := by rw [eI6874, pp_ne _ _ (Or.inr (by decide))]; exact e6867
                              have e6881 : I6874 (ad g 0) 18 = w6809 := by rw [eI6874, pp_ne _ _ (Or.inr (by decide))]; exact e6868
                              have e6882 : I6874 (ad g 0) 1 = L := by rw [eI6874, pp_ne _ _ (Or.inr (by decide))]; exact e6869
                              have e6883 : I6874 (ad g 0) 6 = v6859 := by rw [eI6874, pp_ne _ _ (Or.inr (by decide))]; exact e6870
                              have e6884 : I6874 (ad g 0) 4 = v6873 := by rw [eI6874, pp_self]
                              have fr6885 : fz 49 g [0] I I6874 := by rw [eI6874]; exact fzm_pp hy fr6871 (by decide) (by decide)
                              clear eI6874
                              refine WP_goto 160 dX11_scan_220 rfl ?_
                              exact WP_sub (fc rfl (fc rfl fn)) (ihlp160_6809 I6874 J6801 hI6874 fr6885 w6802 e6875 w6803 e6876 v6873 e6884 w6805 e6877 w6806 e6878 w6807 e6879 w6808 e6880 w6809 e6881 (by omega) (by omega) (by omega) (by omega) (by omega) (by omega) (by omega) (by omega) (by omega))
                      exact WP_sub (fc rfl (fc rfl fn)) (lp160_6809 _ I6788 J6254 hI6788 fr6799 w6255 e6789 w6256 e6796 v6787 e6798 w6257 e6790 w6258 e6791 w6259 e6792 w6260 e6793 w6261 e6794 (by omega) (by omega) (by omega) (by omega) (by omega) (by omega) (by omega) (by omega) (Nat.lt_succ_self _))
                    · refine WP_aload_n dX11_scan_187 rfl ?_
                      refine WQ_bipush (10) (10) dX11_scan_188 rfl rfl (fun v6886 hv6886 => ?_)
                      refine WP_aload_n dX11_scan_190 rfl ?_
                      refine WQ_getim dX11_scan_191 fX11_37 rfl (ly_is hy 0 11 rfl) e6756 ?_
                      refine WQ_imulk (0) dX11_scan_194 hv6745 (by omega) (by omega) (fun v6887 hv6887 => ?_)
                      refine WP_aload_n dX11_scan_195 rfl ?_
                      refine WP_aload_n dX11_scan_196 rfl ?_
                      refine WQ_getim dX11_scan_197 fX11_20 rfl (ly_is hy 0 11 rfl) e6748 ?_
                      refine WP_callV1 (k := 11) dX11_scan_200 ⟨⟨⟨by decide, by decide⟩, zX11_byteAt⟩, lX11_23, by decide, rfl, vX11_byteAt.1, vX11_byteAt.2⟩ (ly_is hy 0 11 rfl) (sm_byteAtx hy hr hI6746 w6256 (by omega) (by omega)) (Nat.le_of_ble_eq_true rfl) ?_
                      intro r Ia Ja Ra hq
                      obtain ⟨⟨ea, eb, ec⟩, v6888, rfl, cv6888⟩ := hq
                      show WP _ _ _ _ (.int _ :: _) _ _ _ _
                      rw [ea, eb, ec]
                      clear ea eb ec Ia Ja Ra
                      rw [e6747] at cv6888
                      refine WQ_iaddu dX11_scan_203 (fun v6889 => ?_)
                      refine WQ_bipush (48) (48) dX11_scan_204 rfl rfl (fun v6890 hv6890 => ?_)
                      refine WQ_isubu dX11_scan_206 (fun v6891 => ?_)
                      refine WQ_puti dX11_scan_207 fX11_37 rfl rfl (ly_is hy 0 11 rfl) (fun I6892 eI6892 => ?_)
                      have hI6892 : MP g n L I6892 := by rw [eI6892]; exact (mp_w hy hI6746 (c := 0) (mi_f0 hy hI6746.1 (c := 0) (by decide) (Or.inr (by decide)) (by decide)) (by decide) (by decide) (Or.inr (by decide)))
                      have e6893 : I6892 (ad g 0) 2 = w6255 := by rw [eI6892, pp_ne _ _ (Or.inr (by decide))]; exact e6747
                      have e6894 : I6892 (ad g 0) 4 = w6256 := by rw [eI6892, pp_ne _ _ (Or.inr (by decide))]; exact e6748
                      have e6895 : I6892 (ad g 0) 7 = w6257 := by rw [eI6892, pp_ne _ _ (Or.inr (by decide))]; exact e6749
                      have e6896 : I6892 (ad g 0) 15 = w6258 := by rw [eI6892, pp_ne _ _ (Or.inr (by decide))]; exact e6750
                      have e6897 : I6892 (ad g 0) 16 = w6259 := by rw [eI6892, pp_ne _ _ (Or.inr (by decide))]; exact e6751
                      have e6898 : I6892 (ad g 0) 17 = w6260 := by rw [eI6892, pp_ne _ _ (Or.inr (by decide))]; exact e6752
                      have e6899 : I6892 (ad g 0) 18 = w6261 := by rw [eI6892, pp_ne _ _ (Or.inr (by decide))]; exact e6753
                      have e6900 : I6892 (ad g 0) 1 = L := by rw [eI6892, pp_ne _ _ (Or.inr (by decide))]; exact e6754
                      have e6901 : I6892 (ad g 0) 3 = w6256 := by rw [eI6892, pp_ne _ _ (Or.inr (by decide))]; exact e6755
                      have e6902 : I6892 (ad g 0) 6 = v6891 := by rw [eI6892, pp_self]
                      have fr6903 : fz 49 g [0] I I6892 := by rw [eI6892]; exact fzm_pp hy fr6757 (by decide) (by decide)
                      have BI6892 : v6705 = BF g I6892 w6256 := by rw [eI6892, BF_w hy (by decide)]; exact BI6746
                      clear eI6892
                      refine WP_aload_n dX11_scan_210 rfl ?_
                      refine WP_dup dX11_scan_211 rfl ?_
                      refine WQ_getim dX11_scan_212 fX11_20 rfl (ly_is hy 0 11 rfl) e6894 ?_
                      refine WQ_iconst (1) (1) dX11_scan_215 rfl rfl (fun v6904 hv6904 => ?_)
                      refine WQ_iadd dX11_scan_216 (by omega) (by omega) (fun v6905 hv6905 => ?_)
                      refine WQ_puti dX11_scan_217 fX11_20 rfl rfl (ly_is hy 0 11 rfl) (fun I6906 eI6906 => ?_)
                      have hI6906 : MP g n L I6906 := by rw [eI6906]; exact (mp_w hy hI6892 (c := 0) (mi_f hy hI6892.1 (c := 0) (0) (0) (900) (by decide) (Or.inr (by decide)) (by decide) (by omega) (by omega)) (by decide) (by decide) (Or.inr (by decide)))
                      have e6907 : I6906 (ad g 0) 2 = w6255 := by rw [eI6906, pp_ne _ _ (Or.inr (by decide))]; exact e6893
                      have e6908 : I6906 (ad g 0) 7 = w6257 := by rw [eI6906, pp_ne _ _ (Or.inr (by decide))]; exact e6895
                      have e6909 : I6906 (ad g 0) 15 = w6258 := by rw [eI6906, pp_ne _ _ (Or.inr (by decide))]; exact e6896
                      have e6910 : I6906 (ad g 0) 16 = w6259 := by rw [eI6906, pp_ne _ _ (Or.inr (by decide))]; exact e6897
                      have e6911 : I6906 (ad g 0) 17 = w6260 := by rw [eI6906, pp_ne _ _ (Or.inr (by decide))]; exact e6898
                      have e6912 : I6906 (ad g 0) 18 = w6261 := by rw [eI6906, pp_ne _ _ (Or.inr (by decide))]; exact e6899
                      have e6913 : I6906 (ad g 0) 1 = L := by rw [eI6906, pp_ne _ _ (Or.inr (by decide))]; exact e6900
                      have e6914 : I6906 (ad g 0) 3 = w6256 := by rw [eI6906, pp_ne _ _ (Or.inr (by decide))]; exact e6901
                      have e6915 : I6906 (ad g 0) 6 = v6891 := by rw [eI6906, pp_ne _ _ (Or.inr (by decide))]; exact e6902
                      have e6916 : I6906 (ad g 0) 4 = v6905 := by rw [eI6906, pp_self]
                      have fr6917 : fz 49 g [0] I I6906 := by rw [eI6906]; exact fzm_pp hy fr6903 (by decide) (by decide)
                      have BI6906 : v6705 = BF g I6906 w6256 := by rw [eI6906, BF_w hy (by decide)]; exact BI6892
                      clear eI6906
                      refine WP_goto 160 dX11_scan_220 rfl ?_
                      have lp160_6927 : ∀ (mz : Nat)  (I6918 : pI) (J6919 : pJ), MP g n L I6918 → fz 49 g [0] I I6918 → ∀ (w6920 : Int32), I6918 (ad g 0) 2 = w6920 → ∀ (w6921 : Int32), I6918 (ad g 0) 3 = w6921 → ∀ (w6922 : Int32), I6918 (ad g 0) 4 = w6922 → ∀ (w6923 : Int32), I6918 (ad g 0) 7 = w6923 → ∀ (w6924 : Int32), I6918 (ad g 0) 15 = w6924 → ∀ (w6925 : Int32), I6918 (ad g 0) 16 = w6925 → ∀ (w6926 : Int32), I6918 (ad g 0) 17 = w6926 → ∀ (w6927 : Int32), I6918 (ad g 0) 18 = w6927 → w6922.toInt ≤ w6920.toInt → w6921.toInt < w6922.toInt → w6251.toInt ≤ w6921.toInt → w6923.toInt = w6246.toInt → w6924.toInt = w6247.toInt → w6925.toInt = w6248.toInt → w6926.toInt = w6249.toInt → w6927.toInt = w6250.toInt → (901 - w6922.toInt).toNat < mz → WP g mX11_scan 160 [(0, .ref (ad g 0)), (1, .int v6705)] [] I6918 J6919 R (fun r I' J' R' => (MP g n L I' ∧ R' = R ∧ fz 49 g [0] I I' ∧ (((I' (ad g 0) 4).toInt ≤ (I' (ad g 0) 2).toInt ∧ (I' (ad g 0) 3).toInt ≤ (I' (ad g 0) 4).toInt ∧ ((I' (ad g 0) 5).toInt = 0 ∨ (I' (ad g 0) 3).toInt < (I' (ad g 0) 4).toInt)) ∧ (I (ad g 0) 4).toInt ≤ (I' (ad g 0) 3).toInt) ∧ I' (ad g 0) 7 = I (ad g 0) 7 ∧ I' (ad g 0) 15 = I (ad g 0) 15 ∧ I' (ad g 0) 16 = I (ad g 0) 16 ∧ I' (ad g 0) 17 = I (ad g 0) 17 ∧ I' (ad g 0) 18 = I (ad g 0) 18) ∧ r = none) := by
                        intro mz
                        induction mz with
                        | zero =>
                          intro  I6918 J6919 hI6918 fiI6918 w6920 ew6920 w6921 ew6921 w6922 ew6922 w6923 ew6923 w6924 ew6924 w6925 ew6925 w6926 ew6926 w6927 ew6927 j0_I6918 j1_I6918 j2_I6918 j3_I6918 j4_I6918 j5_I6918 j6_I6918 j7_I6918 hmlp160_6927
                          exact absurd hmlp160_6927 (Nat.not_lt_zero _)
                        | succ mz ihlp160_6927 =>
                          intro  I6918 J6919 hI6918 fiI6918 w6920 ew6920 w6921 ew6921 w6922 ew6922 w6923 ew6923 w6924 ew6924 w6925 ew6925 w6926 ew6926 w6927 ew6927 j0_I6918 j1_I6918 j2_I6918 j3_I6918 j4_I6918 j5_I6918 j6_I6918 j7_I6918 hmlp160_6927
                          have bw6920 := BT_get hI6918.1.1 0 2 3 (0) (0) (900) (by decide) 2 (by decide) (by decide)
                          rw [ew6920] at bw6920
                          have bw6921 := BT_get hI6918.1.1 0 3 4 (0) (0) (900) (by decide) 3 (by decide) (by decide)
                          rw [ew6921] at bw6921
                          have bw6922 := BT_get hI6918.1.1 0 4 5 (0) (0) (900) (by decide) 4 (by decide) (by decide)
                          rw [ew6922] at bw6922
                          have bw6923 := BT_get hI6918.1.1 0 7 8 (-1) (0) (1000) (by decide) 7 (by decide) (by decide)
                          rw [ew6923] at bw6923
                          have bw6924 := BT_get hI6918.1.1 0 15 16 (0) (0) (4) (by decide) 15 (by decide) (by decide)
                          rw [ew6924] at bw6924
                          have bw6925 := BT_get hI6918.1.1 0 16 17 (0) (0) (3) (by decide) 16 (by decide) (by decide)
                          rw [ew6925] at bw6925
                          have bw6926 := BT_get hI6918.1.1 0 17 18 (-1) (0) (3) (by decide) 17 (by decide) (by decide)
                          rw [ew6926] at bw6926
                          have bw6927 := BT_get hI6918.1.1 0 18 19 (-1) (0) (2) (by decide) 18 (by decide) (by decide)
                          rw [ew6927] at bw6927
                          have e6929 : I6918 (ad g 0) 1 = L := hI6918.1.2
                          have b6930 := BT_get hI6918.1.1 0 1 2 (0) (0) (900) (by decide) 1 (by decide) (by decide)
                          rw [e6929] at b6930
                          refine WP_aload_n dX11_scan_160 rfl ?_
                          refine WP_aload_n dX11_scan_161 rfl ?_
                          refine WQ_getim dX11_scan_162 fX11_20 rfl (ly_is hy 0 11 rfl) ew6922 ?_
                          refine WP_callV1 (k := 11) dX11_scan_165 ⟨⟨⟨by decide, by decide⟩, zX11_byteAt⟩, lX11_23, by decide, rfl, vX11_byteAt.1, vX11_byteAt.2⟩ (ly_is hy 0 11 rfl) (sm_byteAtx hy hr hI6918 w6922 (by omega) (by omega)) (Nat.le_of_ble_eq_true rfl) ?_
                          intro r Ia Ja Ra hq
                          obtain ⟨⟨ea, eb, ec⟩, v6931, rfl, cv6931⟩ := hq
                          show WP _ _ _ _ (.int _ :: _) _ _ _ _
                          rw [ea, eb, ec]
                          clear ea eb ec Ia Ja Ra
                          rw [ew6920] at cv6931
                          refine WP_callS1 dX11_scan_168 ⟨⟨⟨by decide, by decide⟩, zX11_isDigit⟩, lX11_34, tX11_isDigit⟩ (sm_isDigit hy hr hI6918 v6931 ) (Nat.le_of_ble_eq_true rfl) ?_
                          intro r Ia Ja Ra hq
                          obtain ⟨⟨ea, eb, ec⟩, v6932, rfl, av6932, bv6932, cv6932⟩ := hq
                          show WP _ _ _ _ (.int _ :: _) _ _ _ _
                          rw [ea, eb, ec]
                          clear ea eb ec Ia Ja Ra
                          refine WQ_if_eq 223 dX11_scan_171 rfl (fun c6932 => ?_) (fun c6932 => ?_)
                          · refine WP_aload_n dX11_scan_223 rfl ?_
                            refine WP_aload_n dX11_scan_224 rfl ?_
                            refine WQ_getim dX11_scan_225 fX11_20 rfl (ly_is hy 0 11 rfl) ew6922 ?_
                            refine WP_aload_n dX11_scan_228 rfl ?_
                            refine WQ_getim dX11_scan_229 fX11_7 rfl (ly_is hy 0 11 rfl) ew6921 ?_
                            refine WQ_isub dX11_scan_232 (by omega) (by omega) (fun v6934 hv6934 => ?_)
                            refine WQ_iconst (4) (4) dX11_scan_233 rfl rfl (fun v6935 hv6935 => ?_)
                            have jn242_6938 : ∀ (v6938 : Int32), 2 ≤ v6938.toInt → v6938.toInt ≤ 4 → WP g mX11_scan 242 [(0, .ref (ad g 0)), (1, .int v6705)] [.int v6938, .ref (ad g 0)] I6918 J6919 R (fun r I' J' R' => (MP g n L I' ∧ R' = R ∧ fz 49 g [0] I I' ∧ (((I' (ad g 0) 4).toInt ≤ (I' (ad g 0) 2).toInt ∧ (I' (ad g 0) 3).toInt ≤ (I' (ad g 0) 4).toInt ∧ ((I' (ad g 0) 5).toInt = 0 ∨ (I' (ad g 0) 3).toInt < (I' (ad g 0) 4).toInt)) ∧ (I (ad g 0) 4).toInt ≤ (I' (ad g 0) 3).toInt) ∧ I' (ad g 0) 7 = I (ad g 0) 7 ∧ I' (ad g 0) 15 = I (ad g 0) 15 ∧ I' (ad g 0) 16 = I (ad g 0) 16 ∧ I' (ad g 0) 17 = I (ad g 0) 17 ∧ I' (ad g 0) 18 = I (ad g 0) 18) ∧ r = none) := by
                              intro v6938 av6938 bv6938
                              refine WQ_puti dX11_scan_242 fX11_27 rfl rfl (ly_is hy 0 11 rfl) (fun I6940 eI6940 => ?_)
                              have hI6940 : MP g n L I6940 := by rw [eI6940]; exact (mp_w hy hI6918 (c := 0) (mi_f hy hI6918.1 (c := 0) (0) (0) (4) (by decide) (Or.inr (by decide)) (by decide) (by omega) (by omega)) (by decide) (by decide) (Or.inr (by decide)))
                              have e6941 : I6940 (ad g 0) 2 = w6920 := by rw [eI6940, pp_ne _ _ (Or.inr (by decide))]; exact ew6920
                              have e6942 : I6940 (ad g 0) 3 = w6921 := by rw [eI6940, pp_ne _ _ (Or.inr (by decide))]; exact ew6921
                              have e6943 : I6940 (ad g 0) 4 = w6922 := by rw [eI6940, pp_ne _ _ (Or.inr (by decide))]; exact ew6922
                              have e6944 : I6940 (ad g 0) 7 = w6923 := by rw [eI6940, pp_ne _ _ (Or.inr (by decide))]; exact ew6923
                              have e6945 : I6940 (ad g 0) 15 = w6924 := by rw [eI6940, pp_ne _ _ (Or.inr (by decide))]; exact ew6924
                              have e6946 : I6940 (ad g 0) 16 = w6925 := by rw [eI6940, pp_ne _ _ (Or.inr (by decide))]; exact ew6925
                              have e6947 : I6940 (ad g 0) 17 = w6926 := by rw [eI6940, pp_ne _ _ (Or.inr (by decide))]; exact ew6926
                              have e6948 : I6940 (ad g 0) 18 = w6927 := by rw [eI6940, pp_ne _ _ (Or.inr (by decide))]; exact ew6927
                              have e6949 : I6940 (ad g 0) 1 = L := by rw [eI6940, pp_ne _ _ (Or.inr (by decide))]; exact e6929
                              have e6950 : I6940 (ad g 0) 5 = v6938 := by rw [eI6940, pp_self]
                              have fr6951 : fz 49 g [0] I I6940 := by rw [eI6940]; exact fzm_pp hy fiI6918 (by decide) (by decide)
                              clear eI6940
                              refine WP_goto 273 dX11_scan_245 rfl ?_
                              exact WP_vret dX11_scan_273 rfl ⟨⟨hI6940, rfl, fr6951, ⟨(by rw [e6941, e6942, e6943, e6950, ew6251]; omega), (by rw [e6944, ew6246] <;> exact (eq32 _ _).mpr (by omega)), (by rw [e6945, ew6247] <;> exact (eq32 _ _).mpr (by omega)), (by rw [e6946, ew6248] <;> exact (eq32 _ _).mpr (by omega)), (by rw [e6947, ew6249] <;> exact (eq32 _ _).mpr (by omega)), (by rw [e6948, ew6250] <;> exact (eq32 _ _).mpr (by omega))⟩⟩, rfl⟩
                            refine WQ_icmp_le 241 dX11_scan_234 rfl (fun c6951 => ?_) (fun c6951 => ?_)
                            · refine WQ_iconst (2) (2) dX11_scan_241 rfl rfl (fun v6953 hv6953 => ?_)
                              exact WP_sub (fc rfl (fc rfl fn)) (jn242_6938 v6953 (by omega) (by omega))
                            · refine WQ_iconst (4) (4) dX11_scan_237 rfl rfl (fun v6954 hv6954 => ?_)
                              refine WP_goto 242 dX11_scan_238 rfl ?_
                              exact WP_sub (fc rfl (fc rfl fn)) (jn242_6938 v6954 (by omega) (by omega))
                          · refine WP_aload_n dX11_scan_174 rfl ?_
                            refine WQ_getim dX11_scan_175 fX11_20 rfl (ly_is hy 0 11 rfl) ew6922 ?_
                            refine WP_aload_n dX11_scan_178 rfl ?_
                            refine WQ_getim dX11_scan_179 fX11_7 rfl (ly_is hy 0 11 rfl) ew6921 ?_
                            refine WQ_isub dX11_scan_182 (by omega) (by omega) (fun v6955 hv6955 => ?_)
                            refine WQ_iconst (4) (4) dX11_scan_183 rfl rfl (fun v6956 hv6956 => ?_)
                            refine WQ_icmp_ge 210 dX11_scan_184 rfl (fun c6956 => ?_) (fun c6956 => ?_)
                            · refine WP_aload_n dX11_scan_210 rfl ?_
                              refine WP_dup dX11_scan_211 rfl ?_
                              refine WQ_getim dX11_scan_212 fX11_20 rfl (ly_is hy 0 11 rfl) ew6922 ?_
                              refine WQ_iconst (1) (1) dX11_scan_215 rfl rfl (fun v6958 hv6958 => ?_)
                              refine WQ_iadd dX11_scan_216 (by omega) (by omega) (fun v6959 hv6959 => ?_)
                              refine WQ_puti dX11_scan_217 fX11_20 rfl rfl (ly_is hy 0 11 rfl) (fun I6960 eI6960 => ?_)
                              have hI6960 : MP g n L I6960 := by rw [eI6960]; exact (mp_w hy hI6918 (c := 0) (mi_f hy hI6918.1 (c := 0) (0) (0) (900) (by decide) (Or.inr (by decide)) (by decide) (by omega) (by omega)) (by decide) (by decide) (Or.inr (by decide)))
                              have e6961 : I6960 (ad g 0) 2 = w6920 := by rw [eI6960, pp_ne _ _ (Or.inr (by decide))]; exact ew6920
                              have e6962 : I6960 (ad g 0) 3 = w6921 := by rw [eI6960, pp_ne _ _ (Or.inr (by decide))]; exact ew6921
                              have e6963 : I6960 (ad g 0) 7 = w6923 := by rw [eI6960, pp_ne _ _ (Or.inr (by decide))]; exact ew6923
                              have e6964 : I6960 (ad g 0) 15 = w6924 := by rw [eI6960, pp_ne _ _ (Or.inr (by decide))]; exact ew6924
                              have e6965 : I6960 (ad g 0) 16 = w6925 := by rw [eI6960, pp_ne _ _ (Or.inr (by decide))]; exact ew6925
                              have e6966 : I6960 (ad g 0) 17 = w6926 := by rw [eI6960, pp_ne _ _ (Or.inr (by decide))]; exact ew6926
                              have e6967 : I6960 (ad g 0) 18 = w6927 := by rw [eI6960, pp_ne _ _ (Or.inr (by decide))]; exact ew6927
                              have e6968 : I6960 (ad g 0) 1 = L := by rw [eI6960, pp_ne _ _ (Or.inr (by decide))]; exact e6929
                              have e6969 : I6960 (ad g 0) 4 = v6959 := by rw [eI6960, pp_self]
                              have fr6970 : fz 49 g [0] I I6960 := by rw [eI6960]; exact fzm_pp hy fiI6918 (by decide) (by decide)
                              clear eI6960
                              refine WP_goto 160 dX11_scan_220 rfl ?_
                              exact WP_sub (fc rfl (fc rfl fn)) (ihlp160_6927 I6960 J6919 hI6960 fr6970 w6920 e6961 w6921 e6962 v6959 e6969 w6923 e6963 w6924 e6964 w6925 e6965 w6926 e6966 w6927 e6967 (by omega) (by omega) (by omega) (by omega) (by omega) (by omega) (by omega) (by omega) (by omega))
                            · refine WP_aload_n dX11_scan_187 rfl ?_
                              refine WQ_bipush (10) (10) dX11_scan_188 rfl rfl (fun v6971 hv6971 => ?_)
                              refine WP_aload_n dX11_scan_190 rfl ?_
                              refine WQ_getiu dX11_scan_191 fX11_37 rfl (ly_is hy 0 11 rfl) (fun v6972 ev6972 => ?_)
                              refine WQ_imulu dX11_scan_194 (fun v6973 => ?_)
                              refine WP_aload_n dX11_scan_195 rfl ?_
                              refine WP_aload_n dX11_scan_196 rfl ?_
                              refine WQ_getim dX11_scan_197 fX11_20 rfl (ly_is hy 0 11 rfl) ew6922 ?_
                              refine WP_callV1 (k := 11) dX11_scan_200 ⟨⟨⟨by decide, by decide⟩, zX11_byteAt⟩, lX11_23, by decide, rfl, vX11_byteAt.1, vX11_byteAt.2⟩ (ly_is hy 0 11 rfl) (sm_byteAtx hy hr hI6918 w6922 (by omega) (by omega)) (Nat.le_of_ble_eq_true rfl) ?_
                              intro r Ia Ja Ra hq
                              obtain ⟨⟨ea, eb, ec⟩, v6974, rfl, cv6974⟩ := hq
                              show WP _ _ _ _ (.int _ :: _) _ _ _ _
                              rw [ea, eb, ec]
                              clear ea eb ec Ia Ja Ra
                              rw [ew6920] at cv6974
                              refine WQ_iaddu dX11_scan_203 (fun v6975 => ?_)
                              refine WQ_bipush (48) (48) dX11_scan_204 rfl rfl (fun v6976 hv6976 => ?_)
                              refine WQ_isubu dX11_scan_206 (fun v6977 => ?_)
                              refine WQ_puti dX11_scan_207 fX11_37 rfl rfl (ly_is hy 0 11 rfl) (fun I6978 eI6978 => ?_)
                              have hI6978 : MP g n L I6978 := by rw [eI6978]; exact (mp_w hy hI6918 (c := 0) (mi_f0 hy hI6918.1 (c := 0) (by decide) (Or.inr (by decide)) (by decide)) (by decide) (by decide) (Or.inr (by decide)))
                              have e6979 : I6978 (ad g 0) 2 = w6920 := by rw [eI6978, pp_ne _ _ (Or.inr (by decide))]; exact ew6920
                              have e6980 : I6978 (ad g 0) 3 = w6921 := by rw [eI6978, pp_ne _ _ (Or.inr (by decide))]; exact ew6921
                              have e6981 : I6978 (ad g 0) 4 = w6922 := by rw [eI6978, pp_ne _ _ (Or.inr (by decide))]; exact ew6922
                              have e6982 : I6978 (ad g 0) 7 = w6923 := by rw [eI6978, pp_ne _ _ (Or.inr (by decide))]; exact ew6923
                              have e6983 : I6978 (ad g 0) 15 = w6924 := by rw [eI6978, pp_ne _ _ (Or.inr (by decide))]; exact ew6924
                              have e6984 : I6978 (ad g 0) 16 = w6925 := by rw [eI6978, pp_ne _ _ (Or.inr (by decide))]; exact ew6925
                              have e6985 : I6978 (ad g 0) 17 = w6926 := by rw [eI6978, pp_ne _ _ (Or.inr (by decide))]; exact ew6926
                              have e6986 : I6978 (ad g 0) 18 = w6927 := by rw [eI6978, pp_ne _ _ (Or.inr (by decide))]; exact ew6927
                              have e6987 : I6978 (ad g 0) 1 = L := by rw [eI6978, pp_ne _ _ (Or.inr (by decide))]; exact e6929
                              have e6988 : I6978 (ad g 0) 6 = v6977 := by rw [eI6978, pp_self]
                              have fr6989 : fz 49 g [0] I I6978 := by rw [eI6978]; exact fzm_pp hy fiI6918 (by decide) (by decide)
                              clear eI6978
                              refine WP_aload_n dX11_scan_210 rfl ?_
                              refine WP_dup dX11_scan_211 rfl ?_
                              refine WQ_getim dX11_scan_212 fX11_20 rfl (ly_is hy 0 11 rfl) e6981 ?_
                              refine WQ_iconst (1) (1) dX11_scan_215 rfl rfl (fun v6990 hv6990 => ?_)
                              refine WQ_iadd dX11_scan_216 (by omega) (by omega) (fun v6991 hv6991 => ?_)
                              refine WQ_puti dX11_scan_217 fX11_20 rfl rfl (ly_is hy 0 11 rfl) (fun I6992 eI6992 => ?_)
                              have hI6992 : MP g n L I6992 := by rw [eI6992]; exact (mp_w hy hI6978 (c := 0) (mi_f hy hI6978.1 (c := 0) (0) (0) (900) (by decide) (Or.inr (by decide)) (by decide) (by omega) (by omega)) (by decide) (by decide) (Or.inr (by decide)))
                              have e6993 : I6992 (ad g 0) 2 = w6920 := by rw [eI6992, pp_ne _ _ (Or.inr (by decide))]; exact e6979
                              have e6994 : I6992 (ad g 0) 3 = w6921 := by rw [eI6992, pp_ne _ _ (Or.inr (by decide))]; exact e6980
                              have e6995 : I6992 (ad g 0) 7 = w6923 := by rw [eI6992, pp_ne _ _ (Or.inr (by decide))]; exact e6982
                              have e6996 : I6992 (ad g 0) 15 = w6924 := by rw [eI6992, pp_ne _ _ (Or.inr (by decide))]; exact e6983
                              have e6997 : I6992 (ad g 0) 16 = w6925 := by rw [eI6992, pp_ne _ _ (Or.inr (by decide))]; exact e6984
                              have e6998 : I6992 (ad g 0) 17 = w6926 := by rw [eI6992, pp_ne _ _ (Or.inr (by decide))]; exact e6985
                              have e6999 : I6992 (ad g 0) 18 = w6927 := by rw [eI6992, pp_ne _ _ (Or.inr (by decide))]; exact e6986
                              have e7000 : I6992 (ad g 0) 1 = L := by rw [eI6992, pp_ne _ _ (Or.inr (by decide))]; exact e6987
                              have e7001 : I6992 (ad g 0) 6 = v6977 := by rw [eI6992, pp_ne _ _ (Or.inr (by decide))]; exact e6988
                              have e7002 : I6992 (ad g 0) 4 = v6991 := by rw [eI6992, pp_self]
                              have fr7003 : fz 49 g [0] I I6992 := by rw [eI6992]; exact fzm_pp hy fr6989 (by decide) (by decide)
                              clear eI6992
                              refine WP_goto 160 dX11_scan_220 rfl ?_
                              exact WP_sub (fc rfl (fc rfl fn)) (ihlp160_6927 I6992 J6919 hI6992 fr7003 w6920 e6993 w6921 e6994 v6991 e7002 w6923 e6995 w6924 e6996 w6925 e6997 w6926 e6998 w6927 e6999 (by omega) (by omega) (by omega) (by omega) (by omega) (by omega) (by omega) (by omega) (by omega))
                      exact WP_sub (fc rfl (fc rfl fn)) (lp160_6927 _ I6906 J6254 hI6906 fr6917 w6255 e6907 w6256 e6914 v6905 e6916 w6257 e6908 w6258 e6909 w6259 e6910 w6260 e6911 w6261 e6912 (by omega) (by omega) (by omega) (by omega) (by omega) (by omega) (by omega) (by omega) (Nat.lt_succ_self _))
              · refine WP_aload_n dX11_scan_95 rfl ?_
                refine WP_aload_n dX11_scan_96 rfl ?_
                refine WQ_getim dX11_scan_97 fX11_20 rfl (ly_is hy 0 11 rfl) e6696 ?_
                refine WP_callV1 (k := 11) dX11_scan_100 ⟨⟨⟨by decide, by decide⟩, zX11_byteAt⟩, lX11_23, by decide, rfl, vX11_byteAt.1, vX11_byteAt.2⟩ (ly_is hy 0 11 rfl) (sm_byteAtx hy hr hI6694 w6256 (by omega) (by omega)) (Nat.le_of_ble_eq_true rfl) ?_
                intro r Ia Ja Ra hq
                obtain ⟨⟨ea, eb, ec⟩, v7004, rfl, cv7004⟩ := hq
                show WP _ _ _ _ (.int _ :: _) _ _ _ _
                rw [ea, eb, ec]
                clear ea eb ec Ia Ja Ra
                rw [e6695] at cv7004
                have ttv7004 : v7004.toInt = v6705.toInt := by rw [cv7004.2, ← cv6705.2]
                refine WP_callS1 dX11_scan_103 ⟨⟨⟨by decide, by decide⟩, zX11_isSmall⟩, lX11_30, tX11_isSmall⟩ (sm_isSmall hy hr hI6694 v7004 ) (Nat.le_of_ble_eq_true rfl) ?_
                intro r Ia Ja Ra hq
                obtain ⟨⟨ea, eb, ec⟩, v7005, rfl, av7005, bv7005, cv7005⟩ := hq
                show WP _ _ _ _ (.int _ :: _) _ _ _ _
                rw [ea, eb, ec]
                clear ea eb ec Ia Ja Ra
                refine WQ_if_eq 122 dX11_scan_106 rfl (fun c7005 => ?_) (fun c7005 => ?_)
                · refine WP_aload_n dX11_scan_122 rfl ?_
                  refine WP_aload_n dX11_scan_123 rfl ?_
                  refine WQ_getim dX11_scan_124 fX11_20 rfl (ly_is hy 0 11 rfl) e6696 ?_
                  refine WP_aload_n dX11_scan_127 rfl ?_
                  refine WQ_getim dX11_scan_128 fX11_7 rfl (ly_is hy 0 11 rfl) e6703 ?_
                  refine WQ_isub dX11_scan_131 (by omega) (by omega) (fun v7007 hv7007 => ?_)
                  refine WQ_bipush (8) (8) dX11_scan_132 rfl rfl (fun v7008 hv7008 => ?_)
                  have jn142_7011 : ∀ (v7011 : Int32), 1 ≤ v7011.toInt → v7011.toInt ≤ 4 → WP g mX11_scan 142 [(0, .ref (ad g 0)), (1, .int v6705)] [.int v7011, .ref (ad g 0)] I6694 J6254 R (fun r I' J' R' => (MP g n L I' ∧ R' = R ∧ fz 49 g [0] I I' ∧ (((I' (ad g 0) 4).toInt ≤ (I' (ad g 0) 2).toInt ∧ (I' (ad g 0) 3).toInt ≤ (I' (ad g 0) 4).toInt ∧ ((I' (ad g 0) 5).toInt = 0 ∨ (I' (ad g 0) 3).toInt < (I' (ad g 0) 4).toInt)) ∧ (I (ad g 0) 4).toInt ≤ (I' (ad g 0) 3).toInt) ∧ I' (ad g 0) 7 = I (ad g 0) 7 ∧ I' (ad g 0) 15 = I (ad g 0) 15 ∧ I' (ad g 0) 16 = I (ad g 0) 16 ∧ I' (ad g 0) 17 = I (ad g 0) 17 ∧ I' (ad g 0) 18 = I (ad g 0) 18) ∧ r = none) := by
                    intro v7011 av7011 bv7011
                    refine WQ_puti dX11_scan_142 fX11_27 rfl rfl (ly_is hy 0 11 rfl) (fun I7013 eI7013 => ?_)
                    have hI7013 : MP g n L I7013 := by rw [eI7013]; exact (mp_w hy hI6694 (c := 0) (mi_f hy hI6694.1 (c := 0) (0) (0) (4) (by decide) (Or.inr (by decide)) (by decide) (by omega) (by omega)) (by decide) (by decide) (Or.inr (by decide)))
                    have e7014 : I7013 (ad g 0) 2 = w6255 := by rw [eI7013, pp_ne _ _ (Or.inr (by decide))]; exact e6695
                    have e7015 : I7013 (ad g 0) 4 = w6256 := by rw [eI7013, pp_ne _ _ (Or.inr (by decide))]; exact e6696
                    have e7016 : I7013 (ad g 0) 7 = w6257 := by rw [eI7013, pp_ne _ _ (Or.inr (by decide))]; exact e6697
                    have e7017 : I7013 (ad g 0) 15 = w6258 := by rw [eI7013, pp_ne _ _ (Or.inr (by decide))]; exact e6698
                    have e7018 : I7013 (ad g 0) 16 = w6259 := by rw [eI7013, pp_ne _ _ (Or.inr (by decide))]; exact e6699
                    have e7019 : I7013 (ad g 0) 17 = w6260 := by rw [eI7013, pp_ne _ _ (Or.inr (by decide))]; exact e6700
                    have e7020 : I7013 (ad g 0) 18 = w6261 := by rw [eI7013, pp_ne _ _ (Or.inr (by decide))]; exact e6701
                    have e7021 : I7013 (ad g 0) 1 = L := by rw [eI7013, pp_ne _ _ (Or.inr (by decide))]; exact e6702
                    have e7022 : I7013 (ad g 0) 3 = w6256 := by rw [eI7013, pp_ne _ _ (Or.inr (by decide))]; exact e6703
                    have e7023 : I7013 (ad g 0) 5 = v7011 := by rw [eI7013, pp_self]
                    have fr7024 : fz 49 g [0] I I7013 := by rw [eI7013]; exact fzm_pp hy fr6704 (by decide) (by decide)
                    have BI7013 : v6705 = BF g I7013 w6256 := by rw [eI7013, BF_w hy (by decide)]; exact cv6705.2
                    clear eI7013
                    refine WP_goto 273 dX11_scan_145 rfl ?_
                    exact WP_vret dX11_scan_273 rfl ⟨⟨hI7013, rfl, fr7024, ⟨(by rw [e7014, e7022, e7015, e7023, ew6251]; omega), (by rw [e7016, ew6246] <;> exact (eq32 _ _).mpr (by omega)), (by rw [e7017, ew6247] <;> exact (eq32 _ _).mpr (by omega)), (by rw [e7018, ew6248] <;> exact (eq32 _ _).mpr (by omega)), (by rw [e7019, ew6249] <;> exact (eq32 _ _).mpr (by omega)), (by rw [e7020, ew6250] <;> exact (eq32 _ _).mpr (by omega))⟩⟩, rfl⟩
                  refine WQ_icmp_le 141 dX11_scan_134 rfl (fun c7024 => ?_) (fun c7024 => ?_)
                  · refine WQ_iconst (1) (1) dX11_scan_141 rfl rfl (fun v7026 hv7026 => ?_)
                    exact WP_sub (fc rfl (fc rfl fn)) (jn142_7011 v7026 (by omega) (by omega))
                  · refine WQ_iconst (4) (4) dX11_scan_137 rfl rfl (fun v7027 hv7027 => ?_)
                    refine WP_goto 142 dX11_scan_138 rfl ?_
                    exact WP_sub (fc rfl (fc rfl fn)) (jn142_7011 v7027 (by omega) (by omega))
                · refine WP_aload_n dX11_scan_109 rfl ?_
                  refine WP_dup dX11_scan_110 rfl ?_
                  refine WQ_getim dX11_scan_111 fX11_20 rfl (ly_is hy 0 11 rfl) e6696 ?_
                  refine WQ_iconst (1) (1) dX11_scan_114 rfl rfl (fun v7028 hv7028 => ?_)
                  refine WQ_iadd dX11_scan_115 (by omega) (by omega) (fun v7029 hv7029 => ?_)
                  refine WQ_puti dX11_scan_116 fX11_20 rfl rfl (ly_is hy 0 11 rfl) (fun I7030 eI7030 => ?_)
                  have hI7030 : MP g n L I7030 := by rw [eI7030]; exact (mp_w hy hI6694 (c := 0) (mi_f hy hI6694.1 (c := 0) (0) (0) (900) (by decide) (Or.inr (by decide)) (by decide) (by omega) (by omega)) (by decide) (by decide) (Or.inr (by decide)))
                  have e7031 : I7030 (ad g 0) 2 = w6255 := by rw [eI7030, pp_ne _ _ (Or.inr (by decide))]; exact e6695
                  have e7032 : I7030 (ad g 0) 7 = w6257 := by rw [eI7030, pp_ne _ _ (Or.inr (by decide))]; exact e6697
                  have e7033 : I7030 (ad g 0) 15 = w6258 := by rw [eI7030, pp_ne _ _ (Or.inr (by decide))]; exact e6698
                  have e7034 : I7030 (ad g 0) 16 = w6259 := by rw [eI7030, pp_ne _ _ (Or.inr (by decide))]; exact e6699
                  have e7035 : I7030 (ad g 0) 17 = w6260 := by rw [eI7030, pp_ne _ _ (Or.inr (by decide))]; exact e6700
                  have e7036 : I7030 (ad g 0) 18 = w6261 := by rw [eI7030, pp_ne _ _ (Or.inr (by decide))]; exact e6701
                  have e7037 : I7030 (ad g 0) 1 = L := by rw [eI7030, pp_ne _ _ (Or.inr (by decide))]; exact e6702
                  have e7038 : I7030 (ad g 0) 3 = w6256 := by rw [eI7030, pp_ne _ _ (Or.inr (by decide))]; exact e6703
                  have e7039 : I7030 (ad g 0) 4 = v7029 := by rw [eI7030, pp_self]
                  have fr7040 : fz 49 g [0] I I7030 := by rw [eI7030]; exact fzm_pp hy fr6704 (by decide) (by decide)
                  have BI7030 : v6705 = BF g I7030 w6256 := by rw [eI7030, BF_w hy (by decide)]; exact cv6705.2
                  clear eI7030
                  refine WP_goto 95 dX11_scan_119 rfl ?_
                  have lp95_7050 : ∀ (mz : Nat)  (I7041 : pI) (J7042 : pJ), MP g n L I7041 → fz 49 g [0] I I7041 → ∀ (w7043 : Int32), I7041 (ad g 0) 2 = w7043 → ∀ (w7044 : Int32), I7041 (ad g 0) 3 = w7044 → ∀ (w7045 : Int32), I7041 (ad g 0) 4 = w7045 → ∀ (w7046 : Int32), I7041 (ad g 0) 7 = w7046 → ∀ (w7047 : Int32), I7041 (ad g 0) 15 = w7047 → ∀ (w7048 : Int32), I7041 (ad g 0) 16 = w7048 → ∀ (w7049 : Int32), I7041 (ad g 0) 17 = w7049 → ∀ (w7050 : Int32), I7041 (ad g 0) 18 = w7050 → w7045.toInt ≤ w7043.toInt → w7044.toInt < w7045.toInt → w6251.toInt ≤ w7044.toInt → w7046.toInt = w6246.toInt → w7047.toInt = w6247.toInt → w7048.toInt = w6248.toInt → w7049.toInt = w6249.toInt → w7050.toInt = w6250.toInt → (901 - w7045.toInt).toNat < mz → WP g mX11_scan 95 [(0, .ref (ad g 0)), (1, .int v6705)] [] I7041 J7042 R (fun r I' J' R' => (MP g n L I' ∧ R' = R ∧ fz 49 g [0] I I' ∧ (((I' (ad g 0) 4).toInt ≤ (I' (ad g 0) 2).toInt ∧ (I' (ad g 0) 3).toInt ≤ (I' (ad g 0) 4).toInt ∧ ((I' (ad g 0) 5).toInt = 0 ∨ (I' (ad g 0) 3).toInt < (I' (ad g 0) 4).toInt)) ∧ (I (ad g 0) 4).toInt ≤ (I' (ad g 0) 3).toInt) ∧ I' (ad g 0) 7 = I (ad g 0) 7 ∧ I' (ad g 0) 15 = I (ad g 0) 15 ∧ I' (ad g 0) 16 = I (ad g 0) 16 ∧ I' (ad g 0) 17 = I (ad g 0) 17 ∧ I' (ad g 0) 18 = I (ad g 0) 18) ∧ r = none) := by
                    intro mz
                    induction mz with
                    | zero =>
                      intro  I7041 J7042 hI7041 fiI7041 w7043 ew7043 w7044 ew7044 w7045 ew7045 w7046 ew7046 w7047 ew7047 w7048 ew7048 w7049 ew7049 w7050 ew7050 j0_I7041 j1_I7041 j2_I7041 j3_I7041 j4_I7041 j5_I7041 j6_I7041 j7_I7041 hmlp95_7050
                      exact absurd hmlp95_7050 (Nat.not_lt_zero _)
                    | succ mz ihlp95_7050 =>
                      intro  I7041 J7042 hI7041 fiI7041 w7043 ew7043 w7044 ew7044 w7045 ew7045 w7046 ew7046 w7047 ew7047 w7048 ew7048 w7049 ew7049 w7050 ew7050 j0_I7041 j1_I7041 j2_I7041 j3_I7041 j4_I7041 j5_I7041 j6_I7041 j7_I7041 hmlp95_7050
                      have bw7043 := BT_get hI7041.1.1 0 2 3 (0) (0) (900) (by decide) 2 (by decide) (by decide)
                      rw [ew7043] at bw7043
                      have bw7044 := BT_get hI7041.1.1 0 3 4 (0) (0) (900) (by decide) 3 (by decide) (by decide)
                      rw [ew7044] at bw7044
                      have bw7045 := BT_get hI7041.1.1 0 4 5 (0) (0) (900) (by decide) 4 (by decide) (by decide)
                      rw [ew7045] at bw7045
                      have bw7046 := BT_get hI7041.1.1 0 7 8 (-1) (0) (1000) (by decide) 7 (by decide) (by decide)
                      rw [ew7046] at bw7046
                      have bw7047 := BT_get hI7041.1.1 0 15 16 (0) (0) (4) (by decide) 15 (by decide) (by decide)
                      rw [ew7047] at bw7047
                      have bw7048 := BT_get hI7041.1.1 0 16 17 (0) (0) (3) (by decide) 16 (by decide) (by decide)
                      rw [ew7048] at bw7048
                      have bw7049 := BT_get hI7041.1.1 0 17 18 (-1) (0) (3) (by decide) 17 (by decide) (by decide)
                      rw [ew7049] at bw7049
                      have bw7050 := BT_get hI7041.1.1 0 18 19 (-1) (0) (2) (by decide) 18 (by decide) (by decide)
                      rw [ew7050] at bw7050
                      have e7052 : I7041 (ad g 0) 1 = L := hI7041.1.2
                      have b7053 := BT_get hI7041.1.1 0 1 2 (0) (0) (900) (by decide) 1 (by decide) (by decide)
                      rw [e7052] at b7053
                      refine WP_aload_n dX11_scan_95 rfl ?_
                      refine WP_aload_n dX11_scan_96 rfl ?_
                      refine WQ_getim dX11_scan_97 fX11_20 rfl (ly_is hy 0 11 rfl) ew7045 ?_
                      refine WP_callV1 (k := 11) dX11_scan_100 ⟨⟨⟨by decide, by decide⟩, zX11_byteAt⟩, lX11_23, by decide, rfl, vX11_byteAt.1, vX11_byteAt.2⟩ (ly_is hy 0 11 rfl) (sm_byteAtx hy hr hI7041 w7045 (by omega) (by omega)) (Nat.le_of_ble_eq_true rfl) ?_
                      intro r Ia Ja Ra hq
                      obtain ⟨⟨ea, eb, ec⟩, v7054, rfl, cv7054⟩ := hq
                      show WP _ _ _ _ (.int _ :: _) _ _ _ _
                      rw [ea, eb, ec]
                      clear ea eb ec Ia Ja Ra
                      rw [ew7043] at cv7054
                      refine WP_callS1 dX11_scan_103 ⟨⟨⟨by decide, by decide⟩, zX11_isSmall⟩, lX11_30, tX11_isSmall⟩ (sm_isSmall hy hr hI7041 v7054 ) (Nat.le_of_ble_eq_true rfl) ?_
                      intro r Ia Ja Ra hq
                      obtain ⟨⟨ea, eb, ec⟩, v7055, rfl, av7055, bv7055, cv7055⟩ := hq
                      show WP _ _ _ _ (.int _ :: _) _ _ _ _
                      rw [ea, eb, ec]
                      clear ea eb ec Ia Ja Ra
                      refine WQ_if_eq 122 dX11_scan_106 rfl (fun c7055 => ?_) (fun c7055 => ?_)
                      · refine WP_aload_n dX11_scan_122 rfl ?_
                        refine WP_aload_n dX11_scan_123 rfl ?_
                        refine WQ_getim dX11_scan_124 fX11_20 rfl (ly_is hy 0 11 rfl) ew7045 ?_
                        refine WP_aload_n dX11_scan_127 rfl ?_
                        refine WQ_getim dX11_scan_128 fX11_7 rfl (ly_is hy 0 11 rfl) ew7044 ?_
                        refine WQ_isub dX11_scan_131 (by omega) (by omega) (fun v7057 hv7057 => ?_)
                        refine WQ_bipush (8) (8) dX11_scan_132 rfl rfl (fun v7058 hv7058 => ?_)
                        have jn142_7061 : ∀ (v7061 : Int32), 1 ≤ v7061.toInt → v7061.toInt ≤ 4 → WP g mX11_scan 142 [(0, .ref (ad g 0)), (1, .int v6705)] [.int v7061, .ref (ad g 0)] I7041 J7042 R (fun r I' J' R' => (MP g n L I' ∧ R' = R ∧ fz 49 g [0] I I' ∧ (((I' (ad g 0) 4).toInt ≤ (I' (ad g 0) 2).toInt ∧ (I' (ad g 0) 3).toInt ≤ (I' (ad g 0) 4).toInt ∧ ((I' (ad g 0) 5).toInt = 0 ∨ (I' (ad g 0) 3).toInt < (I' (ad g 0) 4).toInt)) ∧ (I (ad g 0) 4).toInt ≤ (I' (ad g 0) 3).toInt) ∧ I' (ad g 0) 7 = I (ad g 0) 7 ∧ I' (ad g 0) 15 = I (ad g 0) 15 ∧ I' (ad g 0) 16 = I (ad g 0) 16 ∧ I' (ad g 0) 17 = I (ad g 0) 17 ∧ I' (ad g 0) 18 = I (ad g 0) 18) ∧ r = none) := by
                          intro v7061 av7061 bv7061
                          refine WQ_puti dX11_scan_142 fX11_27 rfl rfl (ly_is hy 0 11 rfl) (fun I7063 eI7063 => ?_)
                          have hI7063 : MP g n L I7063 := by rw [eI7063]; exact (mp_w hy hI7041 (c := 0) (mi_f hy hI7041.1 (c := 0) (0) (0) (4) (by decide) (Or.inr (by decide)) (by decide) (by omega) (by omega)) (by decide) (by decide) (Or.inr (by decide)))
                          have e7064 : I7063 (ad g 0) 2 = w7043 := by rw [eI7063, pp_ne _ _ (Or.inr (by decide))]; exact ew7043
                          have e7065 : I7063 (ad g 0) 3 = w7044 := by rw [eI7063, pp_ne _ _ (Or.inr (by decide))]; exact ew7044
                          have e7066 : I7063 (ad g 0) 4 = w7045 := by rw [eI7063, pp_ne _ _ (Or.inr (by decide))]; exact ew7045
                          have e7067 : I7063 (ad g 0) 7 = w7046 := by rw [eI7063, pp_ne _ _ (Or.inr (by decide))]; exact ew7046
                          have e7068 : I7063 (ad g 0) 15 = w7047 := by rw [eI7063, pp_ne _ _ (Or.inr (by decide))]; exact ew7047
                          have e7069 : I7063 (ad g 0) 16 = w7048 := by rw [eI7063, pp_ne _ _ (Or.inr (by decide))]; exact ew7048
                          have e7070 : I7063 (ad g 0) 17 = w7049 := by rw [eI7063, pp_ne _ _ (Or.inr (by decide))]; exact ew7049
                          have e7071 : I7063 (ad g 0) 18 = w7050 := by rw [eI7063, pp_ne _ _ (Or.inr (by decide))]; exact ew7050
                          have e7072 : I7063 (ad g 0) 1 = L := by rw [eI7063, pp_ne _ _ (Or.inr (by decide))]; exact e7052
                          have e7073 : I7063 (ad g 0) 5 = v7061 := by rw [eI7063, pp_self]
                          have fr7074 : fz 49 g [0] I I7063 := by rw [eI7063]; exact fzm_pp hy fiI7041 (by decide) (by decide)
                          clear eI7063
                          refine WP_goto 273 dX11_scan_145 rfl ?_
                          exact WP_vret dX11_scan_273 rfl ⟨⟨hI7063, rfl, fr7074, ⟨(by rw [e7064, e7065, e7066, e7073, ew6251]; omega), (by rw [e7067, ew6246] <;> exact (eq32 _ _).mpr (by omega)), (by rw [e7068, ew6247] <;> exact (eq32 _ _).mpr (by omega)), (by rw [e7069, ew6248] <;> exact (eq32 _ _).mpr (by omega)), (by rw [e7070, ew6249] <;> exact (eq32 _ _).mpr (by omega)), (by rw [e7071, ew6250] <;> exact (eq32 _ _).mpr (by omega))⟩⟩, rfl⟩
                        refine WQ_icmp_le 141 dX11_scan_134 rfl (fun c7074 => ?_) (fun c7074 => ?_)
                        · refine WQ_iconst (1) (1) dX11_scan_141 rfl rfl (fun v7076 hv7076 => ?_)
                          exact WP_sub (fc rfl (fc rfl fn)) (jn142_7061 v7076 (by omega) (by omega))
                        · refine WQ_iconst (4) (4) dX11_scan_137 rfl rfl (fun v7077 hv7077 => ?_)
                          refine WP_goto 142 dX11_scan_138 rfl ?_
                          exact WP_sub (fc rfl (fc rfl fn)) (jn142_7061 v7077 (by omega) (by omega))
                      · refine WP_aload_n dX11_scan_109 rfl ?_
                        refine WP_dup dX11_scan_110 rfl ?_
                        refine WQ_getim dX11_scan_111 fX11_20 rfl (ly_is hy 0 11 rfl) ew7045 ?_
                        refine WQ_iconst (1) (1) dX11_scan_114 rfl rfl (fun v7078 hv7078 => ?_)
                        refine WQ_iadd dX11_scan_115 (by omega) (by omega) (fun v7079 hv7079 => ?_)
                        refine WQ_puti dX11_scan_116 fX11_20 rfl rfl (ly_is hy 0 11 rfl) (fun I7080 eI7080 => ?_)
                        have hI7080 : MP g n L I7080 := by rw [eI7080]; exact (mp_w hy hI7041 (c := 0) (mi_f hy hI7041.1 (c := 0) (0) (0) (900) (by decide) (Or.inr (by decide)) (by decide) (by omega) (by omega)) (by decide) (by decide) (Or.inr (by decide)))
                        have e7081 : I7080 (ad g 0) 2 = w7043 := by rw [eI7080, pp_ne _ _ (Or.inr (by decide))]; exact ew7043
                        have e7082 : I7080 (ad g 0) 3 = w7044 := by rw [eI7080, pp_ne _ _ (Or.inr (by decide))]; exact ew7044
                        have e7083 : I7080 (ad g 0) 7 = w7046 := by rw [eI7080, pp_ne _ _ (Or.inr (by decide))]; exact ew7046
                        have e7084 : I7080 (ad g 0) 15 = w7047 := by rw [eI7080, pp_ne _ _ (Or.inr (by decide))]; exact ew7047
                        have e7085 : I7080 (ad g 0) 16 = w7048 := by rw [eI7080, pp_ne _ _ (Or.inr (by decide))]; exact ew7048
                        have e7086 : I7080 (ad g 0) 17 = w7049 := by rw [eI7080, pp_ne _ _ (Or.inr (by decide))]; exact ew7049
                        have e7087 : I7080 (ad g 0) 18 = w7050 := by rw [eI7080, pp_ne _ _ (Or.inr (by decide))]; exact ew7050
                        have e7088 : I7080 (ad g 0) 1 = L := by rw [eI7080, pp_ne _ _ (Or.inr (by decide))]; exact e7052
                        have e7089 : I7080 (ad g 0) 4 = v7079 := by rw [eI7080, pp_self]
                        have fr7090 : fz 49 g [0] I I7080 := by rw [eI7080]; exact fzm_pp hy fiI7041 (by decide) (by decide)
                        clear eI7080
                        refine WP_goto 95 dX11_scan_119 rfl ?_
                        exact WP_sub (fc rfl (fc rfl fn)) (ihlp95_7050 I7080 J7042 hI7080 fr7090 w7043 e7081 w7044 e7082 v7079 e7089 w7046 e7083 w7047 e7084 w7048 e7085 w7049 e7086 w7050 e7087 (by omega) (by omega) (by omega) (by omega) (by omega) (by omega) (by omega) (by omega) (by omega))
                  exact WP_sub (fc rfl (fc rfl fn)) (lp95_7050 _ I7030 J6254 hI7030 fr7040 w6255 e7031 w6256 e7038 v7029 e7039 w6257 e7032 w6258 e7033 w6259 e7034 w6260 e7035 w6261 e7036 (by omega) (by omega) (by omega) (by omega) (by omega) (by omega) (by omega) (by omega) (Nat.lt_succ_self _))
            · refine WP_aload_n dX11_scan_80 rfl ?_
              refine WQ_iconst (0) (0) dX11_scan_81 rfl rfl (fun v7091 hv7091 => ?_)
              refine WQ_puti dX11_scan_82 fX11_27 rfl rfl (ly_is hy 0 11 rfl) (fun I7092 eI7092 => ?_)
              have hI7092 : MP g n L I7092 := by rw [eI7092]; exact (mp_w hy hI6694 (c := 0) (mi_f hy hI6694.1 (c := 0) (0) (0) (4) (by decide) (Or.inr (by decide)) (by decide) (by omega) (by omega)) (by decide) (by decide) (Or.inr (by decide)))
              have e7093 : I7092 (ad g 0) 2 = w6255 := by rw [eI7092, pp_ne _ _ (Or.inr (by decide))]; exact e6695
              have e7094 : I7092 (ad g 0) 4 = w6256 := by rw [eI7092, pp_ne _ _ (Or.inr (by decide))]; exact e6696
              have e7095 : I7092 (ad g 0) 7 = w6257 := by rw [eI7092, pp_ne _ _ (Or.inr (by decide))]; exact e6697
              have e7096 : I7092 (ad g 0) 15 = w6258 := by rw [eI7092, pp_ne _ _ (Or.inr (by decide))]; exact e6698
              have e7097 : I7092 (ad g 0) 16 = w6259 := by rw [eI7092, pp_ne _ _ (Or.inr (by decide))]; exact e6699
              have e7098 : I7092 (ad g 0) 17 = w6260 := by rw [eI7092, pp_ne _ _ (Or.inr (by decide))]; exact e6700
              have e7099 : I7092 (ad g 0) 18 = w6261 := by rw [eI7092, pp_ne _ _ (Or.inr (by decide))]; exact e6701
              have e7100 : I7092 (ad g 0) 1 = L := by rw [eI7092, pp_ne _ _ (Or.inr (by decide))]; exact e6702
              have e7101 : I7092 (ad g 0) 3 = w6256 := by rw [eI7092, pp_ne _ _ (Or.inr (by decide))]; exact e6703
              have e7102 : I7092 (ad g 0) 5 = v7091 := by rw [eI7092, pp_self]
              have fr7103 : fz 49 g [0] I I7092 := by rw [eI7092]; exact fzm_pp hy fr6704 (by decide) (by decide)
              have BI7092 : v6705 = BF g I7092 w6256 := by rw [eI7092, BF_w hy (by decide)]; exact cv6705.2
              clear eI7092
              refine WP_goto 273 dX11_scan_85 rfl ?_
              exact WP_vret dX11_scan_273 rfl ⟨⟨hI7092, rfl, fr7103, ⟨(by rw [e7093, e7101, e7094, e7102, ew6251]; omega), (by rw [e7095, ew6246] <;> exact (eq32 _ _).mpr (by omega)), (by rw [e7096, ew6247] <;> exact (eq32 _ _).mpr (by omega)), (by rw [e7097, ew6248] <;> exact (eq32 _ _).mpr (by omega)), (by rw [e7098, ew6249] <;> exact (eq32 _ _).mpr (by omega)), (by rw [e7099, ew6250] <;> exact (eq32 _ _).mpr (by omega))⟩⟩, rfl⟩
          · refine WP_aload_n dX11_scan_39 rfl ?_
            refine WP_dup dX11_scan_40 rfl ?_
            refine WQ_getim dX11_scan_41 fX11_20 rfl (ly_is hy 0 11 rfl) ew6256 ?_
            refine WQ_iconst (1) (1) dX11_scan_44 rfl rfl (fun v7104 hv7104 => ?_)
            refine WQ_iadd dX11_scan_45 (by omega) (by omega) (fun v7105 hv7105 => ?_)
            refine WQ_puti dX11_scan_46 fX11_20 rfl rfl (ly_is hy 0 11 rfl) (fun I7106 eI7106 => ?_)
            have hI7106 : MP g n L I7106 := by rw [eI7106]; exact (mp_w hy hI6253 (c := 0) (mi_f hy hI6253.1 (c := 0) (0) (0) (900) (by decide) (Or.inr (by decide)) (by decide) (by omega) (by omega)) (by decide) (by decide) (Or.inr (by decide)))
            have e7107 : I7106 (ad g 0) 2 = w6255 := by rw [eI7106, pp_ne _ _ (Or.inr (by decide))]; exact ew6255
            have e7108 : I7106 (ad g 0) 7 = w6257 := by rw [eI7106, pp_ne _ _ (Or.inr (by decide))]; exact ew6257
            have e7109 : I7106 (ad g 0) 15 = w6258 := by rw [eI7106, pp_ne _ _ (Or.inr (by decide))]; exact ew6258
            have e7110 : I7106 (ad g 0) 16 = w6259 := by rw [eI7106, pp_ne _ _ (Or.inr (by decide))]; exact ew6259
            have e7111 : I7106 (ad g 0) 17 = w6260 := by rw [eI7106, pp_ne _ _ (Or.inr (by decide))]; exact ew6260
            have e7112 : I7106 (ad g 0) 18 = w6261 := by rw [eI7106, pp_ne _ _ (Or.inr (by decide))]; exact ew6261
            have e7113 : I7106 (ad g 0) 1 = L := by rw [eI7106, pp_ne _ _ (Or.inr (by decide))]; exact e6263
            have e7114 : I7106 (ad g 0) 4 = v7105 := by rw [eI7106, pp_self]
            have fr7115 : fz 49 g [0] I I7106 := by rw [eI7106]; exact fzm_pp hy fiI6253 (by decide) (by decide)
            clear eI7106
            refine WP_goto 0 dX11_scan_49 rfl ?_
            exact WP_sub (fc rfl fn) (ihlp0_6261 I7106 J6254 hI7106 fr7115 w6255 e7107 v7105 e7114 w6257 e7108 w6258 e7109 w6259 e7110 w6260 e7111 w6261 e7112 (by omega) (by omega) (by omega) (by omega) (by omega) (by omega) (by omega) (by omega))
  exact WP_sub (fc rfl fn) (lp0_6261 _ I J hI fr0 w6252 ew6252 w6251 ew6251 w6246 ew6246 w6247 ew6247 w6248 ew6248 w6249 ew6249 w6250 ew6250 (by omega) (by omega) (by omega) (by omega) (by omega) (by omega) (by omega) (Nat.lt_succ_self _))
set_option maxHeartbeats 4000000 in
set_option maxRecDepth 100000 in
theorem sm_badx {g : GG} {n : Int} {L : Int32} (hy : Ly g)  {I : pI} {J : pJ} {R : pR} (hr : Rf g R) (hI : MP g n L I) (k : Int32)  (hb : ((I (ad g 0) 4).toInt ≤ (I (ad g 0) 2).toInt ∧ (I (ad g 0) 3).toInt ≤ (I (ad g 0) 4).toInt ∧ ((I (ad g 0) 5).toInt = 0 ∨ (I (ad g 0) 3).toInt < (I (ad g 0) 4).toInt))) : SP g mX11_bad [.ref (ad g 0), .int k] I J R (fun r I' J' R' => (MP g n L I' ∧ R' = R ∧ fz 49 g [0] I I' ∧ (((I' (ad g 0) 4).toInt ≤ (I' (ad g 0) 2).toInt ∧ (I' (ad g 0) 3).toInt ≤ (I' (ad g 0) 4).toInt ∧ ((I' (ad g 0) 5).toInt = 0 ∨ (I' (ad g 0) 3).toInt < (I' (ad g 0) 4).toInt)) ∧ (I (ad g 0) 3).toInt ≤ (I' (ad g 0) 3).toInt) ∧ I' (ad g 0) 15 = I (ad g 0) 15 ∧ I' (ad g 0) 16 = I (ad g 0) 16 ∧ I' (ad g 0) 17 = I (ad g 0) 17 ∧ I' (ad g 0) 18 = I (ad g 0) 18) ∧ ∃ v : Int32, r = some (.int v) ∧ 0 ≤ v.toInt ∧ v.toInt ≤ 0) := by
  refine SP_of ⟨by decide, rfl⟩ (Nat.le_of_ble_eq_true rfl) ?_
  have e7116 : I (ad g 0) 1 = L := hI.1.2
  have b7117 := BT_get hI.1.1 0 1 2 (0) (0) (900) (by decide) 1 (by decide) (by decide)
  rw [e7116] at b7117
  have fr0 : fz 49 g [0] I I := fz_rf
  obtain ⟨w7118, ew7118⟩ : ∃ w : Int32, I (ad g 0) 15 = w := ⟨_, rfl⟩
  have bw7118 := BT_get hI.1.1 0 15 16 (0) (0) (4) (by decide) 15 (by decide) (by decide)
  rw [ew7118] at bw7118
  obtain ⟨w7119, ew7119⟩ : ∃ w : Int32, I (ad g 0) 16 = w := ⟨_, rfl⟩
  have bw7119 := BT_get hI.1.1 0 16 17 (0) (0) (3) (by decide) 16 (by decide) (by decide)
  rw [ew7119] at bw7119
  obtain ⟨w7120, ew7120⟩ : ∃ w : Int32, I (ad g 0) 17 = w := ⟨_, rfl⟩
  have bw7120 := BT_get hI.1.1 0 17 18 (-1) (0) (3) (by decide) 17 (by decide) (by decide)
  rw [ew7120] at bw7120
  obtain ⟨w7121, ew7121⟩ : ∃ w : Int32, I (ad g 0) 18 = w := ⟨_, rfl⟩
  have bw7121 := BT_get hI.1.1 0 18 19 (-1) (0) (2) (by decide) 18 (by decide) (by decide)
  rw [ew7121] at bw7121
  obtain ⟨w7122, ew7122⟩ : ∃ w : Int32, I (ad g 0) 2 = w := ⟨_, rfl⟩
  have bw7122 := BT_get hI.1.1 0 2 3 (0) (0) (900) (by decide) 2 (by decide) (by decide)
  rw [ew7122] at bw7122
  obtain ⟨w7123, ew7123⟩ : ∃ w : Int32, I (ad g 0) 3 = w := ⟨_, rfl⟩
  have bw7123 := BT_get hI.1.1 0 3 4 (0) (0) (900) (by decide) 3 (by decide) (by decide)
  rw [ew7123] at bw7123
  obtain ⟨w7124, ew7124⟩ : ∃ w : Int32, I (ad g 0) 4 = w := ⟨_, rfl⟩
  have bw7124 := BT_get hI.1.1 0 4 5 (0) (0) (900) (by decide) 4 (by decide) (by decide)
  rw [ew7124] at bw7124
  obtain ⟨w7125, ew7125⟩ : ∃ w : Int32, I (ad g 0) 5 = w := ⟨_, rfl⟩
  have bw7125 := BT_get hI.1.1 0 5 6 (0) (0) (4) (by decide) 5 (by decide) (by decide)
  rw [ew7125] at bw7125
  rw [ew7122, ew7123, ew7124, ew7125] at hb
  refine WP_aload_n dX11_bad_0 rfl ?_
  refine WP_iload_n dX11_bad_1 rfl ?_
  refine WQ_puti dX11_bad_2 fX11_3 rfl rfl (ly_is hy 0 11 rfl) (fun I7126 eI7126 => ?_)
  have hI7126 : MP g n L I7126 := by rw [eI7126]; exact (mp_w hy hI (c := 0) (mi_f0 hy hI.1 (c := 0) (by decide) (Or.inr (by decide)) (by decide)) (by decide) (by decide) (Or.inr (by decide)))
  have e7127 : I7126 (ad g 0) 1 = L := by rw [eI7126, pp_ne _ _ (Or.inr (by decide))]; exact e7116
  have e7128 : I7126 (ad g 0) 15 = w7118 := by rw [eI7126, pp_ne _ _ (Or.inr (by decide))]; exact ew7118
  have e7129 : I7126 (ad g 0) 16 = w7119 := by rw [eI7126, pp_ne _ _ (Or.inr (by decide))]; exact ew7119
  have e7130 : I7126 (ad g 0) 17 = w7120 := by rw [eI7126, pp_ne _ _ (Or.inr (by decide))]; exact ew7120
  have e7131 : I7126 (ad g 0) 18 = w7121 := by rw [eI7126, pp_ne _ _ (Or.inr (by decide))]; exact ew7121
  have e7132 : I7126 (ad g 0) 2 = w7122 := by rw [eI7126, pp_ne _ _ (Or.inr (by decide))]; exact ew7122
  have e7133 : I7126 (ad g 0) 3 = w7123 := by rw [eI7126, pp_ne _ _ (Or.inr (by decide))]; exact ew7123
  have e7134 : I7126 (ad g 0) 4 = w7124 := by rw [eI7126, pp_ne _ _ (Or.inr (by decide))]; exact ew7124
  have e7135 : I7126 (ad g 0) 5 = w7125 := by rw [eI7126, pp_ne _ _ (Or.inr (by decide))]; exact ew7125
  have e7136 : I7126 (ad g 0) 8 = k := by rw [eI7126, pp_self]
  have fr7137 : fz 49 g [0] I I7126 := by rw [eI7126]; exact fzm_pp hy fr0 (by decide) (by decide)
  clear eI7126
  refine WP_aload_n dX11_bad_5 rfl ?_
  refine WP_aload_n dX11_bad_6 rfl ?_
  refine WQ_getim dX11_bad_7 fX11_7 rfl (ly_is hy 0 11 rfl) e7133 ?_
  refine WQ_puti dX11_bad_10 fX11_10 rfl rfl (ly_is hy 0 11 rfl) (fun I7138 eI7138 => ?_)
  have hI7138 : MP g n L I7138 := by rw [eI7138]; exact (mp_w hy hI7126 (c := 0) (mi_f0 hy hI7126.1 (c := 0) (by decide) (Or.inr (by decide)) (by decide)) (by decide) (by decide) (Or.inr (by decide)))
  have e7139 : I7138 (ad g 0) 1 = L := by rw [eI7138, pp_ne _ _ (Or.inr (by decide))]; exact e7127
  have e7140 : I7138 (ad g 0) 15 = w7118 := by rw [eI7138, pp_ne _ _ (Or.inr (by decide))]; exact e7128
  have e7141 : I7138 (ad g 0) 16 = w7119 := by rw [eI7138, pp_ne _ _ (Or.inr (by decide))]; exact e7129
  have e7142 : I7138 (ad g 0) 17 = w7120 := by rw [eI7138, pp_ne _ _ (Or.inr (by decide))]; exact e7130
  have e7143 : I7138 (ad g 0) 18 = w7121 := by rw [eI7138, pp_ne _ _ (Or.inr (by decide))]; exact e7131
  have e7144 : I7138 (ad g 0) 2 = w7122 := by rw [eI7138, pp_ne _ _ (Or.inr (by decide))]; exact e7132
  have e7145 : I7138 (ad g 0) 3 = w7123 := by rw [eI7138, pp_ne _ _ (Or.inr (by decide))]; exact e7133
  have e7146 : I7138 (ad g 0) 4 = w7124 := by rw [eI7138, pp_ne _ _ (Or.inr (by decide))]; exact e7134
  have e7147 : I7138 (ad g 0) 5 = w7125 := by rw [eI7138, pp_ne _ _ (Or.inr (by decide))]; exact e7135
  have e7148 : I7138 (ad g 0) 8 = k := by rw [eI7138, pp_ne _ _ (Or.inr (by decide))]; exact e7136
  have e7149 : I7138 (ad g 0) 9 = w7123 := by rw [eI7138, pp_self]
  have fr7150 : fz 49 g [0] I I7138 := by rw [eI7138]; exact fzm_pp hy fr7137 (by decide) (by decide)
  clear eI7138
  refine WQ_iconst (0) (0) dX11_bad_13 rfl rfl (fun v7151 hv7151 => ?_)
  exact WP_zret dX11_bad_14 rfl (nar_z (by omega)) ⟨⟨hI7138, rfl, fr7150, ⟨(by rw [e7144, e7145, e7146, e7147, ew7123]; omega), (by rw [e7140, ew7118] <;> exact (eq32 _ _).mpr (by omega)), (by rw [e7141, ew7119] <;> exact (eq32 _ _).mpr (by omega)), (by rw [e7142, ew7120] <;> exact (eq32 _ _).mpr (by omega)), (by rw [e7143, ew7121] <;> exact (eq32 _ _).mpr (by omega))⟩⟩, _, rfl, by omega, by omega⟩
set_option maxHeartbeats 4000000 in
set_option maxRecDepth 100000 in
theorem sm_peekx {g : GG} {n : Int} {L : Int32} (hy : Ly g)  {I : pI} {J : pJ} {R : pR} (hr : Rf g R) (hI : MP g n L I) (lo : Int32) (hi : Int32) (lo_lo : -1 ≤ lo.toInt) (lo_hi : lo.toInt ≤ 1000) (hi_lo : -1 ≤ hi.toInt) (hi_hi : hi.toInt ≤ 1000) (hb : ((I (ad g 0) 4).toInt ≤ (I (ad g 0) 2).toInt ∧ (I (ad g 0) 3).toInt ≤ (I (ad g 0) 4).toInt ∧ ((I (ad g 0) 5).toInt = 0 ∨ (I (ad g 0) 3).toInt < (I (ad g 0) 4).toInt))) : SP g mX11_peek [.ref (ad g 0), .int lo, .int hi] I J R (fun r I' J' R' => (MP g n L I' ∧ R' = R ∧ fz 49 g [0] I I' ∧ (((I' (ad g 0) 4).toInt ≤ (I' (ad g 0) 2).toInt ∧ (I' (ad g 0) 3).toInt ≤ (I' (ad g 0) 4).toInt ∧ ((I' (ad g 0) 5).toInt = 0 ∨ (I' (ad g 0) 3).toInt < (I' (ad g 0) 4).toInt)) ∧ (I (ad g 0) 3).toInt ≤ (I' (ad g 0) 3).toInt) ∧ I' (ad g 0) 15 = I (ad g 0) 15 ∧ I' (ad g 0) 16 = I (ad g 0) 16 ∧ I' (ad g 0) 17 = I (ad g 0) 17 ∧ I' (ad g 0) 18 = I (ad g 0) 18) ∧ ∃ v : Int32, r = some (.int v) ∧ 0 ≤ v.toInt ∧ v.toInt ≤ 1 ∧ (v.toInt = 1 → lo.toInt ≤ (I' (ad g 0) 7).toInt ∧ (I' (ad g 0) 7).toInt ≤ hi.toInt)) := by
  refine SP_of ⟨by decide, rfl⟩ (Nat.le_of_ble_eq_true rfl) ?_
  have e7152 : I (ad g 0) 1 = L := hI.1.2
  have b7153 := BT_get hI.1.1 0 1 2 (0) (0) (900) (by decide) 1 (by decide) (by decide)
  rw [e7152] at b7153
  have fr0 : fz 49 g [0] I I := fz_rf
  obtain ⟨w7154, ew7154⟩ : ∃ w : Int32, I (ad g 0) 15 = w := ⟨_, rfl⟩
  have bw7154 := BT_get hI.1.1 0 15 16 (0) (0) (4) (by decide) 15 (by decide) (by decide)
  rw [ew7154] at bw7154
  obtain ⟨w7155, ew7155⟩ : ∃ w : Int32, I (ad g 0) 16 = w := ⟨_, rfl⟩
  have bw7155 := BT_get hI.1.1 0 16 17 (0) (0) (3) (by decide) 16 (by decide) (by decide)
  rw [ew7155] at bw7155
  obtain ⟨w7156, ew7156⟩ : ∃ w : Int32, I (ad g 0) 17 = w := ⟨_, rfl⟩
  have bw7156 := BT_get hI.1.1 0 17 18 (-1) (0) (3) (by decide) 17 (by decide) (by decide)
  rw [ew7156] at bw7156
  obtain ⟨w7157, ew7157⟩ : ∃ w : Int32, I (ad g 0) 18 = w := ⟨_, rfl⟩
  have bw7157 := BT_get hI.1.1 0 18 19 (-1) (0) (2) (by decide) 18 (by decide) (by decide)
  rw [ew7157] at bw7157
  obtain ⟨w7158, ew7158⟩ : ∃ w : Int32, I (ad g 0) 2 = w := ⟨_, rfl⟩
  have bw7158 := BT_get hI.1.1 0 2 3 (0) (0) (900) (by decide) 2 (by decide) (by decide)
  rw [ew7158] at bw7158
  obtain ⟨w7159, ew7159⟩ : ∃ w : Int32, I (ad g 0) 3 = w := ⟨_, rfl⟩
  have bw7159 := BT_get hI.1.1 0 3 4 (0) (0) (900) (by decide) 3 (by decide) (by decide)
  rw [ew7159] at bw7159
  obtain ⟨w7160, ew7160⟩ : ∃ w : Int32, I (ad g 0) 4 = w := ⟨_, rfl⟩
  have bw7160 := BT_get hI.1.1 0 4 5 (0) (0) (900) (by decide) 4 (by decide) (by decide)
  rw [ew7160] at bw7160
  obtain ⟨w7161, ew7161⟩ : ∃ w : Int32, I (ad g 0) 5 = w := ⟨_, rfl⟩
  have bw7161 := BT_get hI.1.1 0 5 6 (0) (0) (4) (by decide) 5 (by decide) (by decide)
  rw [ew7161] at bw7161
  rw [ew7158, ew7159, ew7160, ew7161] at hb
  refine WP_aload_n dX11_peek_0 rfl ?_
  refine WQ_getim dX11_peek_1 fX11_27 rfl (ly_is hy 0 11 rfl) ew7161 ?_
  refine WQ_iconst (2) (2) dX11_peek_4 rfl rfl (fun v7162 hv7162 => ?_)
  refine WQ_icmp_eq 14 dX11_peek_5 rfl (fun c7162 => ?_) (fun c7162 => ?_)
  · refine WP_aload_n dX11_peek_14 rfl ?_
    refine WQ_getiu dX11_peek_15 fX11_37 rfl (ly_is hy 0 11 rfl) (fun v7164 ev7164 => ?_)
    refine WQ_i2l dX11_peek_18 (fun l7165 hl7165 => ?_)
    refine WP_iload_n dX11_peek_19 rfl ?_
    refine WQ_i2l dX11_peek_20 (fun l7166 hl7166 => ?_)
    refine WP_iload_n dX11_peek_21 rfl ?_
    refine WQ_i2l dX11_peek_22 (fun l7167 hl7167 => ?_)
    refine WP_callS3 dX11_peek_23 ⟨⟨⟨by decide, by decide⟩, zX11_in⟩, lX11_52, tX11_in⟩ (sm_in hy hr hI l7165 l7166 l7167 ) (Nat.le_of_ble_eq_true rfl) ?_
    intro r Ia Ja Ra hq
    obtain ⟨⟨ea, eb, ec⟩, v7168, rfl, av7168, bv7168, cv7168⟩ := hq
    show WP _ _ _ _ (.int _ :: _) _ _ _ _
    rw [ea, eb, ec]
    clear ea eb ec Ia Ja Ra
    refine WQ_if_ne 35 dX11_peek_26 rfl (fun c7168 => ?_) (fun c7168 => ?_)
    · refine WP_aload_n dX11_peek_35 rfl ?_
      refine WP_aload_n dX11_peek_36 rfl ?_
      refine WQ_getim dX11_peek_37 fX11_37 rfl (ly_is hy 0 11 rfl) ev7164 ?_
      refine WQ_puti dX11_peek_40 fX11_56 rfl rfl (ly_is hy 0 11 rfl) (fun I7170 eI7170 => ?_)
      have hI7170 : MP g n L I7170 := by rw [eI7170]; exact (mp_w hy hI (c := 0) (mi_f hy hI.1 (c := 0) (-1) (0) (1000) (by decide) (Or.inr (by decide)) (by decide) (by omega) (by omega)) (by decide) (by decide) (Or.inr (by decide)))
      have e7171 : I7170 (ad g 0) 1 = L := by rw [eI7170, pp_ne _ _ (Or.inr (by decide))]; exact e7152
      have e7172 : I7170 (ad g 0) 15 = w7154 := by rw [eI7170, pp_ne _ _ (Or.inr (by decide))]; exact ew7154
      have e7173 : I7170 (ad g 0) 16 = w7155 := by rw [eI7170, pp_ne _ _ (Or.inr (by decide))]; exact ew7155
      have e7174 : I7170 (ad g 0) 17 = w7156 := by rw [eI7170, pp_ne _ _ (Or.inr (by decide))]; exact ew7156
      have e7175 : I7170 (ad g 0) 18 = w7157 := by rw [eI7170, pp_ne _ _ (Or.inr (by decide))]; exact ew7157
      have e7176 : I7170 (ad g 0) 2 = w7158 := by rw [eI7170, pp_ne _ _ (Or.inr (by decide))]; exact ew7158
      have e7177 : I7170 (ad g 0) 3 = w7159 := by rw [eI7170, pp_ne _ _ (Or.inr (by decide))]; exact ew7159
      have e7178 : I7170 (ad g 0) 4 = w7160 := by rw [eI7170, pp_ne _ _ (Or.inr (by decide))]; exact ew7160
      have e7179 : I7170 (ad g 0) 5 = w7161 := by rw [eI7170, pp_ne _ _ (Or.inr (by decide))]; exact ew7161
      have e7180 : I7170 (ad g 0) 6 = v7164 := by rw [eI7170, pp_ne _ _ (Or.inr (by decide))]; exact ev7164
      have e7181 : I7170 (ad g 0) 7 = v7164 := by rw [eI7170, pp_self]
      have fr7182 : fz 49 g [0] I I7170 := by rw [eI7170]; exact fzm_pp hy fr0 (by decide) (by decide)
      clear eI7170
      refine WQ_iconst (1) (1) dX11_peek_43 rfl rfl (fun v7183 hv7183 => ?_)
      exact WP_zret dX11_peek_44 rfl (nar_z (by omega)) ⟨⟨hI7170, rfl, fr7182, ⟨(by rw [e7176, e7177, e7178, e7179, ew7159]; omega), (by rw [e7172, ew7154] <;> exact (eq32 _ _).mpr (by omega)), (by rw [e7173, ew7155] <;> exact (eq32 _ _).mpr (by omega)), (by rw [e7174, ew7156] <;> exact (eq32 _ _).mpr (by omega)), (by rw [e7175, ew7157] <;> exact (eq32 _ _).mpr (by omega))⟩⟩, _, rfl, by omega, by omega, by (try rw [e7181]); omega⟩
    · refine WP_aload_n dX11_peek_29 rfl ?_
      refine WQ_iconst (2) (2) dX11_peek_30 rfl rfl (fun v7184 hv7184 => ?_)
      refine WP_callV1 (k := 11) dX11_peek_31 ⟨⟨⟨by decide, by decide⟩, zX11_bad⟩, lX11_49, by decide, rfl, vX11_bad.1, vX11_bad.2⟩ (ly_is hy 0 11 rfl) (sm_badx hy hr hI v7184  (by rw [ew7158, ew7159, ew7160, ew7161]; omega)) (Nat.le_of_ble_eq_true rfl) ?_
      intro r I7185 J7186 Ra hq
      obtain ⟨⟨hI7185, ec, fiI7185, ⟨pI7185, sI7185_0_15, sI7185_0_16, sI7185_0_17, sI7185_0_18⟩⟩, v7187, rfl, av7187, bv7187⟩ := hq
      show WP _ _ _ _ (.int _ :: _) _ _ _ _
      rw [ec]
      clear ec Ra
      have fr7188 : fz 49 g [0] I I7185 := fz_tr fr0 (fz_mono fiI7185 (by decide))
      have e7189 : I7185 (ad g 0) 15 = w7154 := by rw [sI7185_0_15]; exact ew7154
      have e7190 : I7185 (ad g 0) 16 = w7155 := by rw [sI7185_0_16]; exact ew7155
      have e7191 : I7185 (ad g 0) 17 = w7156 := by rw [sI7185_0_17]; exact ew7156
      have e7192 : I7185 (ad g 0) 18 = w7157 := by rw [sI7185_0_18]; exact ew7157
      have e7193 : I7185 (ad g 0) 1 = L := hI7185.1.2
      have b7194 := BT_get hI7185.1.1 0 1 2 (0) (0) (900) (by decide) 1 (by decide) (by decide)
      rw [e7193] at b7194
      obtain ⟨w7195, ew7195⟩ : ∃ w : Int32, I7185 (ad g 0) 2 = w := ⟨_, rfl⟩
      have bw7195 := BT_get hI7185.1.1 0 2 3 (0) (0) (900) (by decide) 2 (by decide) (by decide)
      rw [ew7195] at bw7195
      obtain ⟨w7196, ew7196⟩ : ∃ w : Int32, I7185 (ad g 0) 3 = w := ⟨_, rfl⟩
      have bw7196 := BT_get hI7185.1.1 0 3 4 (0) (0) (900) (by decide) 3 (by decide) (by decide)
      rw [ew7196] at bw7196
      obtain ⟨w7197, ew7197⟩ : ∃ w : Int32, I7185 (ad g 0) 4 = w := ⟨_, rfl⟩
      have bw7197 := BT_get hI7185.1.1 0 4 5 (0) (0) (900) (by decide) 4 (by decide) (by decide)
      rw [ew7197] at bw7197
      obtain ⟨w7198, ew7198⟩ : ∃ w : Int32, I7185 (ad g 0) 5 = w := ⟨_, rfl⟩
      have bw7198 := BT_get hI7185.1.1 0 5 6 (0) (0) (4) (by decide) 5 (by decide) (by decide)
      rw [ew7198] at bw7198
      rw [ew7195, ew7196, ew7197, ew7198, ew7159] at pI7185
      obtain ⟨w7199, ew7199⟩ : ∃ w : Int32, I7185 (ad g 0) 7 = w := ⟨_, rfl⟩
      have bw7199 := BT_get hI7185.1.1 0 7 8 (-1) (0) (1000) (by decide) 7 (by decide) (by decide)
      rw [ew7199] at bw7199
      exact WP_zret dX11_peek_34 rfl (nar_z (by omega)) ⟨⟨hI7185, rfl, fr7188, ⟨(by rw [ew7195, ew7196, ew7197, ew7198, ew7159]; omega), (by rw [e7189, ew7154] <;> exact (eq32 _ _).mpr (by omega)), (by rw [e7190, ew7155] <;> exact (eq32 _ _).mpr (by omega)), (by rw [e7191, ew7156] <;> exact (eq32 _ _).mpr (by omega)), (by rw [e7192, ew7157] <;> exact (eq32 _ _).mpr (by omega))⟩⟩, _, rfl, by omega, by omega, by (try rw [ew7199]); omega⟩
  · refine WP_aload_n dX11_peek_8 rfl ?_
    refine WQ_iconst (1) (1) dX11_peek_9 rfl rfl (fun v7200 hv7200 => ?_)
    refine WP_callV1 (k := 11) dX11_peek_10 ⟨⟨⟨by decide, by decide⟩, zX11_bad⟩, lX11_49, by decide, rfl, vX11_bad.1, vX11_bad.2⟩ (ly_is hy 0 11 rfl) (sm_badx hy hr hI v7200  (by rw [ew7158, ew7159, ew7160, ew7161]; omega)) (Nat.le_of_ble_eq_true rfl) ?_
    intro r I7201 J7202 Ra hq
    obtain ⟨⟨hI7201, ec, fiI7201, ⟨pI7201, sI7201_0_15, sI7201_0_16, sI7201_0_17, sI7201_0_18⟩⟩, v7203, rfl, av7203, bv7203⟩ := hq
    show WP _ _ _ _ (.int _ :: _) _ _ _ _
    rw [ec]
    clear ec Ra
    have fr7204 : fz 49 g [0] I I7201 := fz_tr fr0 (fz_mono fiI7201 (by decide))
    have e7205 : I7201 (ad g 0) 15 = w7154 := by rw [sI7201_0_15]; exact ew7154
    have e7206 : I7201 (ad g 0) 16 = w7155 := by rw [sI7201_0_16]; exact ew7155
    have e7207 : I7201 (ad g 0) 17 = w7156 := by rw [sI7201_0_17]; exact ew7156
    have e7208 : I7201 (ad g 0) 18 = w7157 := by rw [sI7201_0_18]; exact ew7157
    have e7209 : I7201 (ad g 0) 1 = L := hI7201.1.2
    have b7210 := BT_get hI7201.1.1 0 1 2 (0) (0) (900) (by decide) 1 (by decide) (by decide)
    rw [e7209] at b7210
    obtain ⟨w7211, ew7211⟩ : ∃ w : Int32, I7201 (ad g 0) 2 = w := ⟨_, rfl⟩
    have bw7211 := BT_get hI7201.1.1 0 2 3 (0) (0) (900) (by decide) 2 (by decide) (by decide)
    rw [ew7211] at bw7211
    obtain ⟨w7212, ew7212⟩ : ∃ w : Int32, I7201 (ad g 0) 3 = w := ⟨_, rfl⟩
    have bw7212 := BT_get hI7201.1.1 0 3 4 (0) (0) (900) (by decide) 3 (by decide) (by decide)
    rw [ew7212] at bw7212
    obtain ⟨w7213, ew7213⟩ : ∃ w : Int32, I7201 (ad g 0) 4 = w := ⟨_, rfl⟩
    have bw7213 := BT_get hI7201.1.1 0 4 5 (0) (0) (900) (by decide) 4 (by decide) (by decide)
    rw [ew7213] at bw7213
    obtain ⟨w7214, ew7214⟩ : ∃ w : Int32, I7201 (ad g 0) 5 = w := ⟨_, rfl⟩
    have bw7214 := BT_get hI7201.1.1 0 5 6 (0) (0) (4) (by decide) 5 (by decide) (by decide)
    rw [ew7214] at bw7214
    rw [ew7211, ew7212, ew7213, ew7214, ew7159] at pI7201
    obtain ⟨w7215, ew7215⟩ : ∃ w : Int32, I7201 (ad g 0) 7 = w := ⟨_, rfl⟩
    have bw7215 := BT_get hI7201.1.1 0 7 8 (-1) (0) (1000) (by decide) 7 (by decide) (by decide)
    rw [ew7215] at bw7215
    exact WP_zret dX11_peek_13 rfl (nar_z (by omega)) ⟨⟨hI7201, rfl, fr7204, ⟨(by rw [ew7211, ew7212, ew7213, ew7214, ew7159]; omega), (by rw [e7205, ew7154] <;> exact (eq32 _ _).mpr (by omega)), (by rw [e7206, ew7155] <;> exact (eq32 _ _).mpr (by omega)), (by rw [e7207, ew7156] <;> exact (eq32 _ _).mpr (by omega)), (by rw [e7208, ew7157] <;> exact (eq32 _ _).mpr (by omega))⟩⟩, _, rfl, by omega, by omega, by (try rw [ew7215]); omega⟩
set_option maxHeartbeats 4000000 in
set_option maxRecDepth 100000 in
theorem sm_numberx {g : GG} {n : Int} {L : Int32} (hy : Ly g)  {I : pI} {J : pJ} {R : pR} (hr : Rf g R) (hI : MP g n L I) (lo : Int32) (hi : Int32) (lo_lo : -1 ≤ lo.toInt) (lo_hi : lo.toInt ≤ 1000) (hi_lo : -1 ≤ hi.toInt) (hi_hi : hi.toInt ≤ 1000) (hb : ((I (ad g 0) 4).toInt ≤ (I (ad g 0) 2).toInt ∧ (I (ad g 0) 3).toInt ≤ (I (ad g 0) 4).toInt ∧ ((I (ad g 0) 5).toInt = 0 ∨ (I (ad g 0) 3).toInt < (I (ad g 0) 4).toInt))) : SP g mX11_number [.ref (ad g 0), .int lo, .int hi] I J R (fun r I' J' R' => (MP g n L I' ∧ R' = R ∧ fz 49 g [0] I I' ∧ (((I' (ad g 0) 4).toInt ≤ (I' (ad g 0) 2).toInt ∧ (I' (ad g 0) 3).toInt ≤ (I' (ad g 0) 4).toInt ∧ ((I' (ad g 0) 5).toInt = 0 ∨ (I' (ad g 0) 3).toInt < (I' (ad g 0) 4).toInt)) ∧ (I (ad g 0) 3).toInt ≤ (I' (ad g 0) 3).toInt) ∧ I' (ad g 0) 15 = I (ad g 0) 15 ∧ I' (ad g 0) 16 = I (ad g 0) 16 ∧ I' (ad g 0) 17 = I (ad g 0) 17 ∧ I' (ad g 0) 18 = I (ad g 0) 18) ∧ ∃ v : Int32, r = some (.int v) ∧ 0 ≤ v.toInt ∧ v.toInt ≤ 1 ∧ (v.toInt = 1 → lo.toInt ≤ (I' (ad g 0) 7).toInt ∧ (I' (ad g 0) 7).toInt ≤ hi.toInt)) := by
  refine SP_of ⟨by decide, rfl⟩ (Nat.le_of_ble_eq_true rfl) ?_
  have e7216 : I (ad g 0) 1 = L := hI.1.2
  have b7217 := BT_get hI.1.1 0 1 2 (0) (0) (900) (by decide) 1 (by decide) (by decide)
  rw [e7216] at b7217
  have fr0 : fz 49 g [0] I I := fz_rf
  obtain ⟨w7218, ew7218⟩ : ∃ w : Int32, I (ad g 0) 15 = w := ⟨_, rfl⟩
  have bw7218 := BT_get hI.1.1 0 15 16 (0) (0) (4) (by decide) 15 (by decide) (by decide)
  rw [ew7218] at bw7218
  obtain ⟨w7219, ew7219⟩ : ∃ w : Int32, I (ad g 0) 16 = w := ⟨_, rfl⟩
  have bw7219 := BT_get hI.1.1 0 16 17 (0) (0) (3) (by decide) 16 (by decide) (by decide)
  rw [ew7219] at bw7219
  obtain ⟨w7220, ew7220⟩ : ∃ w : Int32, I (ad g 0) 17 = w := ⟨_, rfl⟩
  have bw7220 := BT_get hI.1.1 0 17 18 (-1) (0) (3) (by decide) 17 (by decide) (by decide)
  rw [ew7220] at bw7220
  obtain ⟨w7221, ew7221⟩ : ∃ w : Int32, I (ad g 0) 18 = w := ⟨_, rfl⟩
  have bw7221 := BT_get hI.1.1 0 18 19 (-1) (0) (2) (by decide) 18 (by decide) (by decide)
  rw [ew7221] at bw7221
  obtain ⟨w7222, ew7222⟩ : ∃ w : Int32, I (ad g 0) 2 = w := ⟨_, rfl⟩
  have bw7222 := BT_get hI.1.1 0 2 3 (0) (0) (900) (by decide) 2 (by decide) (by decide)
  rw [ew7222] at bw7222
  obtain ⟨w7223, ew7223⟩ : ∃ w : Int32, I (ad g 0) 3 = w := ⟨_, rfl⟩
  have bw7223 := BT_get hI.1.1 0 3 4 (0) (0) (900) (by decide) 3 (by decide) (by decide)
  rw [ew7223] at bw7223
  obtain ⟨w7224, ew7224⟩ : ∃ w : Int32, I (ad g 0) 4 = w := ⟨_, rfl⟩
  have bw7224 := BT_get hI.1.1 0 4 5 (0) (0) (900) (by decide) 4 (by decide) (by decide)
  rw [ew7224] at bw7224
  obtain ⟨w7225, ew7225⟩ : ∃ w : Int32, I (ad g 0) 5 = w := ⟨_, rfl⟩
  have bw7225 := BT_get hI.1.1 0 5 6 (0) (0) (4) (by decide) 5 (by decide) (by decide)
  rw [ew7225] at bw7225
  rw [ew7222, ew7223, ew7224, ew7225] at hb
  refine WP_aload_n dX11_number_0 rfl ?_
  refine WP_iload_n dX11_number_1 rfl ?_
  refine WP_iload_n dX11_number_2 rfl ?_
  refine WP_callV2 (k := 11) dX11_number_3 ⟨⟨⟨by decide, by decide⟩, zX11_peek⟩, lX11_59, by decide, rfl, vX11_peek.1, vX11_peek.2⟩ (ly_is hy 0 11 rfl) (sm_peekx hy hr hI lo hi (by omega) (by omega) (by omega) (by omega) (by rw [ew7222, ew7223, ew7224, ew7225]; omega)) (Nat.le_of_ble_eq_true rfl) ?_
  intro r I7226 J7227 Ra hq
  obtain ⟨⟨hI7226, ec, fiI7226, ⟨pI7226, sI7226_0_15, sI7226_0_16, sI7226_0_17, sI7226_0_18⟩⟩, v7228, rfl, av7228, bv7228, cv7228⟩ := hq
  show WP _ _ _ _ (.int _ :: _) _ _ _ _
  rw [ec]
  clear ec Ra
  have fr7229 : fz 49 g [0] I I7226 := fz_tr fr0 (fz_mono fiI7226 (by decide))
  have e7230 : I7226 (ad g 0) 15 = w7218 := by rw [sI7226_0_15]; exact ew7218
  have e7231 : I7226 (ad g 0) 16 = w7219 := by rw [sI7226_0_16]; exact ew7219
  have e7232 : I7226 (ad g 0) 17 = w7220 := by rw [sI7226_0_17]; exact ew7220
  have e7233 : I7226 (ad g 0) 18 = w7221 := by rw [sI7226_0_18]; exact ew7221
  have e7234 : I7226 (ad g 0) 1 = L := hI7226.1.2
  have b7235 := BT_get hI7226.1.1 0 1 2 (0) (0) (900) (by decide) 1 (by decide) (by decide)
  rw [e7234] at b7235
  obtain ⟨w7236, ew7236⟩ : ∃ w : Int32, I7226 (ad g 0) 2 = w := ⟨_, rfl⟩
  have bw7236 := BT_get hI7226.1.1 0 2 3 (0) (0) (900) (by decide) 2 (by decide) (by decide)
  rw [ew7236] at bw7236
  obtain ⟨w7237, ew7237⟩ : ∃ w : Int32, I7226 (ad g 0) 3 = w := ⟨_, rfl⟩
  have bw7237 := BT_get hI7226.1.1 0 3 4 (0) (0) (900) (by decide) 3 (by decide) (by decide)
  rw [ew7237] at bw7237
  obtain ⟨w7238, ew7238⟩ : ∃ w : Int32, I7226 (ad g 0) 4 = w := ⟨_, rfl⟩
  have bw7238 := BT_get hI7226.1.1 0 4 5 (0) (0) (900) (by decide) 4 (by decide) (by decide)
  rw [ew7238] at bw7238
  obtain ⟨w7239, ew7239⟩ : ∃ w : Int32, I7226 (ad g 0) 5 = w := ⟨_, rfl⟩
  have bw7239 := BT_get hI7226.1.1 0 5 6 (0) (0) (4) (by decide) 5 (by decide) (by decide)
  rw [ew7239] at bw7239
  rw [ew7236, ew7237, ew7238, ew7239, ew7223] at pI7226
  obtain ⟨w7240, ew7240⟩ : ∃ w : Int32, I7226 (ad g 0) 7 = w := ⟨_, rfl⟩
  have bw7240 := BT_get hI7226.1.1 0 7 8 (-1) (0) (1000) (by decide) 7 (by decide) (by decide)
  rw [ew7240] at bw7240
  rw [ew7240] at cv7228
  refine WQ_if_ne 11 dX11_number_6 rfl (fun c7240 => ?_) (fun c7240 => ?_)
  · refine WP_aload_n dX11_number_11 rfl ?_
    refine WP_callV0 (k := 11) dX11_number_12 ⟨⟨⟨by decide, by decide⟩, zX11_scan⟩, lX11_63, by decide, rfl, vX11_scan.1, vX11_scan.2⟩ (ly_is hy 0 11 rfl) (sm_scanx hy hr hI7226   (by rw [ew7238, ew7236]; omega)) (Nat.le_of_ble_eq_true rfl) ?_
    intro r I7242 J7243 Ra hq
    obtain ⟨⟨hI7242, ec, fiI7242, ⟨pI7242, sI7242_0_7, sI7242_0_15, sI7242_0_16, sI7242_0_17, sI7242_0_18⟩⟩, rfl⟩ := hq
    rw [ec]
    clear ec Ra
    have fr7244 : fz 49 g [0] I I7242 := fz_tr fr7229 (fz_mono fiI7242 (by decide))
    have e7245 : I7242 (ad g 0) 7 = w7240 := by rw [sI7242_0_7]; exact ew7240
    have e7246 : I7242 (ad g 0) 15 = w7218 := by rw [sI7242_0_15]; exact e7230
    have e7247 : I7242 (ad g 0) 16 = w7219 := by rw [sI7242_0_16]; exact e7231
    have e7248 : I7242 (ad g 0) 17 = w7220 := by rw [sI7242_0_17]; exact e7232
    have e7249 : I7242 (ad g 0) 18 = w7221 := by rw [sI7242_0_18]; exact e7233
    have e7250 : I7242 (ad g 0) 1 = L := hI7242.1.2
    have b7251 := BT_get hI7242.1.1 0 1 2 (0) (0) (900) (by decide) 1 (by decide) (by decide)
    rw [e7250] at b7251
    obtain ⟨w7252, ew7252⟩ : ∃ w : Int32, I7242 (ad g 0) 2 = w := ⟨_, rfl⟩
    have bw7252 := BT_get hI7242.1.1 0 2 3 (0) (0) (900) (by decide) 2 (by decide) (by decide)
    rw [ew7252] at bw7252
    obtain ⟨w7253, ew7253⟩ : ∃ w : Int32, I7242 (ad g 0) 3 = w := ⟨_, rfl⟩
    have bw7253 := BT_get hI7242.1.1 0 3 4 (0) (0) (900) (by decide) 3 (by decide) (by decide)
    rw [ew7253] at bw7253
    obtain ⟨w7254, ew7254⟩ : ∃ w : Int32, I7242 (ad g 0) 4 = w := ⟨_, rfl⟩
    have bw7254 := BT_get hI7242.1.1 0 4 5 (0) (0) (900) (by decide) 4 (by decide) (by decide)
    rw [ew7254] at bw7254
    obtain ⟨w7255, ew7255⟩ : ∃ w : Int32, I7242 (ad g 0) 5 = w := ⟨_, rfl⟩
    have bw7255 := BT_get hI7242.1.1 0 5 6 (0) (0) (4) (by decide) 5 (by decide) (by decide)
    rw [ew7255] at bw7255
    rw [ew7252, ew7253, ew7254, ew7255, ew7238] at pI7242
    refine WQ_iconst (1) (1) dX11_number_15 rfl rfl (fun v7256 hv7256 => ?_)
    exact WP_zret dX11_number_16 rfl (nar_z (by omega)) ⟨⟨hI7242, rfl, fr7244, ⟨(by rw [ew7252, ew7253, ew7254, ew7255, ew7223]; omega), (by rw [e7246, ew7218] <;> exact (eq32 _ _).mpr (by omega)), (by rw [e7247, ew7219] <;> exact (eq32 _ _).mpr (by omega)), (by rw [e7248, ew7220] <;> exact (eq32 _ _).mpr (by omega)), (by rw [e7249, ew7221] <;> exact (eq32 _ _).mpr (by omega))⟩⟩, _, rfl, by omega, by omega, by (try rw [e7245]); omega⟩
  · refine WQ_iconst (0) (0) dX11_number_9 rfl rfl (fun v7257 hv7257 => ?_)
    exact WP_zret dX11_number_10 rfl (nar_z (by omega)) ⟨⟨hI7226, rfl, fr7229, ⟨(by rw [ew7236, ew7237, ew7238, ew7239, ew7223]; omega), (by rw [e7230, ew7218] <;> exact (eq32 _ _).mpr (by omega)), (by rw [e7231, ew7219] <;> exact (eq32 _ _).mpr (by omega)), (by rw [e7232, ew7220] <;> exact (eq32 _ _).mpr (by omega)), (by rw [e7233, ew7221] <;> exact (eq32 _ _).mpr (by omega))⟩⟩, _, rfl, by omega, by omega, by (try rw [ew7240]); omega⟩
set_option maxHeartbeats 4000000 in
set_option maxRecDepth 100000 in
theorem sm_closex {g : GG} {n : Int} {L : Int32} (hy : Ly g)  {I : pI} {J : pJ} {R : pR} (hr : Rf g R) (hI : MP g n L I)   (hb : ((I (ad g 0) 4).toInt ≤ (I (ad g 0) 2).toInt ∧ (I (ad g 0) 3).toInt ≤ (I (ad g 0) 4).toInt ∧ ((I (ad g 0) 5).toInt = 0 ∨ (I (ad g 0) 3).toInt < (I (ad g 0) 4).toInt))) : SP g mX11_close [.ref (ad g 0)] I J R (fun r I' J' R' => (MP g n L I' ∧ R' = R ∧ fz 49 g [0] I I' ∧ (((I' (ad g 0) 4).toInt ≤ (I' (ad g 0) 2).toInt ∧ (I' (ad g 0) 3).toInt ≤ (I' (ad g 0) 4).toInt ∧ ((I' (ad g 0) 5).toInt = 0 ∨ (I' (ad g 0) 3).toInt < (I' (ad g 0) 4).toInt)) ∧ (I (ad g 0) 3).toInt ≤ (I' (ad g 0) 3).toInt) ∧ I' (ad g 0) 15 = I (ad g 0) 15 ∧ I' (ad g 0) 16 = I (ad g 0) 16 ∧ I' (ad g 0) 17 = I (ad g 0) 17 ∧ I' (ad g 0) 18 = I (ad g 0) 18) ∧ ∃ v : Int32, r = some (.int v) ∧ 0 ≤ v.toInt ∧ v.toInt ≤ 1 ∧ (v.toInt = 1 → (I (ad g 0) 3).toInt < (I' (ad g 0) 3).toInt)) := by
  refine SP_of ⟨by decide, rfl⟩ (Nat.le_of_ble_eq_true rfl) ?_
  have e7258 : I (ad g 0) 1 = L := hI.1.2
  have b7259 := BT_get hI.1.1 0 1 2 (0) (0) (900) (by decide) 1 (by decide) (by decide)
  rw [e7258] at b7259
  have fr0 : fz 49 g [0] I I := fz_rf
  obtain ⟨w7260, ew7260⟩ : ∃ w : Int32, I (ad g 0) 15 = w := ⟨_, rfl⟩
  have bw7260 := BT_get hI.1.1 0 15 16 (0) (0) (4) (by decide) 15 (by decide) (by decide)
  rw [ew7260] at bw7260
  obtain ⟨w7261, ew7261⟩ : ∃ w : Int32, I (ad g 0) 16 = w := ⟨_, rfl⟩
  have bw7261 := BT_get hI.1.1 0 16 17 (0) (0) (3) (by decide) 16 (by decide) (by decide)
  rw [ew7261] at bw7261
  obtain ⟨w7262, ew7262⟩ : ∃ w : Int32, I (ad g 0) 17 = w := ⟨_, rfl⟩
  have bw7262 := BT_get hI.1.1 0 17 18 (-1) (0) (3) (by decide) 17 (by decide) (by decide)
  rw [ew7262] at bw7262
  obtain ⟨w7263, ew7263⟩ : ∃ w : Int32, I (ad g 0) 18 = w := ⟨_, rfl⟩
  have bw7263 := BT_get hI.1.1 0 18 19 (-1) (0) (2) (by decide) 18 (by decide) (by decide)
  rw [ew7263] at bw7263
  obtain ⟨w7264, ew7264⟩ : ∃ w : Int32, I (ad g 0) 2 = w := ⟨_, rfl⟩
  have bw7264 := BT_get hI.1.1 0 2 3 (0) (0) (900) (by decide) 2 (by decide) (by decide)
  rw [ew7264] at bw7264
  obtain ⟨w7265, ew7265⟩ : ∃ w : Int32, I (ad g 0) 3 = w := ⟨_, rfl⟩
  have bw7265 := BT_get hI.1.1 0 3 4 (0) (0) (900) (by decide) 3 (by decide) (by decide)
  rw [ew7265] at bw7265
  obtain ⟨w7266, ew7266⟩ : ∃ w : Int32, I (ad g 0) 4 = w := ⟨_, rfl⟩
  have bw7266 := BT_get hI.1.1 0 4 5 (0) (0) (900) (by decide) 4 (by decide) (by decide)
  rw [ew7266] at bw7266
  obtain ⟨w7267, ew7267⟩ : ∃ w : Int32, I (ad g 0) 5 = w := ⟨_, rfl⟩
  have bw7267 := BT_get hI.1.1 0 5 6 (0) (0) (4) (by decide) 5 (by decide) (by decide)
  rw [ew7267] at bw7267
  rw [ew7264, ew7265, ew7266, ew7267] at hb
  refine WP_aload_n dX11_close_0 rfl ?_
  refine WQ_getim dX11_close_1 fX11_27 rfl (ly_is hy 0 11 rfl) ew7267 ?_
  refine WQ_iconst (3) (3) dX11_close_4 rfl rfl (fun v7268 hv7268 => ?_)
  refine WQ_icmp_eq 14 dX11_close_5 rfl (fun c7268 => ?_) (fun c7268 => ?_)
  · refine WP_aload_n dX11_close_14 rfl ?_
    refine WP_callV0 (k := 11) dX11_close_15 ⟨⟨⟨by decide, by decide⟩, zX11_scan⟩, lX11_63, by decide, rfl, vX11_scan.1, vX11_scan.2⟩ (ly_is hy 0 11 rfl) (sm_scanx hy hr hI   (by rw [ew7266, ew7264]; omega)) (Nat.le_of_ble_eq_true rfl) ?_
    intro r I7270 J7271 Ra hq
    obtain ⟨⟨hI7270, ec, fiI7270, ⟨pI7270, sI7270_0_7, sI7270_0_15, sI7270_0_16, sI7270_0_17, sI7270_0_18⟩⟩, rfl⟩ := hq
    rw [ec]
    clear ec Ra
    have fr7272 : fz 49 g [0] I I7270 := fz_tr fr0 (fz_mono fiI7270 (by decide))
    have e7273 : I7270 (ad g 0) 15 = w7260 := by rw [sI7270_0_15]; exact ew7260
    have e7274 : I7270 (ad g 0) 16 = w7261 := by rw [sI7270_0_16]; exact ew7261
    have e7275 : I7270 (ad g 0) 17 = w7262 := by rw [sI7270_0_17]; exact ew7262
    have e7276 : I7270 (ad g 0) 18 = w7263 := by rw [sI7270_0_18]; exact ew7263
    have e7277 : I7270 (ad g 0) 1 = L := hI7270.1.2
    have b7278 := BT_get hI7270.1.1 0 1 2 (0) (0) (900) (by decide) 1 (by decide) (by decide)
    rw [e7277] at b7278
    obtain ⟨w7279, ew7279⟩ : ∃ w : Int32, I7270 (ad g 0) 2 = w := ⟨_, rfl⟩
    have bw7279 := BT_get hI7270.1.1 0 2 3 (0) (0) (900) (by decide) 2 (by decide) (by decide)
    rw [ew7279] at bw7279
    obtain ⟨w7280, ew7280⟩ : ∃ w : Int32, I7270 (ad g 0) 3 = w := ⟨_, rfl⟩
    have bw7280 := BT_get hI7270.1.1 0 3 4 (0) (0) (900) (by decide) 3 (by decide) (by decide)
    rw [ew7280] at bw7280
    obtain ⟨w7281, ew7281⟩ : ∃ w : Int32, I7270 (ad g 0) 4 = w := ⟨_, rfl⟩
    have bw7281 := BT_get hI7270.1.1 0 4 5 (0) (0) (900) (by decide) 4 (by decide) (by decide)
    rw [ew7281] at bw7281
    obtain ⟨w7282, ew7282⟩ : ∃ w : Int32, I7270 (ad g 0) 5 = w := ⟨_, rfl⟩
    have bw7282 := BT_get hI7270.1.1 0 5 6 (0) (0) (4) (by decide) 5 (by decide) (by decide)
    rw [ew7282] at bw7282
    rw [ew7279, ew7280, ew7281, ew7282, ew7266] at pI7270
    refine WQ_iconst (1) (1) dX11_close_18 rfl rfl (fun v7283 hv7283 => ?_)
    exact WP_zret dX11_close_19 rfl (nar_z (by omega)) ⟨⟨hI7270, rfl, fr7272, ⟨(by rw [ew7279, ew7280, ew7281, ew7282, ew7265]; omega), (by rw [e7273, ew7260] <;> exact (eq32 _ _).mpr (by omega)), (by rw [e7274, ew7261] <;> exact (eq32 _ _).mpr (by omega)), (by rw [e7275, ew7262] <;> exact (eq32 _ _).mpr (by omega)), (by rw [e7276, ew7263] <;> exact (eq32 _ _).mpr (by omega))⟩⟩, _, rfl, by omega, by omega, by ((try simp only [ew7280]); (try simp only [ew7264]); (try simp only [ew7265]); (try simp only [ew7266]); (try simp only [ew7267])); omega⟩
  · refine WP_aload_n dX11_close_8 rfl ?_
    refine WQ_iconst (1) (1) dX11_close_9 rfl rfl (fun v7284 hv7284 => ?_)
    refine WP_callV1 (k := 11) dX11_close_10 ⟨⟨⟨by decide, by decide⟩, zX11_bad⟩, lX11_49, by decide, rfl, vX11_bad.1, vX11_bad.2⟩ (ly_is hy 0 11 rfl) (sm_badx hy hr hI v7284  (by rw [ew7264, ew7265, ew7266, ew7267]; omega)) (Nat.le_of_ble_eq_true rfl) ?_
    intro r I7285 J7286 Ra hq
    obtain ⟨⟨hI7285, ec, fiI7285, ⟨pI7285, sI7285_0_15, sI7285_0_16, sI7285_0_17, sI7285_0_18⟩⟩, v7287, rfl, av7287, bv7287⟩ := hq
    show WP _ _ _ _ (.int _ :: _) _ _ _ _
    rw [ec]
    clear ec Ra
    have fr7288 : fz 49 g [0] I I7285 := fz_tr fr0 (fz_mono fiI7285 (by decide))
    have e7289 : I7285 (ad g 0) 15 = w7260 := by rw [sI7285_0_15]; exact ew7260
    have e7290 : I7285 (ad g 0) 16 = w7261 := by rw [sI7285_0_16]; exact ew7261
    have e7291 : I7285 (ad g 0) 17 = w7262 := by rw [sI7285_0_17]; exact ew7262
    have e7292 : I7285 (ad g 0) 18 = w7263 := by rw [sI7285_0_18]; exact ew7263
    have e7293 : I7285 (ad g 0) 1 = L := hI7285.1.2
    have b7294 := BT_get hI7285.1.1 0 1 2 (0) (0) (900) (by decide) 1 (by decide) (by decide)
    rw [e7293] at b7294
    obtain ⟨w7295, ew7295⟩ : ∃ w : Int32, I7285 (ad g 0) 2 = w := ⟨_, rfl⟩
    have bw7295 := BT_get hI7285.1.1 0 2 3 (0) (0) (900) (by decide) 2 (by decide) (by decide)
    rw [ew7295] at bw7295
    obtain ⟨w7296, ew7296⟩ : ∃ w : Int32, I7285 (ad g 0) 3 = w := ⟨_, rfl⟩
    have bw7296 := BT_get hI7285.1.1 0 3 4 (0) (0) (900) (by decide) 3 (by decide) (by decide)
    rw [ew7296] at bw7296
    obtain ⟨w7297, ew7297⟩ : ∃ w : Int32, I7285 (ad g 0) 4 = w := ⟨_, rfl⟩
    have bw7297 := BT_get hI7285.1.1 0 4 5 (0) (0) (900) (by decide) 4 (by decide) (by decide)
    rw [ew7297] at bw7297
    obtain ⟨w7298, ew7298⟩ : ∃ w : Int32, I7285 (ad g 0) 5 = w := ⟨_, rfl⟩
    have bw7298 := BT_get hI7285.1.1 0 5 6 (0) (0) (4) (by decide) 5 (by decide) (by decide)
    rw [ew7298] at bw7298
    rw [ew7295, ew7296, ew7297, ew7298, ew7265] at pI7285
    exact WP_zret dX11_close_13 rfl (nar_z (by omega)) ⟨⟨hI7285, rfl, fr7288, ⟨(by rw [ew7295, ew7296, ew7297, ew7298, ew7265]; omega), (by rw [e7289, ew7260] <;> exact (eq32 _ _).mpr (by omega)), (by rw [e7290, ew7261] <;> exact (eq32 _ _).mpr (by omega)), (by rw [e7291, ew7262] <;> exact (eq32 _ _).mpr (by omega)), (by rw [e7292, ew7263] <;> exact (eq32 _ _).mpr (by omega))⟩⟩, _, rfl, by omega, by omega, by ((try simp only [ew7296]); (try simp only [ew7264]); (try simp only [ew7265]); (try simp only [ew7266]); (try simp only [ew7267])); omega⟩
set_option maxHeartbeats 4000000 in
set_option maxRecDepth 100000 in
theorem sm_knownx_2 {g : GG} {n : Int} {L : Int32} (hy : Ly g)  {I : pI} {J : pJ} {R : pR} (hr : Rf g R) (hI : MP g n L I) (ma : Int32) (ma_lo : 0 ≤ ma.toInt) (ma_hi : ma.toInt ≤ 4) (hb : ((I (ad g 0) 4).toInt ≤ (I (ad g 0) 2).toInt ∧ (I (ad g 0) 3).toInt ≤ (I (ad g 0) 4).toInt ∧ ((I (ad g 0) 5).toInt = 0 ∨ (I (ad g 0) 3).toInt < (I (ad g 0) 4).toInt))) : SP g mX11_known [.ref (ad g 0), .ref (ad g 2), .int ma] I J R (fun r I' J' R' => (MP g n L I' ∧ R' = R ∧ fz 49 g [0] I I' ∧ (((I' (ad g 0) 4).toInt ≤ (I' (ad g 0) 2).toInt ∧ (I' (ad g 0) 3).toInt ≤ (I' (ad g 0) 4).toInt ∧ ((I' (ad g 0) 5).toInt = 0 ∨ (I' (ad g 0) 3).toInt < (I' (ad g 0) 4).toInt)) ∧ (I (ad g 0) 3).toInt ≤ (I' (ad g 0) 3).toInt) ∧ I' (ad g 0) 15 = I (ad g 0) 15 ∧ I' (ad g 0) 16 = I (ad g 0) 16 ∧ I' (ad g 0) 17 = I (ad g 0) 17 ∧ I' (ad g 0) 18 = I (ad g 0) 18) ∧ ∃ v : Int32, r = some (.int v) ∧ 0 ≤ v.toInt ∧ v.toInt ≤ 1 ∧ (v.toInt = 1 → 0 ≤ (I' (ad g 0) 7).toInt ∧ (I' (ad g 0) 7).toInt ≤ 3 ∧ (I' (ad g 0) 7).toInt < ma.toInt)) := by
  refine SP_of ⟨by decide, rfl⟩ (Nat.le_of_ble_eq_true rfl) ?_
  have e7299 : I (ad g 0) 1 = L := hI.1.2
  have b7300 := BT_get hI.1.1 0 1 2 (0) (0) (900) (by decide) 1 (by decide) (by decide)
  rw [e7299] at b7300
  have fr0 : fz 49 g [0] I I := fz_rf
  obtain ⟨w7301, ew7301⟩ : ∃ w : Int32, I (ad g 0) 15 = w := ⟨_, rfl⟩
  have bw7301 := BT_get hI.1.1 0 15 16 (0) (0) (4) (by decide) 15 (by decide) (by decide)
  rw [ew7301] at bw7301
  obtain ⟨w7302, ew7302⟩ : ∃ w : Int32, I (ad g 0) 16 = w := ⟨_, rfl⟩
  have bw7302 := BT_get hI.1.1 0 16 17 (0) (0) (3) (by decide) 16 (by decide) (by decide)
  rw [ew7302] at bw7302
  obtain ⟨w7303, ew7303⟩ : ∃ w : Int32, I (ad g 0) 17 = w := ⟨_, rfl⟩
  have bw7303 := BT_get hI.1.1 0 17 18 (-1) (0) (3) (by decide) 17 (by decide) (by decide)
  rw [ew7303] at bw7303
  obtain ⟨w7304, ew7304⟩ : ∃ w : Int32, I (ad g 0) 18 = w := ⟨_, rfl⟩
  have bw7304 := BT_get hI.1.1 0 18 19 (-1) (0) (2) (by decide) 18 (by decide) (by decide)
  rw [ew7304] at bw7304
  obtain ⟨w7305, ew7305⟩ : ∃ w : Int32, I (ad g 0) 2 = w := ⟨_, rfl⟩
  have bw7305 := BT_get hI.1.1 0 2 3 (0) (0) (900) (by decide) 2 (by decide) (by decide)
  rw [ew7305] at bw7305
  obtain ⟨w7306, ew7306⟩ : ∃ w : Int32, I (ad g 0) 3 = w := ⟨_, rfl⟩
  have bw7306 := BT_get hI.1.1 0 3 4 (0) (0) (900) (by decide) 3 (by decide) (by decide)
  rw [ew7306] at bw7306
  obtain ⟨w7307, ew7307⟩ : ∃ w : Int32, I (ad g 0) 4 = w := ⟨_, rfl⟩
  have bw7307 := BT_get hI.1.1 0 4 5 (0) (0) (900) (by decide) 4 (by decide) (by decide)
  rw [ew7307] at bw7307
  obtain ⟨w7308, ew7308⟩ : ∃ w : Int32, I (ad g 0) 5 = w := ⟨_, rfl⟩
  have bw7308 := BT_get hI.1.1 0 5 6 (0) (0) (4) (by decide) 5 (by decide) (by decide)
  rw [ew7308] at bw7308
  rw [ew7305, ew7306, ew7307, ew7308] at hb
  refine WP_aload_n dX11_known_0 rfl ?_
  refine WQ_getim dX11_known_1 fX11_27 rfl (ly_is hy 0 11 rfl) ew7308 ?_
  refine WQ_iconst (1) (1) dX11_known_4 rfl rfl (fun v7309 hv7309 => ?_)
  refine WQ_icmp_eq 14 dX11_known_5 rfl (fun c7309 => ?_) (fun c7309 => ?_)
  · refine WP_aload_n dX11_known_14 rfl ?_
    refine WP_aload_n dX11_known_15 rfl ?_
    refine WP_aload_n dX11_known_16 rfl ?_
    refine WP_iload_n dX11_known_17 rfl ?_
    refine WP_callV2 (k := 11) dX11_known_18 ⟨⟨⟨by decide, by decide⟩, zX11_find⟩, lX11_71, by decide, rfl, vX11_find.1, vX11_find.2⟩ (ly_is hy 0 11 rfl) (sm_find_2 hy hr hI ma (by omega) (by omega)) (Nat.le_of_ble_eq_true rfl) ?_
    intro r Ia Ja Ra hq
    obtain ⟨⟨ea, eb, ec⟩, v7311, rfl, av7311, bv7311, cv7311⟩ := hq
    show WP _ _ _ _ (.int _ :: _) _ _ _ _
    rw [ea, eb, ec]
    clear ea eb ec Ia Ja Ra
    refine WQ_puti dX11_known_21 fX11_56 rfl rfl (ly_is hy 0 11 rfl) (fun I7312 eI7312 => ?_)
    have hI7312 : MP g n L I7312 := by rw [eI7312]; exact (mp_w hy hI (c := 0) (mi_f hy hI.1 (c := 0) (-1) (0) (1000) (by decide) (Or.inr (by decide)) (by decide) (by omega) (by omega)) (by decide) (by decide) (Or.inr (by decide)))
    have e7313 : I7312 (ad g 0) 1 = L := by rw [eI7312, pp_ne _ _ (Or.inr (by decide))]; exact e7299
    have e7314 : I7312 (ad g 0) 15 = w7301 := by rw [eI7312, pp_ne _ _ (Or.inr (by decide))]; exact ew7301
    have e7315 : I7312 (ad g 0) 16 = w7302 := by rw [eI7312, pp_ne _ _ (Or.inr (by decide))]; exact ew7302
    have e7316 : I7312 (ad g 0) 17 = w7303 := by rw [eI7312, pp_ne _ _ (Or.inr (by decide))]; exact ew7303
    have e7317 : I7312 (ad g 0) 18 = w7304 := by rw [eI7312, pp_ne _ _ (Or.inr (by decide))]; exact ew7304
    have e7318 : I7312 (ad g 0) 2 = w7305 := by rw [eI7312, pp_ne _ _ (Or.inr (by decide))]; exact ew7305
    have e7319 : I7312 (ad g 0) 3 = w7306 := by rw [eI7312, pp_ne _ _ (Or.inr (by decide))]; exact ew7306
    have e7320 : I7312 (ad g 0) 4 = w7307 := by rw [eI7312, pp_ne _ _ (Or.inr (by decide))]; exact ew7307
    have e7321 : I7312 (ad g 0) 5 = w7308 := by rw [eI7312, pp_ne _ _ (Or.inr (by decide))]; exact ew7308
    have e7322 : I7312 (ad g 0) 7 = v7311 := by rw [eI7312, pp_self]
    have fr7323 : fz 49 g [0] I I7312 := by rw [eI7312]; exact fzm_pp hy fr0 (by decide) (by decide)
    clear eI7312
    refine WP_aload_n dX11_known_24 rfl ?_
    refine WQ_getim dX11_known_25 fX11_56 rfl (ly_is hy 0 11 rfl) e7322 ?_
    refine WQ_iconst (-1) (-1) dX11_known_28 rfl rfl (fun v7324 hv7324 => ?_)
    refine WQ_icmp_ne 38 dX11_known_29 rfl (fun c7324 => ?_) (fun c7324 => ?_)
    · refine WP_aload_n dX11_known_38 rfl ?_
      refine WP_callV0 (k := 11) dX11_known_39 ⟨⟨⟨by decide, by decide⟩, zX11_scan⟩, lX11_63, by decide, rfl, vX11_scan.1, vX11_scan.2⟩ (ly_is hy 0 11 rfl) (sm_scanx hy hr hI7312   (by rw [e7320, e7318]; omega)) (Nat.le_of_ble_eq_true rfl) ?_
      intro r I7326 J7327 Ra hq
      obtain ⟨⟨hI7326, ec, fiI7326, ⟨pI7326, sI7326_0_7, sI7326_0_15, sI7326_0_16, sI7326_0_17, sI7326_0_18⟩⟩, rfl⟩ := hq
      rw [ec]
      clear ec Ra
      have fr7328 : fz 49 g [0] I I7326 := fz_tr fr7323 (fz_mono fiI7326 (by decide))
      have e7329 : I7326 (ad g 0) 7 = v7311 := by rw [sI7326_0_7]; exact e7322
      have e7330 : I7326 (ad g 0) 15 = w7301 := by rw [sI7326_0_15]; exact e7314
      have e7331 : I7326 (ad g 0) 16 = w7302 := by rw [sI7326_0_16]; exact e7315
      have e7332 : I7326 (ad g 0) 17 = w7303 := by rw [sI7326_0_17]; exact e7316
      have e7333 : I7326 (ad g 0) 18 = w7304 := by rw [sI7326_0_18]; exact e7317
      have e7334 : I7326 (ad g 0) 1 = L := hI7326.1.2
      have b7335 := BT_get hI7326.1.1 0 1 2 (0) (0) (900) (by decide) 1 (by decide) (by decide)
      rw [e7334] at b7335
      obtain ⟨w7336, ew7336⟩ : ∃ w : Int32, I7326 (ad g 0) 2 = w := ⟨_, rfl⟩
      have bw7336 := BT_get hI7326.1.1 0 2 3 (0) (0) (900) (by decide) 2 (by decide) (by decide)
      rw [ew7336] at bw7336
      obtain ⟨w7337, ew7337⟩ : ∃ w : Int32, I7326 (ad g 0) 3 = w := ⟨_, rfl⟩
      have bw7337 := BT_get hI7326.1.1 0 3 4 (0) (0) (900) (by decide) 3 (by decide) (by decide)
      rw [ew7337] at bw7337
      obtain ⟨w7338, ew7338⟩ : ∃ w : Int32, I7326 (ad g 0) 4 = w := ⟨_, rfl⟩
      have bw7338 := BT_get hI7326.1.1 0 4 5 (0) (0) (900) (by decide) 4 (by decide) (by decide)
      rw [ew7338] at bw7338
      obtain ⟨w7339, ew7339⟩ : ∃ w : Int32, I7326 (ad g 0) 5 = w := ⟨_, rfl⟩
      have bw7339 := BT_get hI7326.1.1 0 5 6 (0) (0) (4) (by decide) 5 (by decide) (by decide)
      rw [ew7339] at bw7339
      rw [ew7336, ew7337, ew7338, ew7339, e7320] at pI7326
      refine WQ_iconst (1) (1) dX11_known_42 rfl rfl (fun v7340 hv7340 => ?_)
      exact WP_zret dX11_known_43 rfl (nar_z (by omega)) ⟨⟨hI7326, rfl, fr7328, ⟨(by rw [ew7336, ew7337, ew7338, ew7339, ew7306]; omega), (by rw [e7330, ew7301] <;> exact (eq32 _ _).mpr (by omega)), (by rw [e7331, ew7302] <;> exact (eq32 _ _).mpr (by omega)), (by rw [e7332, ew7303] <;> exact (eq32 _ _).mpr (by omega)), (by rw [e7333, ew7304] <;> exact (eq32 _ _).mpr (by omega))⟩⟩, _, rfl, by omega, by omega, by (try rw [e7329]); omega⟩
    · refine WP_aload_n dX11_known_32 rfl ?_
      refine WQ_iconst (5) (5) dX11_known_33 rfl rfl (fun v7341 hv7341 => ?_)
      refine WP_callV1 (k := 11) dX11_known_34 ⟨⟨⟨by decide, by decide⟩, zX11_bad⟩, lX11_49, by decide, rfl, vX11_bad.1, vX11_bad.2⟩ (ly_is hy 0 11 rfl) (sm_badx hy hr hI7312 v7341  (by rw [e7318, e7319, e7320, e7321]; omega)) (Nat.le_of_ble_eq_true rfl) ?_
      intro r I7342 J7343 Ra hq
      obtain ⟨⟨hI7342, ec, fiI7342, ⟨pI7342, sI7342_0_15, sI7342_0_16, sI7342_0_17, sI7342_0_18⟩⟩, v7344, rfl, av7344, bv7344⟩ := hq
      show WP _ _ _ _ (.int _ :: _) _ _ _ _
      rw [ec]
      clear ec Ra
      have fr7345 : fz 49 g [0] I I7342 := fz_tr fr7323 (fz_mono fiI7342 (by decide))
      have e7346 : I7342 (ad g 0) 15 = w7301 := by rw [sI7342_0_15]; exact e7314
      have e7347 : I7342 (ad g 0) 16 = w7302 := by rw [sI7342_0_16]; exact e7315
      have e7348 : I7342 (ad g 0) 17 = w7303 := by rw [sI7342_0_17]; exact e7316
      have e7349 : I7342 (ad g 0) 18 = w7304 := by rw [sI7342_0_18]; exact e7317
      have e7350 : I7342 (ad g 0) 1 = L := hI7342.1.2
      have b7351 := BT_get hI7342.1.1 0 1 2 (0) (0) (900) (by decide) 1 (by decide) (by decide)
      rw [e7350] at b7351
      obtain ⟨w7352, ew7352⟩ : ∃ w : Int32, I7342 (ad g 0) 2 = w := ⟨_, rfl⟩
      have bw7352 := BT_get hI7342.1.1 0 2 3 (0) (0) (900) (by decide) 2 (by decide) (by decide)
      rw [ew7352] at bw7352
      obtain ⟨w7353, ew7353⟩ : ∃ w : Int32, I7342 (ad g 0) 3 = w := ⟨_, rfl⟩
      have bw7353 := BT_get hI7342.1.1 0 3 4 (0) (0) (900) (by decide) 3 (by decide) (by decide)
      rw [ew7353] at bw7353
      obtain ⟨w7354, ew7354⟩ : ∃ w : Int32, I7342 (ad g 0) 4 = w := ⟨_, rfl⟩
      have bw7354 := BT_get hI7342.1.1 0 4 5 (0) (0) (900) (by decide) 4 (by decide) (by decide)
      rw [ew7354] at bw7354
      obtain ⟨w7355, ew7355⟩ : ∃ w : Int32, I7342 (ad g 0) 5 = w := ⟨_, rfl⟩
      have bw7355 := BT_get hI7342.1.1 0 5 6 (0) (0) (4) (by decide) 5 (by decide) (by decide)
      rw [ew7355] at bw7355
      rw [ew7352, ew7353, ew7354, ew7355, e7319] at pI7342
      obtain ⟨w7356, ew7356⟩ : ∃ w : Int32, I7342 (ad g 0) 7 = w := ⟨_, rfl⟩
      have bw7356 := BT_get hI7342.1.1 0 7 8 (-1) (0) (1000) (by decide) 7 (by decide) (by decide)
      rw [ew7356] at bw7356
      exact WP_zret dX11_known_37 rfl (nar_z (by omega)) ⟨⟨hI7342, rfl, fr7345, ⟨(by rw [ew7352, ew7353, ew7354, ew7355, ew7306]; omega), (by rw [e7346, ew7301] <;> exact (eq32 _ _).mpr (by omega)), (by rw [e7347, ew7302] <;> exact (eq32 _ _).mpr (by omega)), (by rw [e7348, ew7303] <;> exact (eq32 _ _).mpr (by omega)), (by rw [e7349, ew7304] <;> exact (eq32 _ _).mpr (by omega))⟩⟩, _, rfl, by omega, by omega, by (try rw [ew7356]); omega⟩
  · refine WP_aload_n dX11_known_8 rfl ?_
    refine WQ_iconst (1) (1) dX11_known_9 rfl rfl (fun v7357 hv7357 => ?_)
    refine WP_callV1 (k := 11) dX11_known_10 ⟨⟨⟨by decide, by decide⟩, zX11_bad⟩, lX11_49, by decide, rfl, vX11_bad.1, vX11_bad.2⟩ (ly_is hy 0 11 rfl) (sm_badx hy hr hI v7357  (by rw [ew7305, ew7306, ew7307, ew7308]; omega)) (Nat.le_of_ble_eq_true rfl) ?_
    intro r I7358 J7359 Ra hq
    obtain ⟨⟨hI7358, ec, fiI7358, ⟨pI7358, sI7358_0_15, sI7358_0_16, sI7358_0_17, sI7358_0_18⟩⟩, v7360, rfl, av7360, bv7360⟩ := hq
    show WP _ _ _ _ (.int _ :: _) _ _ _ _
    rw [ec]
    clear ec Ra
    have fr7361 : fz 49 g [0] I I7358 := fz_tr fr0 (fz_mono fiI7358 (by decide))
    have e7362 : I7358 (ad g 0) 15 = w7301 := by rw [sI7358_0_15]; exact ew7301
    have e7363 : I7358 (ad g 0) 16 = w7302 := by rw [sI7358_0_16]; exact ew7302
    have e7364 : I7358 (ad g 0) 17 = w7303 := by rw [sI7358_0_17]; exact ew7303
    have e7365 : I7358 (ad g 0) 18 = w7304 := by rw [sI7358_0_18]; exact ew7304
    have e7366 : I7358 (ad g 0) 1 = L := hI7358.1.2
    have b7367 := BT_get hI7358.1.1 0 1 2 (0) (0) (900) (by decide) 1 (by decide) (by decide)
    rw [e7366] at b7367
    obtain ⟨w7368, ew7368⟩ : ∃ w : Int32, I7358 (ad g 0) 2 = w := ⟨_, rfl⟩
    have bw7368 := BT_get hI7358.1.1 0 2 3 (0) (0) (900) (by decide) 2 (by decide) (by decide)
    rw [ew7368] at bw7368
    obtain ⟨w7369, ew7369⟩ : ∃ w : Int32, I7358 (ad g 0) 3 = w := ⟨_, rfl⟩
    have bw7369 := BT_get hI7358.1.1 0 3 4 (0) (0) (900) (by decide) 3 (by decide) (by decide)
    rw [ew7369] at bw7369
    obtain ⟨w7370, ew7370⟩ : ∃ w : Int32, I7358 (ad g 0) 4 = w := ⟨_, rfl⟩
    have bw7370 := BT_get hI7358.1.1 0 4 5 (0) (0) (900) (by decide) 4 (by decide) (by decide)
    rw [ew7370] at bw7370
    obtain ⟨w7371, ew7371⟩ : ∃ w : Int32, I7358 (ad g 0) 5 = w := ⟨_, rfl⟩
    have bw7371 := BT_get hI7358.1.1 0 5 6 (0) (0) (4) (by decide) 5 (by decide) (by decide)
    rw [ew7371] at bw7371
    rw [ew7368, ew7369, ew7370, ew7371, ew7306] at pI7358
    obtain ⟨w7372, ew7372⟩ : ∃ w : Int32, I7358 (ad g 0) 7 = w := ⟨_, rfl⟩
    have bw7372 := BT_get hI7358.1.1 0 7 8 (-1) (0) (1000) (by decide) 7 (by decide) (by decide)
    rw [ew7372] at bw7372
    exact WP_zret dX11_known_13 rfl (nar_z (by omega)) ⟨⟨hI7358, rfl, fr7361, ⟨(by rw [ew7368, ew7369, ew7370, ew7371, ew7306]; omega), (by rw [e7362, ew7301] <;> exact (eq32 _ _).mpr (by omega)), (by rw [e7363, ew7302] <;> exact (eq32 _ _).mpr (by omega)), (by rw [e7364, ew7303] <;> exact (eq32 _ _).mpr (by omega)), (by rw [e7365, ew7304] <;> exact (eq32 _ _).mpr (by omega))⟩⟩, _, rfl, by omega, by omega, by (try rw [ew7372]); omega⟩
set_option maxHeartbeats 4000000 in
set_option maxRecDepth 100000 in
theorem sm_knownx_3 {g : GG} {n : Int} {L : Int32} (hy : Ly g)  {I : pI} {J : pJ} {R : pR} (hr : Rf g R) (hI : MP g n L I) (ma : Int32) (ma_lo : 0 ≤ ma.toInt) (ma_hi : ma.toInt ≤ 3) (hb : ((I (ad g 0) 4).toInt ≤ (I (ad g 0) 2).toInt ∧ (I (ad g 0) 3).toInt ≤ (I (ad g 0) 4).toInt ∧ ((I (ad g 0) 5).toInt = 0 ∨ (I (ad g 0) 3).toInt < (I (ad g 0) 4).toInt))) : SP g mX11_known [.ref (ad g 0), .ref (ad g 3), .int ma] I J R (fun r I' J' R' => (MP g n L I' ∧ R' = R ∧ fz 49 g [0] I I' ∧ (((I' (ad g 0) 4).toInt ≤ (I' (ad g 0) 2).toInt ∧ (I' (ad g 0) 3).toInt ≤ (I' (ad g 0) 4).toInt ∧ ((I' (ad g 0) 5).toInt = 0 ∨ (I' (ad g 0) 3).toInt < (I' (ad g 0) 4).toInt)) ∧ (I (ad g 0) 3).toInt ≤ (I' (ad g 0) 3).toInt) ∧ I' (ad g 0) 15 = I (ad g 0) 15 ∧ I' (ad g 0) 16 = I (ad g 0) 16 ∧ I' (ad g 0) 17 = I (ad g 0) 17 ∧ I' (ad g 0) 18 = I (ad g 0) 18) ∧ ∃ v : Int32, r = some (.int v) ∧ 0 ≤ v.toInt ∧ v.toInt ≤ 1 ∧ (v.toInt = 1 → 0 ≤ (I' (ad g 0) 7).toInt ∧ (I' (ad g 0) 7).toInt ≤ 2 ∧ (I' (ad g 0) 7).toInt < ma.toInt)) := by
  refine SP_of ⟨by decide, rfl⟩ (Nat.le_of_ble_eq_true rfl) ?_
  have e7373 : I (ad g 0) 1 = L := hI.1.2
  have b7374 := BT_get hI.1.1 0 1 2 (0) (0) (900) (by decide) 1 (by decide) (by decide)
  rw [e7373] at b7374
  have fr0 : fz 49 g [0] I I := fz_rf
  obtain ⟨w7375, ew7375⟩ : ∃ w : Int32, I (ad g 0) 15 = w := ⟨_, rfl⟩
  have bw7375 := BT_get hI.1.1 0 15 16 (0) (0) (4) (by decide) 15 (by decide) (by decide)
  rw [ew7375] at bw7375
  obtain ⟨w7376, ew7376⟩ : ∃ w : Int32, I (ad g 0) 16 = w := ⟨_, rfl⟩
  have bw7376 := BT_get hI.1.1 0 16 17 (0) (0) (3) (by decide) 16 (by decide) (by decide)
  rw [ew7376] at bw7376
  obtain ⟨w7377, ew7377⟩ : ∃ w : Int32, I (ad g 0) 17 = w := ⟨_, rfl⟩
  have bw7377 := BT_get hI.1.1 0 17 18 (-1) (0) (3) (by decide) 17 (by decide) (by decide)
  rw [ew7377] at bw7377
  obtain ⟨w7378, ew7378⟩ : ∃ w : Int32, I (ad g 0) 18 = w := ⟨_, rfl⟩
  have bw7378 := BT_get hI.1.1 0 18 19 (-1) (0) (2) (by decide) 18 (by decide) (by decide)
  rw [ew7378] at bw7378
  obtain ⟨w7379, ew7379⟩ : ∃ w : Int32, I (ad g 0) 2 = w := ⟨_, rfl⟩
  have bw7379 := BT_get hI.1.1 0 2 3 (0) (0) (900) (by decide) 2 (by decide) (by decide)
  rw [ew7379] at bw7379
  obtain ⟨w7380, ew7380⟩ : ∃ w : Int32, I (ad g 0) 3 = w := ⟨_, rfl⟩
  have bw7380 := BT_get hI.1.1 0 3 4 (0) (0) (900) (by decide) 3 (by decide) (by decide)
  rw [ew7380] at bw7380
  obtain ⟨w7381, ew7381⟩ : ∃ w : Int32, I (ad g 0) 4 = w := ⟨_, rfl⟩
  have bw7381 := BT_get hI.1.1 0 4 5 (0) (0) (900) (by decide) 4 (by decide) (by decide)
  rw [ew7381] at bw7381
  obtain ⟨w7382, ew7382⟩ : ∃ w : Int32, I (ad g 0) 5 = w := ⟨_, rfl⟩
  have bw7382 := BT_get hI.1.1 0 5 6 (0) (0) (4) (by decide) 5 (by decide) (by decide)
  rw [ew7382] at bw7382
  rw [ew7379, ew7380, ew7381, ew7382] at hb
  refine WP_aload_n dX11_known_0 rfl ?_
  refine WQ_getim dX11_known_1 fX11_27 rfl (ly_is hy 0 11 rfl) ew7382 ?_
  refine WQ_iconst (1) (1) dX11_known_4 rfl rfl (fun v7383 hv7383 => ?_)
  refine WQ_icmp_eq 14 dX11_known_5 rfl (fun c7383 => ?_) (fun c7383 => ?_)
  · refine WP_aload_n dX11_known_14 rfl ?_
    refine WP_aload_n dX11_known_15 rfl ?_
    refine WP_aload_n dX11_known_16 rfl ?_
    refine WP_iload_n dX11_known_17 rfl ?_
    refine WP_callV2 (k := 11) dX11_known_18 ⟨⟨⟨by decide, by decide⟩, zX11_find⟩, lX11_71, by decide, rfl, vX11_find.1, vX11_find.2⟩ (ly_is hy 0 11 rfl) (sm_find_3 hy hr hI ma (by omega) (by omega)) (Nat.le_of_ble_eq_true rfl) ?_
    intro r Ia Ja Ra hq
    obtain ⟨⟨ea, eb, ec⟩, v7385, rfl, av7385, bv7385, cv7385⟩ := hq
    show WP _ _ _ _ (.int _ :: _) _ _ _ _
    rw [ea, eb, ec]
    clear ea eb ec Ia Ja Ra
    refine WQ_puti dX11_known_21 fX11_56 rfl rfl (ly_is hy 0 11 rfl) (fun I7386 eI7386 => ?_)
    have hI7386 : MP g n L I7386 := by rw [eI7386]; exact (mp_w hy hI (c := 0) (mi_f hy hI.1 (c := 0) (-1) (0) (1000) (by decide) (Or.inr (by decide)) (by decide) (by omega) (by omega)) (by decide) (by decide) (Or.inr (by decide)))
    have e7387 : I7386 (ad g 0) 1 = L := by rw [eI7386, pp_ne _ _ (Or.inr (by decide))]; exact e7373
    have e7388 : I7386 (ad g 0) 15 = w7375 := by rw [eI7386, pp_ne _ _ (Or.inr (by decide))]; exact ew7375
    have e7389 : I7386 (ad g 0) 16 = w7376 := by rw [eI7386, pp_ne _ _ (Or.inr (by decide))]; exact ew7376
    have e7390 : I7386 (ad g 0) 17 = w7377 := by rw [eI7386, pp_ne _ _ (Or.inr (by decide))]; exact ew7377
    have e7391 : I7386 (ad g 0) 18 = w7378 := by rw [eI7386, pp_ne _ _ (Or.inr (by decide))]; exact ew7378
    have e7392 : I7386 (ad g 0) 2 = w7379 := by rw [eI7386, pp_ne _ _ (Or.inr (by decide))]; exact ew7379
    have e7393 : I7386 (ad g 0) 3 = w7380 := by rw [eI7386, pp_ne _ _ (Or.inr (by decide))]; exact ew7380
    have e7394 : I7386 (ad g 0) 4 = w7381 := by rw [eI7386, pp_ne _ _ (Or.inr (by decide))]; exact ew7381
    have e7395 : I7386 (ad g 0) 5 = w7382 := by rw [eI7386, pp_ne _ _ (Or.inr (by decide))]; exact ew7382
    have e7396 : I7386 (ad g 0) 7 = v7385 := by rw [eI7386, pp_self]
    have fr7397 : fz 49 g [0] I I7386 := by rw [eI7386]; exact fzm_pp hy fr0 (by decide) (by decide)
    clear eI7386
    refine WP_aload_n dX11_known_24 rfl ?_
    refine WQ_getim dX11_known_25 fX11_56 rfl (ly_is hy 0 11 rfl) e7396 ?_
    refine WQ_iconst (-1) (-1) dX11_known_28 rfl rfl (fun v7398 hv7398 => ?_)
    refine WQ_icmp_ne 38 dX11_known_29 rfl (fun c7398 => ?_) (fun c7398 => ?_)
    · refine WP_aload_n dX11_known_38 rfl ?_
      refine WP_callV0 (k := 11) dX11_known_39 ⟨⟨⟨by decide, by decide⟩, zX11_scan⟩, lX11_63, by decide, rfl, vX11_scan.1, vX11_scan.2⟩ (ly_is hy 0 11 rfl) (sm_scanx hy hr hI7386   (by rw [e7394, e7392]; omega)) (Nat.le_of_ble_eq_true rfl) ?_
      intro r I7400 J7401 Ra hq
      obtain ⟨⟨hI7400, ec, fiI7400, ⟨pI7400, sI7400_0_7, sI7400_0_15, sI7400_0_16, sI7400_0_17, sI7400_0_18⟩⟩, rfl⟩ := hq
      rw [ec]
      clear ec Ra
      have fr7402 : fz 49 g [0] I I7400 := fz_tr fr7397 (fz_mono fiI7400 (by decide))
      have e7403 : I7400 (ad g 0) 7 = v7385 := by rw [sI7400_0_7]; exact e7396
      have e7404 : I7400 (ad g 0) 15 = w7375 := by rw [sI7400_0_15]; exact e7388
      have e7405 : I7400 (ad g 0) 16 = w7376 := by rw [sI7400_0_16]; exact e7389
      have e7406 : I7400 (ad g 0) 17 = w7377 := by rw [sI7400_0_17]; exact e7390
      have e7407 : I7400 (ad g 0) 18 = w7378 := by rw [sI7400_0_18]; exact e7391
      have e7408 : I7400 (ad g 0) 1 = L := hI7400.1.2
      have b7409 := BT_get hI7400.1.1 0 1 2 (0) (0) (900) (by decide) 1 (by decide) (by decide)
      rw [e7408] at b7409
      obtain ⟨w7410, ew7410⟩ : ∃ w : Int32, I7400 (ad g 0) 2 = w := ⟨_, rfl⟩
      have bw7410 := BT_get hI7400.1.1 0 2 3 (0) (0) (900) (by decide) 2 (by decide) (by decide)
      rw [ew7410] at bw7410
      obtain ⟨w7411, ew7411⟩ : ∃ w : Int32, I7400 (ad g 0) 3 = w := ⟨_, rfl⟩
      have bw7411 := BT_get hI7400.1.1 0 3 4 (0) (0) (900) (by decide) 3 (by decide) (by decide)
      rw [ew7411] at bw7411
      obtain ⟨w7412, ew7412⟩ : ∃ w : Int32, I7400 (ad g 0) 4 = w := ⟨_, rfl⟩
      have bw7412 := BT_get hI7400.1.1 0 4 5 (0) (0) (900) (by decide) 4 (by decide) (by decide)
      rw [ew7412] at bw7412
      obtain ⟨w7413, ew7413⟩ : ∃ w : Int32, I7400 (ad g 0) 5 = w := ⟨_, rfl⟩
      have bw7413 := BT_get hI7400.1.1 0 5 6 (0) (0) (4) (by decide) 5 (by decide) (by decide)
      rw [ew7413] at bw7413
      rw [ew7410, ew7411, ew7412, ew7413, e7394] at pI7400
      refine WQ_iconst (1) (1) dX11_known_42 rfl rfl (fun v7414 hv7414 => ?_)
      exact WP_zret dX11_known_43 rfl (nar_z (by omega)) ⟨⟨hI7400, rfl, fr7402, ⟨(by rw [ew7410, ew7411, ew7412, ew7413, ew7380]; omega), (by rw [e7404, ew7375] <;> exact (eq32 _ _).mpr (by omega)), (by rw [e7405, ew7376] <;> exact (eq32 _ _).mpr (by omega)), (by rw [e7406, ew7377] <;> exact (eq32 _ _).mpr (by omega)), (by rw [e7407, ew7378] <;> exact (eq32 _ _).mpr (by omega))⟩⟩, _, rfl, by omega, by omega, by (try rw [e7403]); omega⟩
    · refine WP_aload_n dX11_known_32 rfl ?_
      refine WQ_iconst (5) (5) dX11_known_33 rfl rfl (fun v7415 hv7415 => ?_)
      refine WP_callV1 (k := 11) dX11_known_34 ⟨⟨⟨by decide, by decide⟩, zX11_bad⟩, lX11_49, by decide, rfl, vX11_bad.1, vX11_bad.2⟩ (ly_is hy 0 11 rfl) (sm_badx hy hr hI7386 v7415  (by rw [e7392, e7393, e7394, e7395]; omega)) (Nat.le_of_ble_eq_true rfl) ?_
      intro r I7416 J7417 Ra hq
      obtain ⟨⟨hI7416, ec, fiI7416, ⟨pI7416, sI7416_0_15, sI7416_0_16, sI7416_0_17, sI7416_0_18⟩⟩, v7418, rfl, av7418, bv7418⟩ := hq
      show WP _ _ _ _ (.int _ :: _) _ _ _ _
      rw [ec]
      clear ec Ra
      have fr7419 : fz 49 g [0] I I7416 := fz_tr fr7397 (fz_mono fiI7416 (by decide))
      have e7420 : I7416 (ad g 0) 15 = w7375 := by rw [sI7416_0_15]; exact e7388
      have e7421 : I7416 (ad g 0) 16 = w7376 := by rw [sI7416_0_16]; exact e7389
      have e7422 : I7416 (ad g 0) 17 = w7377 := by rw [sI7416_0_17]; exact e7390
      have e7423 : I7416 (ad g 0) 18 = w7378 := by rw [sI7416_0_18]; exact e7391
      have e7424 : I7416 (ad g 0) 1 = L := hI7416.1.2
      have b7425 := BT_get hI7416.1.1 0 1 2 (0) (0) (900) (by decide) 1 (by decide) (by decide)
      rw [e7424] at b7425
      obtain ⟨w7426, ew7426⟩ : ∃ w : Int32, I7416 (ad g 0) 2 = w := ⟨_, rfl⟩
      have bw7426 := BT_get hI7416.1.1 0 2 3 (0) (0) (900) (by decide) 2 (by decide) (by decide)
      rw [ew7426] at bw7426
      obtain ⟨w7427, ew7427⟩ : ∃ w : Int32, I7416 (ad g 0) 3 = w := ⟨_, rfl⟩
      have bw7427 := BT_get hI7416.1.1 0 3 4 (0) (0) (900) (by decide) 3 (by decide) (by decide)
      rw [ew7427] at bw7427
      obtain ⟨w7428, ew7428⟩ : ∃ w : Int32, I7416 (ad g 0) 4 = w := ⟨_, rfl⟩
      have bw7428 := BT_get hI7416.1.1 0 4 5 (0) (0) (900) (by decide) 4 (by decide) (by decide)
      rw [ew7428] at bw7428
      obtain ⟨w7429, ew7429⟩ : ∃ w : Int32, I7416 (ad g 0) 5 = w := ⟨_, rfl⟩
      have bw7429 := BT_get hI7416.1.1 0 5 6 (0) (0) (4) (by decide) 5 (by decide) (by decide)
      rw [ew7429] at bw7429
      rw [ew7426, ew7427, ew7428, ew7429, e7393] at pI7416
      obtain ⟨w7430, ew7430⟩ : ∃ w : Int32, I7416 (ad g 0) 7 = w := ⟨_, rfl⟩
      have bw7430 := BT_get hI7416.1.1 0 7 8 (-1) (0) (1000) (by decide) 7 (by decide) (by decide)
      rw [ew7430] at bw7430
      exact WP_zret dX11_known_37 rfl (nar_z (by omega)) ⟨⟨hI7416, rfl, fr7419, ⟨(by rw [ew7426, ew7427, ew7428, ew7429, ew7380]; omega), (by rw [e7420, ew7375] <;> exact (eq32 _ _).mpr (by omega)), (by rw [e7421, ew7376] <;> exact (eq32 _ _).mpr (by omega)), (by rw [e7422, ew7377] <;> exact (eq32 _ _).mpr (by omega)), (by rw [e7423, ew7378] <;> exact (eq32 _ _).mpr (by omega))⟩⟩, _, rfl, by omega, by omega, by (try rw [ew7430]); omega⟩
  · refine WP_aload_n dX11_known_8 rfl ?_
    refine WQ_iconst (1) (1) dX11_known_9 rfl rfl (fun v7431 hv7431 => ?_)
    refine WP_callV1 (k := 11) dX11_known_10 ⟨⟨⟨by decide, by decide⟩, zX11_bad⟩, lX11_49, by decide, rfl, vX11_bad.1, vX11_bad.2⟩ (ly_is hy 0 11 rfl) (sm_badx hy hr hI v7431  (by rw [ew7379, ew7380, ew7381, ew7382]; omega)) (Nat.le_of_ble_eq_true rfl) ?_
    intro r I7432 J7433 Ra hq
    obtain ⟨⟨hI7432, ec, fiI7432, ⟨pI7432, sI7432_0_15, sI7432_0_16, sI7432_0_17, sI7432_0_18⟩⟩, v7434, rfl, av7434, bv7434⟩ := hq
    show WP _ _ _ _ (.int _ :: _) _ _ _ _
    rw [ec]
    clear ec Ra
    have fr7435 : fz 49 g [0] I I7432 := fz_tr fr0 (fz_mono fiI7432 (by decide))
    have e7436 : I7432 (ad g 0) 15 = w7375 := by rw [sI7432_0_15]; exact ew7375
    have e7437 : I7432 (ad g 0) 16 = w7376 := by rw [sI7432_0_16]; exact ew7376
    have e7438 : I7432 (ad g 0) 17 = w7377 := by rw [sI7432_0_17]; exact ew7377
    have e7439 : I7432 (ad g 0) 18 = w7378 := by rw [sI7432_0_18]; exact ew7378
    have e7440 : I7432 (ad g 0) 1 = L := hI7432.1.2
    have b7441 := BT_get hI7432.1.1 0 1 2 (0) (0) (900) (by decide) 1 (by decide) (by decide)
    rw [e7440] at b7441
    obtain ⟨w7442, ew7442⟩ : ∃ w : Int32, I7432 (ad g 0) 2 = w := ⟨_, rfl⟩
    have bw7442 := BT_get hI7432.1.1 0 2 3 (0) (0) (900) (by decide) 2 (by decide) (by decide)
    rw [ew7442] at bw7442
    obtain ⟨w7443, ew7443⟩ : ∃ w : Int32, I7432 (ad g 0) 3 = w := ⟨_, rfl⟩
    have bw7443 := BT_get hI7432.1.1 0 3 4 (0) (0) (900) (by decide) 3 (by decide) (by decide)
    rw [ew7443] at bw7443
    obtain ⟨w7444, ew7444⟩ : ∃ w : Int32, I7432 (ad g 0) 4 = w := ⟨_, rfl⟩
    have bw7444 := BT_get hI7432.1.1 0 4 5 (0) (0) (900) (by decide) 4 (by decide) (by decide)
    rw [ew7444] at bw7444
    obtain ⟨w7445, ew7445⟩ : ∃ w : Int32, I7432 (ad g 0) 5 = w := ⟨_, rfl⟩
    have bw7445 := BT_get hI7432.1.1 0 5 6 (0) (0) (4) (by decide) 5 (by decide) (by decide)
    rw [ew7445] at bw7445
    rw [ew7442, ew7443, ew7444, ew7445, ew7380] at pI7432
    obtain ⟨w7446, ew7446⟩ : ∃ w : Int32, I7432 (ad g 0) 7 = w := ⟨_, rfl⟩
    have bw7446 := BT_get hI7432.1.1 0 7 8 (-1) (0) (1000) (by decide) 7 (by decide) (by decide)
    rw [ew7446] at bw7446
    exact WP_zret dX11_known_13 rfl (nar_z (by omega)) ⟨⟨hI7432, rfl, fr7435, ⟨(by rw [ew7442, ew7443, ew7444, ew7445, ew7380]; omega), (by rw [e7436, ew7375] <;> exact (eq32 _ _).mpr (by omega)), (by rw [e7437, ew7376] <;> exact (eq32 _ _).mpr (by omega)), (by rw [e7438, ew7377] <;> exact (eq32 _ _).mpr (by omega)), (by rw [e7439, ew7378] <;> exact (eq32 _ _).mpr (by omega))⟩⟩, _, rfl, by omega, by omega, by (try rw [ew7446]); omega⟩
set_option maxHeartbeats 4000000 in
set_option maxRecDepth 100000 in
theorem sm_knownx_4 {g : GG} {n : Int} {L : Int32} (hy : Ly g)  {I : pI} {J : pJ} {R : pR} (hr : Rf g R) (hI : MP g n L I) (ma : Int32) (ma_lo : 0 ≤ ma.toInt) (ma_hi : ma.toInt ≤ 4) (hb : ((I (ad g 0) 4).toInt ≤ (I (ad g 0) 2).toInt ∧ (I (ad g 0) 3).toInt ≤ (I (ad g 0) 4).toInt ∧ ((I (ad g 0) 5).toInt = 0 ∨ (I (ad g 0) 3).toInt < (I (ad g 0) 4).toInt))) : SP g mX11_known [.ref (ad g 0), .ref (ad g 4), .int ma] I J R (fun r I' J' R' => (MP g n L I' ∧ R' = R ∧ fz 49 g [0] I I' ∧ (((I' (ad g 0) 4).toInt ≤ (I' (ad g 0) 2).toInt ∧ (I' (ad g 0) 3).toInt ≤ (I' (ad g 0) 4).toInt ∧ ((I' (ad g 0) 5).toInt = 0 ∨ (I' (ad g 0) 3).toInt < (I' (ad g 0) 4).toInt)) ∧ (I (ad g 0) 3).toInt ≤ (I' (ad g 0) 3).toInt) ∧ I' (ad g 0) 15 = I (ad g 0) 15 ∧ I' (ad g 0) 16 = I (ad g 0) 16 ∧ I' (ad g 0) 17 = I (ad g 0) 17 ∧ I' (ad g 0) 18 = I (ad g 0) 18) ∧ ∃ v : Int32, r = some (.int v) ∧ 0 ≤ v.toInt ∧ v.toInt ≤ 1 ∧ (v.toInt = 1 → 0 ≤ (I' (ad g 0) 7).toInt ∧ (I' (ad g 0) 7).toInt ≤ 3 ∧ (I' (ad g 0) 7).toInt < ma.toInt)) := by
  refine SP_of ⟨by decide, rfl⟩ (Nat.le_of_ble_eq_true rfl) ?_
  have e7447 : I (ad g 0) 1 = L := hI.1.2
  have b7448 := BT_get hI.1.1 0 1 2 (0) (0) (900) (by decide) 1 (by decide) (by decide)
  rw [e7447] at b7448
  have fr0 : fz 49 g [0] I I := fz_rf
  obtain ⟨w7449, ew7449⟩ : ∃ w : Int32, I (ad g 0) 15 = w := ⟨_, rfl⟩
  have bw7449 := BT_get hI.1.1 0 15 16 (0) (0) (4) (by decide) 15 (by decide) (by decide)
  rw [ew7449] at bw7449
  obtain ⟨w7450, ew7450⟩ : ∃ w : Int32, I (ad g 0) 16 = w := ⟨_, rfl⟩
  have bw7450 := BT_get hI.1.1 0 16 17 (0) (0) (3) (by decide) 16 (by decide) (by decide)
  rw [ew7450] at bw7450
  obtain ⟨w7451, ew7451⟩ : ∃ w : Int32, I (ad g 0) 17 = w := ⟨_, rfl⟩
  have bw7451 := BT_get hI.1.1 0 17 18 (-1) (0) (3) (by decide) 17 (by decide) (by decide)
  rw [ew7451] at bw7451
  obtain ⟨w7452, ew7452⟩ : ∃ w : Int32, I (ad g 0) 18 = w := ⟨_, rfl⟩
  have bw7452 := BT_get hI.1.1 0 18 19 (-1) (0) (2) (by decide) 18 (by decide) (by decide)
  rw [ew7452] at bw7452
  obtain ⟨w7453, ew7453⟩ : ∃ w : Int32, I (ad g 0) 2 = w := ⟨_, rfl⟩
  have bw7453 := BT_get hI.1.1 0 2 3 (0) (0) (900) (by decide) 2 (by decide) (by decide)
  rw [ew7453] at bw7453
  obtain ⟨w7454, ew7454⟩ : ∃ w : Int32, I (ad g 0) 3 = w := ⟨_, rfl⟩
  have bw7454 := BT_get hI.1.1 0 3 4 (0) (0) (900) (by decide) 3 (by decide) (by decide)
  rw [ew7454] at bw7454
  obtain ⟨w7455, ew7455⟩ : ∃ w : Int32, I (ad g 0) 4 = w := ⟨_, rfl⟩
  have bw7455 := BT_get hI.1.1 0 4 5 (0) (0) (900) (by decide) 4 (by decide) (by decide)
  rw [ew7455] at bw7455
  obtain ⟨w7456, ew7456⟩ : ∃ w : Int32, I (ad g 0) 5 = w := ⟨_, rfl⟩
  have bw7456 := BT_get hI.1.1 0 5 6 (0) (0) (4) (by decide) 5 (by decide) (by decide)
  rw [ew7456] at bw7456
  rw [ew7453, ew7454, ew7455, ew7456] at hb
  refine WP_aload_n dX11_known_0 rfl ?_
  refine WQ_getim dX11_known_1 fX11_27 rfl (ly_is hy 0 11 rfl) ew7456 ?_
  refine WQ_iconst (1) (1) dX11_known_4 rfl rfl (fun v7457 hv7457 => ?_)
  refine WQ_icmp_eq 14 dX11_known_5 rfl (fun c7457 => ?_) (fun c7457 => ?_)
  · refine WP_aload_n dX11_known_14 rfl ?_
    refine WP_aload_n dX11_known_15 rfl ?_
    refine WP_aload_n dX11_known_16 rfl ?_
    refine WP_iload_n dX11_known_17 rfl ?_
    refine WP_callV2 (k := 11) dX11_known_18 ⟨⟨⟨by decide, by decide⟩, zX11_find⟩, lX11_71, by decide, rfl, vX11_find.1, vX11_find.2⟩ (ly_is hy 0 11 rfl) (sm_find_4 hy hr hI ma (by omega) (by omega)) (Nat.le_of_ble_eq_true rfl) ?_
    intro r Ia Ja Ra hq
    obtain ⟨⟨ea, eb, ec⟩, v7459, rfl, av7459, bv7459, cv7459⟩ := hq
    show WP _ _ _ _ (.int _ :: _) _ _ _ _
    rw [ea, eb, ec]
    clear ea eb ec Ia Ja Ra
    refine WQ_puti dX11_known_21 fX11_56 rfl rfl (ly_is hy 0 11 rfl) (fun I7460 eI7460 => ?_)
    have hI7460 : MP g n L I7460 := by rw [eI7460]; exact (mp_w hy hI (c := 0) (mi_f hy hI.1 (c := 0) (-1) (0) (1000) (by decide) (Or.inr (by decide)) (by decide) (by omega) (by omega)) (by decide) (by decide) (Or.inr (by decide)))
    have e7461 : I7460 (ad g 0) 1 = L := by rw [eI7460, pp_ne _ _ (Or.inr (by decide))]; exact e7447
    have e7462 : I7460 (ad g 0) 15 = w7449 := by rw [eI7460, pp_ne _ _ (Or.inr (by decide))]; exact ew7449
    have e7463 : I7460 (ad g 0) 16 = w7450 := by rw [eI7460, pp_ne _ _ (Or.inr (by decide))]; exact ew7450
    have e7464 : I7460 (ad g 0) 17 = w7451 := by rw [eI7460, pp_ne _ _ (Or.inr (by decide))]; exact ew7451
    have e7465 : I7460 (ad g 0) 18 = w7452 := by rw [eI7460, pp_ne _ _ (Or.inr (by decide))]; exact ew7452
    have e7466 : I7460 (ad g 0) 2 = w7453 := by rw [eI7460, pp_ne _ _ (Or.inr (by decide))]; exact ew7453
    have e7467 : I7460 (ad g 0) 3 = w7454 := by rw [eI7460, pp_ne _ _ (Or.inr (by decide))]; exact ew7454
    have e7468 : I7460 (ad g 0) 4 = w7455 := by rw [eI7460, pp_ne _ _ (Or.inr (by decide))]; exact ew7455
    have e7469 : I7460 (ad g 0) 5 = w7456 := by rw [eI7460, pp_ne _ _ (Or.inr (by decide))]; exact ew7456
    have e7470 : I7460 (ad g 0) 7 = v7459 := by rw [eI7460, pp_self]
    have fr7471 : fz 49 g [0] I I7460 := by rw [eI7460]; exact fzm_pp hy fr0 (by decide) (by decide)
    clear eI7460
    refine WP_aload_n dX11_known_24 rfl ?_
    refine WQ_getim dX11_known_25 fX11_56 rfl (ly_is hy 0 11 rfl) e7470 ?_
    refine WQ_iconst (-1) (-1) dX11_known_28 rfl rfl (fun v7472 hv7472 => ?_)
    refine WQ_icmp_ne 38 dX11_known_29 rfl (fun c7472 => ?_) (fun c7472 => ?_)
    · refine WP_aload_n dX11_known_38 rfl ?_
      refine WP_callV0 (k := 11) dX11_known_39 ⟨⟨⟨by decide, by decide⟩, zX11_scan⟩, lX11_63, by decide, rfl, vX11_scan.1, vX11_scan.2⟩ (ly_is hy 0 11 rfl) (sm_scanx hy hr hI7460   (by rw [e7468, e7466]; omega)) (Nat.le_of_ble_eq_true rfl) ?_
      intro r I7474 J7475 Ra hq
      obtain ⟨⟨hI7474, ec, fiI7474, ⟨pI7474, sI7474_0_7, sI7474_0_15, sI7474_0_16, sI7474_0_17, sI7474_0_18⟩⟩, rfl⟩ := hq
      rw [ec]
      clear ec Ra
      have fr7476 : fz 49 g [0] I I7474 := fz_tr fr7471 (fz_mono fiI7474 (by decide))
      have e7477 : I7474 (ad g 0) 7 = v7459 := by rw [sI7474_0_7]; exact e7470
      have e7478 : I7474 (ad g 0) 15 = w7449 := by rw [sI7474_0_15]; exact e7462
      have e7479 : I7474 (ad g 0) 16 = w7450 := by rw [sI7474_0_16]; exact e7463
      have e7480 : I7474 (ad g 0) 17 = w7451 := by rw [sI7474_0_17]; exact e7464
      have e7481 : I7474 (ad g 0) 18 = w7452 := by rw [sI7474_0_18]; exact e7465
      have e7482 : I7474 (ad g 0) 1 = L := hI7474.1.2
      have b7483 := BT_get hI7474.1.1 0 1 2 (0) (0) (900) (by decide) 1 (by decide) (by decide)
      rw [e7482] at b7483
      obtain ⟨w7484, ew7484⟩ : ∃ w : Int32, I7474 (ad g 0) 2 = w := ⟨_, rfl⟩
      have bw7484 := BT_get hI7474.1.1 0 2 3 (0) (0) (900) (by decide) 2 (by decide) (by decide)
      rw [ew7484] at bw7484
      obtain ⟨w7485, ew7485⟩ : ∃ w : Int32, I7474 (ad g 0) 3 = w := ⟨_, rfl⟩
      have bw7485 := BT_get hI7474.1.1 0 3 4 (0) (0) (900) (by decide) 3 (by decide) (by decide)
      rw [ew7485] at bw7485
      obtain ⟨w7486, ew7486⟩ : ∃ w : Int32, I7474 (ad g 0) 4 = w := ⟨_, rfl⟩
      have bw7486 := BT_get hI7474.1.1 0 4 5 (0) (0) (900) (by decide) 4 (by decide) (by decide)
      rw [ew7486] at bw7486
      obtain ⟨w7487, ew7487⟩ : ∃ w : Int32, I7474 (ad g 0) 5 = w := ⟨_, rfl⟩
      have bw7487 := BT_get hI7474.1.1 0 5 6 (0) (0) (4) (by decide) 5 (by decide) (by decide)
      rw [ew7487] at bw7487
      rw [ew7484, ew7485, ew7486, ew7487, e7468] at pI7474
      refine WQ_iconst (1) (1) dX11_known_42 rfl rfl (fun v7488 hv7488 => ?_)
      exact WP_zret dX11_known_43 rfl (nar_z (by omega)) ⟨⟨hI7474, rfl, fr7476, ⟨(by rw [ew7484, ew7485, ew7486, ew7487, ew7454]; omega), (by rw [e7478, ew7449] <;> exact (eq32 _ _).mpr (by omega)), (by rw [e7479, ew7450] <;> exact (eq32 _ _).mpr (by omega)), (by rw [e7480, ew7451] <;> exact (eq32 _ _).mpr (by omega)), (by rw [e7481, ew7452] <;> exact (eq32 _ _).mpr (by omega))⟩⟩, _, rfl, by omega, by omega, by (try rw [e7477]); omega⟩
    · refine WP_aload_n dX11_known_32 rfl ?_
      refine WQ_iconst (5) (5) dX11_known_33 rfl rfl (fun v7489 hv7489 => ?_)
      refine WP_callV1 (k := 11) dX11_known_34 ⟨⟨⟨by decide, by decide⟩, zX11_bad⟩, lX11_49, by decide, rfl, vX11_bad.1, vX11_bad.2⟩ (ly_is hy 0 11 rfl) (sm_badx hy hr hI7460 v7489  (by rw [e7466, e7467, e7468, e7469]; omega)) (Nat.le_of_ble_eq_true rfl) ?_
      intro r I7490 J7491 Ra hq
      obtain ⟨⟨hI7490, ec, fiI7490, ⟨pI7490, sI7490_0_15, sI7490_0_16, sI7490_0_17, sI7490_0_18⟩⟩, v7492, rfl, av7492, bv7492⟩ := hq
      show WP _ _ _ _ (.int _ :: _) _ _ _ _
      rw [ec]
      clear ec Ra
      have fr7493 : fz 49 g [0] I I7490 := fz_tr fr7471 (fz_mono fiI7490 (by decide))
      have e7494 : I7490 (ad g 0) 15 = w7449 := by rw [sI7490_0_15]; exact e7462
      have e7495 : I7490 (ad g 0) 16 = w7450 := by rw [sI7490_0_16]; exact e7463
      have e7496 : I7490 (ad g 0) 17 = w7451 := by rw [sI7490_0_17]; exact e7464
      have e7497 : I7490 (ad g 0) 18 = w7452 := by rw [sI7490_0_18]; exact e7465
      have e7498 : I7490 (ad g 0) 1 = L := hI7490.1.2
      have b7499 := BT_get hI7490.1.1 0 1 2 (0) (0) (900) (by decide) 1 (by decide) (by decide)
      rw [e7498] at b7499
      obtain ⟨w7500, ew7500⟩ : ∃ w : Int32, I7490 (ad g 0) 2 = w := ⟨_, rfl⟩
      have bw7500 := BT_get hI7490.1.1 0 2 3 (0) (0) (900) (by decide) 2 (by decide) (by decide)
      rw [ew7500] at bw7500
      obtain ⟨w7501, ew7501⟩ : ∃ w : Int32, I7490 (ad g 0) 3 = w := ⟨_, rfl⟩
      have bw7501 := BT_get hI7490.1.1 0 3 4 (0) (0) (900) (by decide) 3 (by decide) (by decide)
      rw [ew7501] at bw7501
      obtain ⟨w7502, ew7502⟩ : ∃ w : Int32, I7490 (ad g 0) 4 = w := ⟨_, rfl⟩
      have bw7502 := BT_get hI7490.1.1 0 4 5 (0) (0) (900) (by decide) 4 (by decide) (by decide)
      rw [ew7502] at bw7502
      obtain ⟨w7503, ew7503⟩ : ∃ w : Int32, I7490 (ad g 0) 5 = w := ⟨_, rfl⟩
      have bw7503 := BT_get hI7490.1.1 0 5 6 (0) (0) (4) (by decide) 5 (by decide) (by decide)
      rw [ew7503] at bw7503
      rw [ew7500, ew7501, ew7502, ew7503, e7467] at pI7490
      obtain ⟨w7504, ew7504⟩ : ∃ w : Int32, I7490 (ad g 0) 7 = w := ⟨_, rfl⟩
      have bw7504 := BT_get hI7490.1.1 0 7 8 (-1) (0) (1000) (by decide) 7 (by decide) (by decide)
      rw [ew7504] at bw7504
      exact WP_zret dX11_known_37 rfl (nar_z (by omega)) ⟨⟨hI7490, rfl, fr7493, ⟨(by rw [ew7500, ew7501, ew7502, ew7503, ew7454]; omega), (by rw [e7494, ew7449] <;> exact (eq32 _ _).mpr (by omega)), (by rw [e7495, ew7450] <;> exact (eq32 _ _).mpr (by omega)), (by rw [e7496, ew7451] <;> exact (eq32 _ _).mpr (by omega)), (by rw [e7497, ew7452] <;> exact (eq32 _ _).mpr (by omega))⟩⟩, _, rfl, by omega, by omega, by (try rw [ew7504]); omega⟩
  · refine WP_aload_n dX11_known_8 rfl ?_
    refine WQ_iconst (1) (1) dX11_known_9 rfl rfl (fun v7505 hv7505 => ?_)
    refine WP_callV1 (k := 11) dX11_known_10 ⟨⟨⟨by decide, by decide⟩, zX11_bad⟩, lX11_49, by decide, rfl, vX11_bad.1, vX11_bad.2⟩ (ly_is hy 0 11 rfl) (sm_badx hy hr hI v7505  (by rw [ew7453, ew7454, ew7455, ew7456]; omega)) (Nat.le_of_ble_eq_true rfl) ?_
    intro r I7506 J7507 Ra hq
    obtain ⟨⟨hI7506, ec, fiI7506, ⟨pI7506, sI7506_0_15, sI7506_0_16, sI7506_0_17, sI7506_0_18⟩⟩, v7508, rfl, av7508, bv7508⟩ := hq
    show WP _ _ _ _ (.int _ :: _) _ _ _ _
    rw [ec]
    clear ec Ra
    have fr7509 : fz 49 g [0] I I7506 := fz_tr fr0 (fz_mono fiI7506 (by decide))
    have e7510 : I7506 (ad g 0) 15 = w7449 := by rw [sI7506_0_15]; exact ew7449
    have e7511 : I7506 (ad g 0) 16 = w7450 := by rw [sI7506_0_16]; exact ew7450
    have e7512 : I7506 (ad g 0) 17 = w7451 := by rw [sI7506_0_17]; exact ew7451
    have e7513 : I7506 (ad g 0) 18 = w7452 := by rw [sI7506_0_18]; exact ew7452
    have e7514 : I7506 (ad g 0) 1 = L := hI7506.1.2
    have b7515 := BT_get hI7506.1.1 0 1 2 (0) (0) (900) (by decide) 1 (by decide) (by decide)
    rw [e7514] at b7515
    obtain ⟨w7516, ew7516⟩ : ∃ w : Int32, I7506 (ad g 0) 2 = w := ⟨_, rfl⟩
    have bw7516 := BT_get hI7506.1.1 0 2 3 (0) (0) (900) (by decide) 2 (by decide) (by decide)
    rw [ew7516] at bw7516
    obtain ⟨w7517, ew7517⟩ : ∃ w : Int32, I7506 (ad g 0) 3 = w := ⟨_, rfl⟩
    have bw7517 := BT_get hI7506.1.1 0 3 4 (0) (0) (900) (by decide) 3 (by decide) (by decide)
    rw [ew7517] at bw7517
    obtain ⟨w7518, ew7518⟩ : ∃ w : Int32, I7506 (ad g 0) 4 = w := ⟨_, rfl⟩
    have bw7518 := BT_get hI7506.1.1 0 4 5 (0) (0) (900) (by decide) 4 (by decide) (by decide)
    rw [ew7518] at bw7518
    obtain ⟨w7519, ew7519⟩ : ∃ w : Int32, I7506 (ad g 0) 5 = w := ⟨_, rfl⟩
    have bw7519 := BT_get hI7506.1.1 0 5 6 (0) (0) (4) (by decide) 5 (by decide) (by decide)
    rw [ew7519] at bw7519
    rw [ew7516, ew7517, ew7518, ew7519, ew7454] at pI7506
    obtain ⟨w7520, ew7520⟩ : ∃ w : Int32, I7506 (ad g 0) 7 = w := ⟨_, rfl⟩
    have bw7520 := BT_get hI7506.1.1 0 7 8 (-1) (0) (1000) (by decide) 7 (by decide) (by decide)
    rw [ew7520] at bw7520
    exact WP_zret dX11_known_13 rfl (nar_z (by omega)) ⟨⟨hI7506, rfl, fr7509, ⟨(by rw [ew7516, ew7517, ew7518, ew7519, ew7454]; omega), (by rw [e7510, ew7449] <;> exact (eq32 _ _).mpr (by omega)), (by rw [e7511, ew7450] <;> exact (eq32 _ _).mpr (by omega)), (by rw [e7512, ew7451] <;> exact (eq32 _ _).mpr (by omega)), (by rw [e7513, ew7452] <;> exact (eq32 _ _).mpr (by omega))⟩⟩, _, rfl, by omega, by omega, by (try rw [ew7520]); omega⟩
set_option maxHeartbeats 4000000 in
set_option maxRecDepth 100000 in
theorem sm_knownx_5 {g : GG} {n : Int} {L : Int32} (hy : Ly g)  {I : pI} {J : pJ} {R : pR} (hr : Rf g R) (hI : MP g n L I) (ma : Int32) (ma_lo : 0 ≤ ma.toInt) (ma_hi : ma.toInt ≤ 3) (hb : ((I (ad g 0) 4).toInt ≤ (I (ad g 0) 2).toInt ∧ (I (ad g 0) 3).toInt ≤ (I (ad g 0) 4).toInt ∧ ((I (ad g 0) 5).toInt = 0 ∨ (I (ad g 0) 3).toInt < (I (ad g 0) 4).toInt))) : SP g mX11_known [.ref (ad g 0), .ref (ad g 5), .int ma] I J R (fun r I' J' R' => (MP g n L I' ∧ R' = R ∧ fz 49 g [0] I I' ∧ (((I' (ad g 0) 4).toInt ≤ (I' (ad g 0) 2).toInt ∧ (I' (ad g 0) 3).toInt ≤ (I' (ad g 0) 4).toInt ∧ ((I' (ad g 0) 5).toInt = 0 ∨ (I' (ad g 0) 3).toInt < (I' (ad g 0) 4).toInt)) ∧ (I (ad g 0) 3).toInt ≤ (I' (ad g 0) 3).toInt) ∧ I' (ad g 0) 15 = I (ad g 0) 15 ∧ I' (ad g 0) 16 = I (ad g 0) 16 ∧ I' (ad g 0) 17 = I (ad g 0) 17 ∧ I' (ad g 0) 18 = I (ad g 0) 18) ∧ ∃ v : Int32, r = some (.int v) ∧ 0 ≤ v.toInt ∧ v.toInt ≤ 1 ∧ (v.toInt = 1 → 0 ≤ (I' (ad g 0) 7).toInt ∧ (I' (ad g 0) 7).toInt ≤ 2 ∧ (I' (ad g 0) 7).toInt < ma.toInt)) := by
  refine SP_of ⟨by decide, rfl⟩ (Nat.le_of_ble_eq_true rfl) ?_
  have e7521 : I (ad g 0) 1 = L := hI.1.2
  have b7522 := BT_get hI.1.1 0 1 2 (0) (0) (900) (by decide) 1 (by decide) (by decide)
  rw [e7521] at b7522
  have fr0 : fz 49 g [0] I I := fz_rf
  obtain ⟨w7523, ew7523⟩ : ∃ w : Int32, I (ad g 0) 15 = w := ⟨_, rfl⟩
  have bw7523 := BT_get hI.1.1 0 15 16 (0) (0) (4) (by decide) 15 (by decide) (by decide)
  rw [ew7523] at bw7523
  obtain ⟨w7524, ew7524⟩ : ∃ w : Int32, I (ad g 0) 16 = w := ⟨_, rfl⟩
  have bw7524 := BT_get hI.1.1 0 16 17 (0) (0) (3) (by decide) 16 (by decide) (by decide)
  rw [ew7524] at bw7524
  obtain ⟨w7525, ew7525⟩ : ∃ w : Int32, I (ad g 0) 17 = w := ⟨_, rfl⟩
  have bw7525 := BT_get hI.1.1 0 17 18 (-1) (0) (3) (by decide) 17 (by decide) (by decide)
  rw [ew7525] at bw7525
  obtain ⟨w7526, ew7526⟩ : ∃ w : Int32, I (ad g 0) 18 = w := ⟨_, rfl⟩
  have bw7526 := BT_get hI.1.1 0 18 19 (-1) (0) (2) (by decide) 18 (by decide) (by decide)
  rw [ew7526] at bw7526
  obtain ⟨w7527, ew7527⟩ : ∃ w : Int32, I (ad g 0) 2 = w := ⟨_, rfl⟩
  have bw7527 := BT_get hI.1.1 0 2 3 (0) (0) (900) (by decide) 2 (by decide) (by decide)
  rw [ew7527] at bw7527
  obtain ⟨w7528, ew7528⟩ : ∃ w : Int32, I (ad g 0) 3 = w := ⟨_, rfl⟩
  have bw7528 := BT_get hI.1.1 0 3 4 (0) (0) (900) (by decide) 3 (by decide) (by decide)
  rw [ew7528] at bw7528
  obtain ⟨w7529, ew7529⟩ : ∃ w : Int32, I (ad g 0) 4 = w := ⟨_, rfl⟩
  have bw7529 := BT_get hI.1.1 0 4 5 (0) (0) (900) (by decide) 4 (by decide) (by decide)
  rw [ew7529] at bw7529
  obtain ⟨w7530, ew7530⟩ : ∃ w : Int32, I (ad g 0) 5 = w := ⟨_, rfl⟩
  have bw7530 := BT_get hI.1.1 0 5 6 (0) (0) (4) (by decide) 5 (by decide) (by decide)
  rw [ew7530] at bw7530
  rw [ew7527, ew7528, ew7529, ew7530] at hb
  refine WP_aload_n dX11_known_0 rfl ?_
  refine WQ_getim dX11_known_1 fX11_27 rfl (ly_is hy 0 11 rfl) ew7530 ?_
  refine WQ_iconst (1) (1) dX11_known_4 rfl rfl (fun v7531 hv7531 => ?_)
  refine WQ_icmp_eq 14 dX11_known_5 rfl (fun c7531 => ?_) (fun c7531 => ?_)
  · refine WP_aload_n dX11_known_14 rfl ?_
    refine WP_aload_n dX11_known_15 rfl ?_
    refine WP_aload_n dX11_known_16 rfl ?_
    refine WP_iload_n dX11_known_17 rfl ?_
    refine WP_callV2 (k := 11) dX11_known_18 ⟨⟨⟨by decide, by decide⟩, zX11_find⟩, lX11_71, by decide, rfl, vX11_find.1, vX11_find.2⟩ (ly_is hy 0 11 rfl) (sm_find_5 hy hr hI ma (by omega) (by omega)) (Nat.le_of_ble_eq_true rfl) ?_
    intro r Ia Ja Ra hq
    obtain ⟨⟨ea, eb, ec⟩, v7533, rfl, av7533, bv7533, cv7533⟩ := hq
    show WP _ _ _ _ (.int _ :: _) _ _ _ _
    rw [ea, eb, ec]
    clear ea eb ec Ia Ja Ra
    refine WQ_puti dX11_known_21 fX11_56 rfl rfl (ly_is hy 0 11 rfl) (fun I7534 eI7534 => ?_)
    have hI7534 : MP g n L I7534 := by rw [eI7534]; exact (mp_w hy hI (c := 0) (mi_f hy hI.1 (c := 0) (-1) (0) (1000) (by decide) (Or.inr (by decide)) (by decide) (by omega) (by omega)) (by decide) (by decide) (Or.inr (by decide)))
    have e7535 : I7534 (ad g 0) 1 = L := by rw [eI7534, pp_ne _ _ (Or.inr (by decide))]; exact e7521
    have e7536 : I7534 (ad g 0) 15 = w7523 := by rw [eI7534, pp_ne _ _ (Or.inr (by decide))]; exact ew7523
    have e7537 : I7534 (ad g 0) 16 = w7524 := by rw [eI7534, pp_ne _ _ (Or.inr (by decide))]; exact ew7524
    have e7538 : I7534 (ad g 0) 17 = w7525 := by rw [eI7534, pp_ne _ _ (Or.inr (by decide))]; exact ew7525
    have e7539 : I7534 (ad g 0) 18 = w7526 := by rw [eI7534, pp_ne _ _ (Or.inr (by decide))]; exact ew7526
    have e7540 : I7534 (ad g 0) 2 = w7527 := by rw [eI7534, pp_ne _ _ (Or.inr (by decide))]; exact ew7527
    have e7541 : I7534 (ad g 0) 3 = w7528 := by rw [eI7534, pp_ne _ _ (Or.inr (by decide))]; exact ew7528
    have e7542 : I7534 (ad g 0) 4 = w7529 := by rw [eI7534, pp_ne _ _ (Or.inr (by decide))]; exact ew7529
    have e7543 : I7534 (ad g 0) 5 = w7530 := by rw [eI7534, pp_ne _ _ (Or.inr (by decide))]; exact ew7530
    have e7544 : I7534 (ad g 0) 7 = v7533 := by rw [eI7534, pp_self]
    have fr7545 : fz 49 g [0] I I7534 := by rw [eI7534]; exact fzm_pp hy fr0 (by decide) (by decide)
    clear eI7534
    refine WP_aload_n dX11_known_24 rfl ?_
    refine WQ_getim dX11_known_25 fX11_56 rfl (ly_is hy 0 11 rfl) e7544 ?_
    refine WQ_iconst (-1) (-1) dX11_known_28 rfl rfl (fun v7546 hv7546 => ?_)
    refine WQ_icmp_ne 38 dX11_known_29 rfl (fun c7546 => ?_) (fun c7546 => ?_)
    · refine WP_aload_n dX11_known_38 rfl ?_
      refine WP_callV0 (k := 11) dX11_known_39 ⟨⟨⟨by decide, by decide⟩, zX11_scan⟩, lX11_63, by decide, rfl, vX11_scan.1, vX11_scan.2⟩ (ly_is hy 0 11 rfl) (sm_scanx hy hr hI7534   (by rw [e7542, e7540]; omega)) (Nat.le_of_ble_eq_true rfl) ?_
      intro r I7548 J7549 Ra hq
      obtain ⟨⟨hI7548, ec, fiI7548, ⟨pI7548, sI7548_0_7, sI7548_0_15, sI7548_0_16, sI7548_0_17, sI7548_0_18⟩⟩, rfl⟩ := hq
      rw [ec]
      clear ec Ra
      have fr7550 : fz 49 g [0] I I7548 := fz_tr fr7545 (fz_mono fiI7548 (by decide))
      have e7551 : I7548 (ad g 0) 7 = v7533 := by rw [sI7548_0_7]; exact e7544
      have e7552 : I7548 (ad g 0) 15 = w7523 := by rw [sI7548_0_15]; exact e7536
      have e7553 : I7548 (ad g 0) 16 = w7524 := by rw [sI7548_0_16]; exact e7537
      have e7554 : I7548 (ad g 0) 17 = w7525 := by rw [sI7548_0_17]; exact e7538
      have e7555 : I7548 (ad g 0) 18 = w7526 := by rw [sI7548_0_18]; exact e7539
      have e7556 : I7548 (ad g 0) 1 = L := hI7548.1.2
      have b7557 := BT_get hI7548.1.1 0 1 2 (0) (0) (900) (by decide) 1 (by decide) (by decide)
      rw [e7556] at b7557
      obtain ⟨w7558, ew7558⟩ : ∃ w : Int32, I7548 (ad g 0) 2 = w := ⟨_, rfl⟩
      have bw7558 := BT_get hI7548.1.1 0 2 3 (0) (0) (900) (by decide) 2 (by decide) (by decide)
      rw [ew7558] at bw7558
      obtain ⟨w7559, ew7559⟩ : ∃ w : Int32, I7548 (ad g 0) 3 = w := ⟨_, rfl⟩
      have bw7559 := BT_get hI7548.1.1 0 3 4 (0) (0) (900) (by decide) 3 (by decide) (by decide)
      rw [ew7559] at bw7559
      obtain ⟨w7560, ew7560⟩ : ∃ w : Int32, I7548 (ad g 0) 4 = w := ⟨_, rfl⟩
      have bw7560 := BT_get hI7548.1.1 0 4 5 (0) (0) (900) (by decide) 4 (by decide) (by decide)
      rw [ew7560] at bw7560
      obtain ⟨w7561, ew7561⟩ : ∃ w : Int32, I7548 (ad g 0) 5 = w := ⟨_, rfl⟩
      have bw7561 := BT_get hI7548.1.1 0 5 6 (0) (0) (4) (by decide) 5 (by decide) (by decide)
      rw [ew7561] at bw7561
      rw [ew7558, ew7559, ew7560, ew7561, e7542] at pI7548
      refine WQ_iconst (1) (1) dX11_known_42 rfl rfl (fun v7562 hv7562 => ?_)
      exact WP_zret dX11_known_43 rfl (nar_z (by omega)) ⟨⟨hI7548, rfl, fr7550, ⟨(by rw [ew7558, ew7559, ew7560, ew7561, ew7528]; omega), (by rw [e7552, ew7523] <;> exact (eq32 _ _).mpr (by omega)), (by rw [e7553, ew7524] <;> exact (eq32 _ _).mpr (by omega)), (by rw [e7554, ew7525] <;> exact (eq32 _ _).mpr (by omega)), (by rw [e7555, ew7526] <;> exact (eq32 _ _).mpr (by omega))⟩⟩, _, rfl, by omega, by omega, by (try rw [e7551]); omega⟩
    · refine WP_aload_n dX11_known_32 rfl ?_
      refine WQ_iconst (5) (5) dX11_known_33 rfl rfl (fun v7563 hv7563 => ?_)
      refine WP_callV1 (k := 11) dX11_known_34 ⟨⟨⟨by decide, by decide⟩, zX11_bad⟩, lX11_49, by decide, rfl, vX11_bad.1, vX11_bad.2⟩ (ly_is hy 0 11 rfl) (sm_badx hy hr hI7534 v7563  (by rw [e7540, e7541, e7542, e7543]; omega)) (Nat.le_of_ble_eq_true rfl) ?_
      intro r I7564 J7565 Ra hq
      obtain ⟨⟨hI7564, ec, fiI7564, ⟨pI7564, sI7564_0_15, sI7564_0_16, sI7564_0_17, sI7564_0_18⟩⟩, v7566, rfl, av7566, bv7566⟩ := hq
      show WP _ _ _ _ (.int _ :: _) _ _ _ _
      rw [ec]
      clear ec Ra
      have fr7567 : fz 49 g [0] I I7564 := fz_tr fr7545 (fz_mono fiI7564 (by decide))
      have e7568 : I7564 (ad g 0) 15 = w7523 := by rw [sI7564_0_15]; exact e7536
      have e7569 : I7564 (ad g 0) 16 = w7524 := by rw [sI7564_0_16]; exact e7537
      have e7570 : I7564 (ad g 0) 17 = w7525 := by rw [sI7564_0_17]; exact e7538
      have e7571 : I7564 (ad g 0) 18 = w7526 := by rw [sI7564_0_18]; exact e7539
      have e7572 : I7564 (ad g 0) 1 = L := hI7564.1.2
      have b7573 := BT_get hI7564.1.1 0 1 2 (0) (0) (900) (by decide) 1 (by decide) (by decide)
      rw [e7572] at b7573
      obtain ⟨w7574, ew7574⟩ : ∃ w : Int32, I7564 (ad g 0) 2 = w := ⟨_, rfl⟩
      have bw7574 := BT_get hI7564.1.1 0 2 3 (0) (0) (900) (by decide) 2 (by decide) (by decide)
      rw [ew7574] at bw7574
      obtain ⟨w7575, ew7575⟩ : ∃ w : Int32, I7564 (ad g 0) 3 = w := ⟨_, rfl⟩
      have bw7575 := BT_get hI7564.1.1 0 3 4 (0) (0) (900) (by decide) 3 (by decide) (by decide)
      rw [ew7575] at bw7575
      obtain ⟨w7576, ew7576⟩ : ∃ w : Int32, I7564 (ad g 0) 4 = w := ⟨_, rfl⟩
      have bw7576 := BT_get hI7564.1.1 0 4 5 (0) (0) (900) (by decide) 4 (by decide) (by decide)
      rw [ew7576] at bw7576
      obtain ⟨w7577, ew7577⟩ : ∃ w : Int32, I7564 (ad g 0) 5 = w := ⟨_, rfl⟩
      have bw7577 := BT_get hI7564.1.1 0 5 6 (0) (0) (4) (by decide) 5 (by decide) (by decide)
      rw [ew7577] at bw7577
      rw [ew7574, ew7575, ew7576, ew7577, e7541] at pI7564
      obtain ⟨w7578, ew7578⟩ : ∃ w : Int32, I7564 (ad g 0) 7 = w := ⟨_, rfl⟩
      have bw7578 := BT_get hI7564.1.1 0 7 8 (-1) (0) (1000) (by decide) 7 (by decide) (by decide)
      rw [ew7578] at bw7578
      exact WP_zret dX11_known_37 rfl (nar_z (by omega)) ⟨⟨hI7564, rfl, fr7567, ⟨(by rw [ew7574, ew7575, ew7576, ew7577, ew7528]; omega), (by rw [e7568, ew7523] <;> exact (eq32 _ _).mpr (by omega)), (by rw [e7569, ew7524] <;> exact (eq32 _ _).mpr (by omega)), (by rw [e7570, ew7525] <;> exact (eq32 _ _).mpr (by omega)), (by rw [e7571, ew7526] <;> exact (eq32 _ _).mpr (by omega))⟩⟩, _, rfl, by omega, by omega, by (try rw [ew7578]); omega⟩
  · refine WP_aload_n dX11_known_8 rfl ?_
    refine WQ_iconst (1) (1) dX11_known_9 rfl rfl (fun v7579 hv7579 => ?_)
    refine WP_callV1 (k := 11) dX11_known_10 ⟨⟨⟨by decide, by decide⟩, zX11_bad⟩, lX11_49, by decide, rfl, vX11_bad.1, vX11_bad.2⟩ (ly_is hy 0 11 rfl) (sm_badx hy hr hI v7579  (by rw [ew7527, ew7528, ew7529, ew7530]; omega)) (Nat.le_of_ble_eq_true rfl) ?_
    intro r I7580 J7581 Ra hq
    obtain ⟨⟨hI7580, ec, fiI7580, ⟨pI7580, sI7580_0_15, sI7580_0_16, sI7580_0_17, sI7580_0_18⟩⟩, v7582, rfl, av7582, bv7582⟩ := hq
    show WP _ _ _ _ (.int _ :: _) _ _ _ _
    rw [ec]
    clear ec Ra
    have fr7583 : fz 49 g [0] I I7580 := fz_tr fr0 (fz_mono fiI7580 (by decide))
    have e7584 : I7580 (ad g 0) 15 = w7523 := by rw [sI7580_0_15]; exact ew7523
    have e7585 : I7580 (ad g 0) 16 = w7524 := by rw [sI7580_0_16]; exact ew7524
    have e7586 : I7580 (ad g 0) 17 = w7525 := by rw [sI7580_0_17]; exact ew7525
    have e7587 : I7580 (ad g 0) 18 = w7526 := by rw [sI7580_0_18]; exact ew7526
    have e7588 : I7580 (ad g 0) 1 = L := hI7580.1.2
    have b7589 := BT_get hI7580.1.1 0 1 2 (0) (0) (900) (by decide) 1 (by decide) (by decide)
    rw [e7588] at b7589
    obtain ⟨w7590, ew7590⟩ : ∃ w : Int32, I7580 (ad g 0) 2 = w := ⟨_, rfl⟩
    have bw7590 := BT_get hI7580.1.1 0 2 3 (0) (0) (900) (by decide) 2 (by decide) (by decide)
    rw [ew7590] at bw7590
    obtain ⟨w7591, ew7591⟩ : ∃ w : Int32, I7580 (ad g 0) 3 = w := ⟨_, rfl⟩
    have bw7591 := BT_get hI7580.1.1 0 3 4 (0) (0) (900) (by decide) 3 (by decide) (by decide)
    rw [ew7591] at bw7591
    obtain ⟨w7592, ew7592⟩ : ∃ w : Int32, I7580 (ad g 0) 4 = w := ⟨_, rfl⟩
    have bw7592 := BT_get hI7580.1.1 0 4 5 (0) (0) (900) (by decide) 4 (by decide) (by decide)
    rw [ew7592] at bw7592
    obtain ⟨w7593, ew7593⟩ : ∃ w : Int32, I7580 (ad g 0) 5 = w := ⟨_, rfl⟩
    have bw7593 := BT_get hI7580.1.1 0 5 6 (0) (0) (4) (by decide) 5 (by decide) (by decide)
    rw [ew7593] at bw7593
    rw [ew7590, ew7591, ew7592, ew7593, ew7528] at pI7580
    obtain ⟨w7594, ew7594⟩ : ∃ w : Int32, I7580 (ad g 0) 7 = w := ⟨_, rfl⟩
    have bw7594 := BT_get hI7580.1.1 0 7 8 (-1) (0) (1000) (by decide) 7 (by decide) (by decide)
    rw [ew7594] at bw7594
    exact WP_zret dX11_known_13 rfl (nar_z (by omega)) ⟨⟨hI7580, rfl, fr7583, ⟨(by rw [ew7590, ew7591, ew7592, ew7593, ew7528]; omega), (by rw [e7584, ew7523] <;> exact (eq32 _ _).mpr (by omega)), (by rw [e7585, ew7524] <;> exact (eq32 _ _).mpr (by omega)), (by rw [e7586, ew7525] <;> exact (eq32 _ _).mpr (by omega)), (by rw [e7587, ew7526] <;> exact (eq32 _ _).mpr (by omega))⟩⟩, _, rfl, by omega, by omega, by (try rw [ew7594]); omega⟩
set_option maxHeartbeats 4000000 in
set_option maxRecDepth 100000 in
theorem sm_freshx_4 {g : GG} {n : Int} {L : Int32} (hy : Ly g)  {I : pI} {J : pJ} {R : pR} (hr : Rf g R) (hI : MP g n L I) (ma : Int32) (ma_lo : 0 ≤ ma.toInt) (ma_hi : ma.toInt ≤ 3) (hb : ((I (ad g 0) 4).toInt ≤ (I (ad g 0) 2).toInt ∧ (I (ad g 0) 3).toInt ≤ (I (ad g 0) 4).toInt ∧ ((I (ad g 0) 5).toInt = 0 ∨ (I (ad g 0) 3).toInt < (I (ad g 0) 4).toInt))) : SP g mX11_fresh [.ref (ad g 0), .ref (ad g 4), .int ma] I J R (fun r I' J' R' => (MP g n L I' ∧ R' = R ∧ fz 49 g [0] I I' ∧ (((I' (ad g 0) 4).toInt ≤ (I' (ad g 0) 2).toInt ∧ (I' (ad g 0) 3).toInt ≤ (I' (ad g 0) 4).toInt ∧ ((I' (ad g 0) 5).toInt = 0 ∨ (I' (ad g 0) 3).toInt < (I' (ad g 0) 4).toInt)) ∧ (I (ad g 0) 3).toInt ≤ (I' (ad g 0) 3).toInt) ∧ I' (ad g 0) 15 = I (ad g 0) 15 ∧ I' (ad g 0) 16 = I (ad g 0) 16 ∧ I' (ad g 0) 17 = I (ad g 0) 17 ∧ I' (ad g 0) 18 = I (ad g 0) 18) ∧ ∃ v : Int32, r = some (.int v) ∧ 0 ≤ v.toInt ∧ v.toInt ≤ 1) := by
  refine SP_of ⟨by decide, rfl⟩ (Nat.le_of_ble_eq_true rfl) ?_
  have e7595 : I (ad g 0) 1 = L := hI.1.2
  have b7596 := BT_get hI.1.1 0 1 2 (0) (0) (900) (by decide) 1 (by decide) (by decide)
  rw [e7595] at b7596
  have fr0 : fz 49 g [0] I I := fz_rf
  obtain ⟨w7597, ew7597⟩ : ∃ w : Int32, I (ad g 0) 15 = w := ⟨_, rfl⟩
  have bw7597 := BT_get hI.1.1 0 15 16 (0) (0) (4) (by decide) 15 (by decide) (by decide)
  rw [ew7597] at bw7597
  obtain ⟨w7598, ew7598⟩ : ∃ w : Int32, I (ad g 0) 16 = w := ⟨_, rfl⟩
  have bw7598 := BT_get hI.1.1 0 16 17 (0) (0) (3) (by decide) 16 (by decide) (by decide)
  rw [ew7598] at bw7598
  obtain ⟨w7599, ew7599⟩ : ∃ w : Int32, I (ad g 0) 17 = w := ⟨_, rfl⟩
  have bw7599 := BT_get hI.1.1 0 17 18 (-1) (0) (3) (by decide) 17 (by decide) (by decide)
  rw [ew7599] at bw7599
  obtain ⟨w7600, ew7600⟩ : ∃ w : Int32, I (ad g 0) 18 = w := ⟨_, rfl⟩
  have bw7600 := BT_get hI.1.1 0 18 19 (-1) (0) (2) (by decide) 18 (by decide) (by decide)
  rw [ew7600] at bw7600
  obtain ⟨w7601, ew7601⟩ : ∃ w : Int32, I (ad g 0) 2 = w := ⟨_, rfl⟩
  have bw7601 := BT_get hI.1.1 0 2 3 (0) (0) (900) (by decide) 2 (by decide) (by decide)
  rw [ew7601] at bw7601
  obtain ⟨w7602, ew7602⟩ : ∃ w : Int32, I (ad g 0) 3 = w := ⟨_, rfl⟩
  have bw7602 := BT_get hI.1.1 0 3 4 (0) (0) (900) (by decide) 3 (by decide) (by decide)
  rw [ew7602] at bw7602
  obtain ⟨w7603, ew7603⟩ : ∃ w : Int32, I (ad g 0) 4 = w := ⟨_, rfl⟩
  have bw7603 := BT_get hI.1.1 0 4 5 (0) (0) (900) (by decide) 4 (by decide) (by decide)
  rw [ew7603] at bw7603
  obtain ⟨w7604, ew7604⟩ : ∃ w : Int32, I (ad g 0) 5 = w := ⟨_, rfl⟩
  have bw7604 := BT_get hI.1.1 0 5 6 (0) (0) (4) (by decide) 5 (by decide) (by decide)
  rw [ew7604] at bw7604
  rw [ew7601, ew7602, ew7603, ew7604] at hb
  refine WP_aload_n dX11_fresh_0 rfl ?_
  refine WQ_getim dX11_fresh_1 fX11_27 rfl (ly_is hy 0 11 rfl) ew7604 ?_
  refine WQ_iconst (1) (1) dX11_fresh_4 rfl rfl (fun v7605 hv7605 => ?_)
  refine WQ_icmp_eq 14 dX11_fresh_5 rfl (fun c7605 => ?_) (fun c7605 => ?_)
  · refine WP_aload_n dX11_fresh_14 rfl ?_
    refine WP_aload_n dX11_fresh_15 rfl ?_
    refine WP_iload_n dX11_fresh_16 rfl ?_
    refine WP_callV2 (k := 11) dX11_fresh_17 ⟨⟨⟨by decide, by decide⟩, zX11_find⟩, lX11_71, by decide, rfl, vX11_find.1, vX11_find.2⟩ (ly_is hy 0 11 rfl) (sm_find_4 hy hr hI ma (by omega) (by omega)) (Nat.le_of_ble_eq_true rfl) ?_
    intro r Ia Ja Ra hq
    obtain ⟨⟨ea, eb, ec⟩, v7607, rfl, av7607, bv7607, cv7607⟩ := hq
    show WP _ _ _ _ (.int _ :: _) _ _ _ _
    rw [ea, eb, ec]
    clear ea eb ec Ia Ja Ra
    refine WQ_iconst (-1) (-1) dX11_fresh_20 rfl rfl (fun v7608 hv7608 => ?_)
    refine WQ_icmp_eq 30 dX11_fresh_21 rfl (fun c7608 => ?_) (fun c7608 => ?_)
    · refine WP_aload_n dX11_fresh_30 rfl ?_
      refine WP_iload_n dX11_fresh_31 rfl ?_
      refine WP_aload_n dX11_fresh_32 rfl ?_
      refine WP_callV0 (k := 11) dX11_fresh_33 ⟨⟨⟨by decide, by decide⟩, zX11_name⟩, lX11_67, by decide, rfl, vX11_name.1, vX11_name.2⟩ (ly_is hy 0 11 rfl) (sm_name hy hr hI  ) (Nat.le_of_ble_eq_true rfl) ?_
      intro r Ia Ja Ra hq
      obtain ⟨⟨ea, eb, ec⟩, l7610, rfl⟩ := hq
      show WP _ _ _ _ (.long _ :: _) _ _ _ _
      rw [ea, eb, ec]
      clear ea eb ec Ia Ja Ra
      refine WQ_last dX11_fresh_36 (ly_is hy 4 14 rfl) (ly_n hy 4 4 rfl) (by omega) (by omega) (fun J7611 eJ7611 => ?_)
      clear eJ7611
      refine WP_aload_n dX11_fresh_37 rfl ?_
      refine WP_callV0 (k := 11) dX11_fresh_38 ⟨⟨⟨by decide, by decide⟩, zX11_scan⟩, lX11_63, by decide, rfl, vX11_scan.1, vX11_scan.2⟩ (ly_is hy 0 11 rfl) (sm_scanx hy hr hI   (by rw [ew7603, ew7601]; omega)) (Nat.le_of_ble_eq_true rfl) ?_
      intro r I7612 J7613 Ra hq
      obtain ⟨⟨hI7612, ec, fiI7612, ⟨pI7612, sI7612_0_7, sI7612_0_15, sI7612_0_16, sI7612_0_17, sI7612_0_18⟩⟩, rfl⟩ := hq
      rw [ec]
      clear ec Ra
      have fr7614 : fz 49 g [0] I I7612 := fz_tr fr0 (fz_mono fiI7612 (by decide))
      have e7615 : I7612 (ad g 0) 15 = w7597 := by rw [sI7612_0_15]; exact ew7597
      have e7616 : I7612 (ad g 0) 16 = w7598 := by rw [sI7612_0_16]; exact ew7598
      have e7617 : I7612 (ad g 0) 17 = w7599 := by rw [sI7612_0_17]; exact ew7599
      have e7618 : I7612 (ad g 0) 18 = w7600 := by rw [sI7612_0_18]; exact ew7600
      have e7619 : I7612 (ad g 0) 1 = L := hI7612.1.2
      have b7620 := BT_get hI7612.1.1 0 1 2 (0) (0) (900) (by decide) 1 (by decide) (by decide)
      rw [e7619] at b7620
      obtain ⟨w7621, ew7621⟩ : ∃ w : Int32, I7612 (ad g 0) 2 = w := ⟨_, rfl⟩
      have bw7621 := BT_get hI7612.1.1 0 2 3 (0) (0) (900) (by decide) 2 (by decide) (by decide)
      rw [ew7621] at bw7621
      obtain ⟨w7622, ew7622⟩ : ∃ w : Int32, I7612 (ad g 0) 3 = w := ⟨_, rfl⟩
      have bw7622 := BT_get hI7612.1.1 0 3 4 (0) (0) (900) (by decide) 3 (by decide) (by decide)
      rw [ew7622] at bw7622
      obtain ⟨w7623, ew7623⟩ : ∃ w : Int32, I7612 (ad g 0) 4 = w := ⟨_, rfl⟩
      have bw7623 := BT_get hI7612.1.1 0 4 5 (0) (0) (900) (by decide) 4 (by decide) (by decide)
      rw [ew7623] at bw7623
      obtain ⟨w7624, ew7624⟩ : ∃ w : Int32, I7612 (ad g 0) 5 = w := ⟨_, rfl⟩
      have bw7624 := BT_get hI7612.1.1 0 5 6 (0) (0) (4) (by decide) 5 (by decide) (by decide)
      rw [ew7624] at bw7624
      rw [ew7621, ew7622, ew7623, ew7624, ew7603] at pI7612
      refine WQ_iconst (1) (1) dX11_fresh_41 rfl rfl (fun v7625 hv7625 => ?_)
      exact WP_zret dX11_fresh_42 rfl (nar_z (by omega)) ⟨⟨hI7612, rfl, fr7614, ⟨(by rw [ew7621, ew7622, ew7623, ew7624, ew7602]; omega), (by rw [e7615, ew7597] <;> exact (eq32 _ _).mpr (by omega)), (by rw [e7616, ew7598] <;> exact (eq32 _ _).mpr (by omega)), (by rw [e7617, ew7599] <;> exact (eq32 _ _).mpr (by omega)), (by rw [e7618, ew7600] <;> exact (eq32 _ _).mpr (by omega))⟩⟩, _, rfl, by omega, by omega⟩
    · refine WP_aload_n dX11_fresh_24 rfl ?_
      refine WQ_iconst (3) (3) dX11_fresh_25 rfl rfl (fun v7626 hv7626 => ?_)
      refine WP_callV1 (k := 11) dX11_fresh_26 ⟨⟨⟨by decide, by decide⟩, zX11_bad⟩, lX11_49, by decide, rfl, vX11_bad.1, vX11_bad.2⟩ (ly_is hy 0 11 rfl) (sm_badx hy hr hI v7626  (by rw [ew7601, ew7602, ew7603, ew7604]; omega)) (Nat.le_of_ble_eq_true rfl) ?_
      intro r I7627 J7628 Ra hq
      obtain ⟨⟨hI7627, ec, fiI7627, ⟨pI7627, sI7627_0_15, sI7627_0_16, sI7627_0_17, sI7627_0_18⟩⟩, v7629, rfl, av7629, bv7629⟩ := hq
      show WP _ _ _ _ (.int _ :: _) _ _ _ _
      rw [ec]
      clear ec Ra
      have fr7630 : fz 49 g [0] I I7627 := fz_tr fr0 (fz_mono fiI7627 (by decide))
      have e7631 : I7627 (ad g 0) 15 = w7597 := by rw [sI7627_0_15]; exact ew7597
      have e7632 : I7627 (ad g 0) 16 = w7598 := by rw [sI7627_0_16]; exact ew7598
      have e7633 : I7627 (ad g 0) 17 = w7599 := by rw [sI7627_0_17]; exact ew7599
      have e7634 : I7627 (ad g 0) 18 = w7600 := by rw [sI7627_0_18]; exact ew7600
      have e7635 : I7627 (ad g 0) 1 = L := hI7627.1.2
      have b7636 := BT_get hI7627.1.1 0 1 2 (0) (0) (900) (by decide) 1 (by decide) (by decide)
      rw [e7635] at b7636
      obtain ⟨w7637, ew7637⟩ : ∃ w : Int32, I7627 (ad g 0) 2 = w := ⟨_, rfl⟩
      have bw7637 := BT_get hI7627.1.1 0 2 3 (0) (0) (900) (by decide) 2 (by decide) (by decide)
      rw [ew7637] at bw7637
      obtain ⟨w7638, ew7638⟩ : ∃ w : Int32, I7627 (ad g 0) 3 = w := ⟨_, rfl⟩
      have bw7638 := BT_get hI7627.1.1 0 3 4 (0) (0) (900) (by decide) 3 (by decide) (by decide)
      rw [ew7638] at bw7638
      obtain ⟨w7639, ew7639⟩ : ∃ w : Int32, I7627 (ad g 0) 4 = w := ⟨_, rfl⟩
      have bw7639 := BT_get hI7627.1.1 0 4 5 (0) (0) (900) (by decide) 4 (by decide) (by decide)
      rw [ew7639] at bw7639
      obtain ⟨w7640, ew7640⟩ : ∃ w : Int32, I7627 (ad g 0) 5 = w := ⟨_, rfl⟩
      have bw7640 := BT_get hI7627.1.1 0 5 6 (0) (0) (4) (by decide) 5 (by decide) (by decide)
      rw [ew7640] at bw7640
      rw [ew7637, ew7638, ew7639, ew7640, ew7602] at pI7627
      exact WP_zret dX11_fresh_29 rfl (nar_z (by omega)) ⟨⟨hI7627, rfl, fr7630, ⟨(by rw [ew7637, ew7638, ew7639, ew7640, ew7602]; omega), (by rw [e7631, ew7597] <;> exact (eq32 _ _).mpr (by omega)), (by rw [e7632, ew7598] <;> exact (eq32 _ _).mpr (by omega)), (by rw [e7633, ew7599] <;> exact (eq32 _ _).mpr (by omega)), (by rw [e7634, ew7600] <;> exact (eq32 _ _).mpr (by omega))⟩⟩, _, rfl, by omega, by omega⟩
  · refine WP_aload_n dX11_fresh_8 rfl ?_
    refine WQ_iconst (1) (1) dX11_fresh_9 rfl rfl (fun v7641 hv7641 => ?_)
    refine WP_callV1 (k := 11) dX11_fresh_10 ⟨⟨⟨by decide, by decide⟩, zX11_bad⟩, lX11_49, by decide, rfl, vX11_bad.1, vX11_bad.2⟩ (ly_is hy 0 11 rfl) (sm_badx hy hr hI v7641  (by rw [ew7601, ew7602, ew7603, ew7604]; omega)) (Nat.le_of_ble_eq_true rfl) ?_
    intro r I7642 J7643 Ra hq
    obtain ⟨⟨hI7642, ec, fiI7642, ⟨pI7642, sI7642_0_15, sI7642_0_16, sI7642_0_17, sI7642_0_18⟩⟩, v7644, rfl, av7644, bv7644⟩ := hq
    show WP _ _ _ _ (.int _ :: _) _ _ _ _
    rw [ec]
    clear ec Ra
    have fr7645 : fz 49 g [0] I I7642 := fz_tr fr0 (fz_mono fiI7642 (by decide))
    have e7646 : I7642 (ad g 0) 15 = w7597 := by rw [sI7642_0_15]; exact ew7597
    have e7647 : I7642 (ad g 0) 16 = w7598 := by rw [sI7642_0_16]; exact ew7598
    have e7648 : I7642 (ad g 0) 17 = w7599 := by rw [sI7642_0_17]; exact ew7599
    have e7649 : I7642 (ad g 0) 18 = w7600 := by rw [sI7642_0_18]; exact ew7600
    have e7650 : I7642 (ad g 0) 1 = L := hI7642.1.2
    have b7651 := BT_get hI7642.1.1 0 1 2 (0) (0) (900) (by decide) 1 (by decide) (by decide)
    rw [e7650] at b7651
    obtain ⟨w7652, ew7652⟩ : ∃ w : Int32, I7642 (ad g 0) 2 = w := ⟨_, rfl⟩
    have bw7652 := BT_get hI7642.1.1 0 2 3 (0) (0) (900) (by decide) 2 (by decide) (by decide)
    rw [ew7652] at bw7652
    obtain ⟨w7653, ew7653⟩ : ∃ w : Int32, I7642 (ad g 0) 3 = w := ⟨_, rfl⟩
    have bw7653 := BT_get hI7642.1.1 0 3 4 (0) (0) (900) (by decide) 3 (by decide) (by decide)
    rw [ew7653] at bw7653
    obtain ⟨w7654, ew7654⟩ : ∃ w : Int32, I7642 (ad g 0) 4 = w := ⟨_, rfl⟩
    have bw7654 := BT_get hI7642.1.1 0 4 5 (0) (0) (900) (by decide) 4 (by decide) (by decide)
    rw [ew7654] at bw7654
    obtain ⟨w7655, ew7655⟩ : ∃ w : Int32, I7642 (ad g 0) 5 = w := ⟨_, rfl⟩
    have bw7655 := BT_get hI7642.1.1 0 5 6 (0) (0) (4) (by decide) 5 (by decide) (by decide)
    rw [ew7655] at bw7655
    rw [ew7652, ew7653, ew7654, ew7655, ew7602] at pI7642
    exact WP_zret dX11_fresh_13 rfl (nar_z (by omega)) ⟨⟨hI7642, rfl, fr7645, ⟨(by rw [ew7652, ew7653, ew7654, ew7655, ew7602]; omega), (by rw [e7646, ew7597] <;> exact (eq32 _ _).mpr (by omega)), (by rw [e7647, ew7598] <;> exact (eq32 _ _).mpr (by omega)), (by rw [e7648, ew7599] <;> exact (eq32 _ _).mpr (by omega)), (by rw [e7649, ew7600] <;> exact (eq32 _ _).mpr (by omega))⟩⟩, _, rfl, by omega, by omega⟩
set_option maxHeartbeats 4000000 in
set_option maxRecDepth 100000 in
theorem sm_freshx_5 {g : GG} {n : Int} {L : Int32} (hy : Ly g)  {I : pI} {J : pJ} {R : pR} (hr : Rf g R) (hI : MP g n L I) (ma : Int32) (ma_lo : 0 ≤ ma.toInt) (ma_hi : ma.toInt ≤ 2) (hb : ((I (ad g 0) 4).toInt ≤ (I (ad g 0) 2).toInt ∧ (I (ad g 0) 3).toInt ≤ (I (ad g 0) 4).toInt ∧ ((I (ad g 0) 5).toInt = 0 ∨ (I (ad g 0) 3).toInt < (I (ad g 0) 4).toInt))) : SP g mX11_fresh [.ref (ad g 0), .ref (ad g 5), .int ma] I J R (fun r I' J' R' => (MP g n L I' ∧ R' = R ∧ fz 49 g [0] I I' ∧ (((I' (ad g 0) 4).toInt ≤ (I' (ad g 0) 2).toInt ∧ (I' (ad g 0) 3).toInt ≤ (I' (ad g 0) 4).toInt ∧ ((I' (ad g 0) 5).toInt = 0 ∨ (I' (ad g 0) 3).toInt < (I' (ad g 0) 4).toInt)) ∧ (I (ad g 0) 3).toInt ≤ (I' (ad g 0) 3).toInt) ∧ I' (ad g 0) 15 = I (ad g 0) 15 ∧ I' (ad g 0) 16 = I (ad g 0) 16 ∧ I' (ad g 0) 17 = I (ad g 0) 17 ∧ I' (ad g 0) 18 = I (ad g 0) 18) ∧ ∃ v : Int32, r = some (.int v) ∧ 0 ≤ v.toInt ∧ v.toInt ≤ 1) := by
  refine SP_of ⟨by decide, rfl⟩ (Nat.le_of_ble_eq_true rfl) ?_
  have e7656 : I (ad g 0) 1 = L := hI.1.2
  have b7657 := BT_get hI.1.1 0 1 2 (0) (0) (900) (by decide) 1 (by decide) (by decide)
  rw [e7656] at b7657
  have fr0 : fz 49 g [0] I I := fz_rf
  obtain ⟨w7658, ew7658⟩ : ∃ w : Int32, I (ad g 0) 15 = w := ⟨_, rfl⟩
  have bw7658 := BT_get hI.1.1 0 15 16 (0) (0) (4) (by decide) 15 (by decide) (by decide)
  rw [ew7658] at bw7658
  obtain ⟨w7659, ew7659⟩ : ∃ w : Int32, I (ad g 0) 16 = w := ⟨_, rfl⟩
  have bw7659 := BT_get hI.1.1 0 16 17 (0) (0) (3) (by decide) 16 (by decide) (by decide)
  rw [ew7659] at bw7659
  obtain ⟨w7660, ew7660⟩ : ∃ w : Int32, I (ad g 0) 17 = w := ⟨_, rfl⟩
  have bw7660 := BT_get hI.1.1 0 17 18 (-1) (0) (3) (by decide) 17 (by decide) (by decide)
  rw [ew7660] at bw7660
  obtain ⟨w7661, ew7661⟩ : ∃ w : Int32, I (ad g 0) 18 = w := ⟨_, rfl⟩
  have bw7661 := BT_get hI.1.1 0 18 19 (-1) (0) (2) (by decide) 18 (by decide) (by decide)
  rw [ew7661] at bw7661
  obtain ⟨w7662, ew7662⟩ : ∃ w : Int32, I (ad g 0) 2 = w := ⟨_, rfl⟩
  have bw7662 := BT_get hI.1.1 0 2 3 (0) (0) (900) (by decide) 2 (by decide) (by decide)
  rw [ew7662] at bw7662
  obtain ⟨w7663, ew7663⟩ : ∃ w : Int32, I (ad g 0) 3 = w := ⟨_, rfl⟩
  have bw7663 := BT_get hI.1.1 0 3 4 (0) (0) (900) (by decide) 3 (by decide) (by decide)
  rw [ew7663] at bw7663
  obtain ⟨w7664, ew7664⟩ : ∃ w : Int32, I (ad g 0) 4 = w := ⟨_, rfl⟩
  have bw7664 := BT_get hI.1.1 0 4 5 (0) (0) (900) (by decide) 4 (by decide) (by decide)
  rw [ew7664] at bw7664
  obtain ⟨w7665, ew7665⟩ : ∃ w : Int32, I (ad g 0) 5 = w := ⟨_, rfl⟩
  have bw7665 := BT_get hI.1.1 0 5 6 (0) (0) (4) (by decide) 5 (by decide) (by decide)
  rw [ew7665] at bw7665
  rw [ew7662, ew7663, ew7664, ew7665] at hb
  refine WP_aload_n dX11_fresh_0 rfl ?_
  refine WQ_getim dX11_fresh_1 fX11_27 rfl (ly_is hy 0 11 rfl) ew7665 ?_
  refine WQ_iconst (1) (1) dX11_fresh_4 rfl rfl (fun v7666 hv7666 => ?_)
  refine WQ_icmp_eq 14 dX11_fresh_5 rfl (fun c7666 => ?_) (fun c7666 => ?_)
  · refine WP_aload_n dX11_fresh_14 rfl ?_
    refine WP_aload_n dX11_fresh_15 rfl ?_
    refine WP_iload_n dX11_fresh_16 rfl ?_
    refine WP_callV2 (k := 11) dX11_fresh_17 ⟨⟨⟨by decide, by decide⟩, zX11_find⟩, lX11_71, by decide, rfl, vX11_find.1, vX11_find.2⟩ (ly_is hy 0 11 rfl) (sm_find_5 hy hr hI ma (by omega) (by omega)) (Nat.le_of_ble_eq_true rfl) ?_
    intro r Ia Ja Ra hq
    obtain ⟨⟨ea, eb, ec⟩, v7668, rfl, av7668, bv7668, cv7668⟩ := hq
    show WP _ _ _ _ (.int _ :: _) _ _ _ _
    rw [ea, eb, ec]
    clear ea eb ec Ia Ja Ra
    refine WQ_iconst (-1) (-1) dX11_fresh_20 rfl rfl (fun v7669 hv7669 => ?_)
    refine WQ_icmp_eq 30 dX11_fresh_21 rfl (fun c7669 => ?_) (fun c7669 => ?_)
    · refine WP_aload_n dX11_fresh_30 rfl ?_
      refine WP_iload_n dX11_fresh_31 rfl ?_
      refine WP_aload_n dX11_fresh_32 rfl ?_
      refine WP_callV0 (k := 11) dX11_fresh_33 ⟨⟨⟨by decide, by decide⟩, zX11_name⟩, lX11_67, by decide, rfl, vX11_name.1, vX11_name.2⟩ (ly_is hy 0 11 rfl) (sm_name hy hr hI  ) (Nat.le_of_ble_eq_true rfl) ?_
      intro r Ia Ja Ra hq
      obtain ⟨⟨ea, eb, ec⟩, l7671, rfl⟩ := hq
      show WP _ _ _ _ (.long _ :: _) _ _ _ _
      rw [ea, eb, ec]
      clear ea eb ec Ia Ja Ra
      refine WQ_last dX11_fresh_36 (ly_is hy 5 14 rfl) (ly_n hy 5 3 rfl) (by omega) (by omega) (fun J7672 eJ7672 => ?_)
      clear eJ7672
      refine WP_aload_n dX11_fresh_37 rfl ?_
      refine WP_callV0 (k := 11) dX11_fresh_38 ⟨⟨⟨by decide, by decide⟩, zX11_scan⟩, lX11_63, by decide, rfl, vX11_scan.1, vX11_scan.2⟩ (ly_is hy 0 11 rfl) (sm_scanx hy hr hI   (by rw [ew7664, ew7662]; omega)) (Nat.le_of_ble_eq_true rfl) ?_
      intro r I7673 J7674 Ra hq
      obtain ⟨⟨hI7673, ec, fiI7673, ⟨pI7673, sI7673_0_7, sI7673_0_15, sI7673_0_16, sI7673_0_17, sI7673_0_18⟩⟩, rfl⟩ := hq
      rw [ec]
      clear ec Ra
      have fr7675 : fz 49 g [0] I I7673 := fz_tr fr0 (fz_mono fiI7673 (by decide))
      have e7676 : I7673 (ad g 0) 15 = w7658 := by rw [sI7673_0_15]; exact ew7658
      have e7677 : I7673 (ad g 0) 16 = w7659 := by rw [sI7673_0_16]; exact ew7659
      have e7678 : I7673 (ad g 0) 17 = w7660 := by rw [sI7673_0_17]; exact ew7660
      have e7679 : I7673 (ad g 0) 18 = w7661 := by rw [sI7673_0_18]; exact ew7661
      have e7680 : I7673 (ad g 0) 1 = L := hI7673.1.2
      have b7681 := BT_get hI7673.1.1 0 1 2 (0) (0) (900) (by decide) 1 (by decide) (by decide)
      rw [e7680] at b7681
      obtain ⟨w7682, ew7682⟩ : ∃ w : Int32, I7673 (ad g 0) 2 = w := ⟨_, rfl⟩
      have bw7682 := BT_get hI7673.1.1 0 2 3 (0) (0) (900) (by decide) 2 (by decide) (by decide)
      rw [ew7682] at bw7682
      obtain ⟨w7683, ew7683⟩ : ∃ w : Int32, I7673 (ad g 0) 3 = w := ⟨_, rfl⟩
      have bw7683 := BT_get hI7673.1.1 0 3 4 (0) (0) (900) (by decide) 3 (by decide) (by decide)
      rw [ew7683] at bw7683
      obtain ⟨w7684, ew7684⟩ : ∃ w : Int32, I7673 (ad g 0) 4 = w := ⟨_, rfl⟩
      have bw7684 := BT_get hI7673.1.1 0 4 5 (0) (0) (900) (by decide) 4 (by decide) (by decide)
      rw [ew7684] at bw7684
      obtain ⟨w7685, ew7685⟩ : ∃ w : Int32, I7673 (ad g 0) 5 = w := ⟨_, rfl⟩
      have bw7685 := BT_get hI7673.1.1 0 5 6 (0) (0) (4) (by decide) 5 (by decide) (by decide)
      rw [ew7685] at bw7685
      rw [ew7682, ew7683, ew7684, ew7685, ew7664] at pI7673
      refine WQ_iconst (1) (1) dX11_fresh_41 rfl rfl (fun v7686 hv7686 => ?_)
      exact WP_zret dX11_fresh_42 rfl (nar_z (by omega)) ⟨⟨hI7673, rfl, fr7675, ⟨(by rw [ew7682, ew7683, ew7684, ew7685, ew7663]; omega), (by rw [e7676, ew7658] <;> exact (eq32 _ _).mpr (by omega)), (by rw [e7677, ew7659] <;> exact (eq32 _ _).mpr (by omega)), (by rw [e7678, ew7660] <;> exact (eq32 _ _).mpr (by omega)), (by rw [e7679, ew7661] <;> exact (eq32 _ _).mpr (by omega))⟩⟩, _, rfl, by omega, by omega⟩
    · refine WP_aload_n dX11_fresh_24 rfl ?_
      refine WQ_iconst (3) (3) dX11_fresh_25 rfl rfl (fun v7687 hv7687 => ?_)
      refine WP_callV1 (k := 11) dX11_fresh_26 ⟨⟨⟨by decide, by decide⟩, zX11_bad⟩, lX11_49, by decide, rfl, vX11_bad.1, vX11_bad.2⟩ (ly_is hy 0 11 rfl) (sm_badx hy hr hI v7687  (by rw [ew7662, ew7663, ew7664, ew7665]; omega)) (Nat.le_of_ble_eq_true rfl) ?_
      intro r I7688 J7689 Ra hq
      obtain ⟨⟨hI7688, ec, fiI7688, ⟨pI7688, sI7688_0_15, sI7688_0_16, sI7688_0_17, sI7688_0_18⟩⟩, v7690, rfl, av7690, bv7690⟩ := hq
      show WP _ _ _ _ (.int _ :: _) _ _ _ _
      rw [ec]
      clear ec Ra
      have fr7691 : fz 49 g [0] I I7688 := fz_tr fr0 (fz_mono fiI7688 (by decide))
      have e7692 : I7688 (ad g 0) 15 = w7658 := by rw [sI7688_0_15]; exact ew7658
      have e7693 : I7688 (ad g 0) 16 = w7659 := by rw [sI7688_0_16]; exact ew7659
      have e7694 : I7688 (ad g 0) 17 = w7660 := by rw [sI7688_0_17]; exact ew7660
      have e7695 : I7688 (ad g 0) 18 = w7661 := by rw [sI7688_0_18]; exact ew7661
      have e7696 : I7688 (ad g 0) 1 = L := hI7688.1.2
      have b7697 := BT_get hI7688.1.1 0 1 2 (0) (0) (900) (by decide) 1 (by decide) (by decide)
      rw [e7696] at b7697
      obtain ⟨w7698, ew7698⟩ : ∃ w : Int32, I7688 (ad g 0) 2 = w := ⟨_, rfl⟩
      have bw7698 := BT_get hI7688.1.1 0 2 3 (0) (0) (900) (by decide) 2 (by decide) (by decide)
      rw [ew7698] at bw7698
      obtain ⟨w7699, ew7699⟩ : ∃ w : Int32, I7688 (ad g 0) 3 = w := ⟨_, rfl⟩
      have bw7699 := BT_get hI7688.1.1 0 3 4 (0) (0) (900) (by decide) 3 (by decide) (by decide)
      rw [ew7699] at bw7699
      obtain ⟨w7700, ew7700⟩ : ∃ w : Int32, I7688 (ad g 0) 4 = w := ⟨_, rfl⟩
      have bw7700 := BT_get hI7688.1.1 0 4 5 (0) (0) (900) (by decide) 4 (by decide) (by decide)
      rw [ew7700] at bw7700
      obtain ⟨w7701, ew7701⟩ : ∃ w : Int32, I7688 (ad g 0) 5 = w := ⟨_, rfl⟩
      have bw7701 := BT_get hI7688.1.1 0 5 6 (0) (0) (4) (by decide) 5 (by decide) (by decide)
      rw [ew7701] at bw7701
      rw [ew7698, ew7699, ew7700, ew7701, ew7663] at pI7688
      exact WP_zret dX11_fresh_29 rfl (nar_z (by omega)) ⟨⟨hI7688, rfl, fr7691, ⟨(by rw [ew7698, ew7699, ew7700, ew7701, ew7663]; omega), (by rw [e7692, ew7658] <;> exact (eq32 _ _).mpr (by omega)), (by rw [e7693, ew7659] <;> exact (eq32 _ _).mpr (by omega)), (by rw [e7694, ew7660] <;> exact (eq32 _ _).mpr (by omega)), (by rw [e7695, ew7661] <;> exact (eq32 _ _).mpr (by omega))⟩⟩, _, rfl, by omega, by omega⟩
  · refine WP_aload_n dX11_fresh_8 rfl ?_
    refine WQ_iconst (1) (1) dX11_fresh_9 rfl rfl (fun v7702 hv7702 => ?_)
    refine WP_callV1 (k := 11) dX11_fresh_10 ⟨⟨⟨by decide, by decide⟩, zX11_bad⟩, lX11_49, by decide, rfl, vX11_bad.1, vX11_bad.2⟩ (ly_is hy 0 11 rfl) (sm_badx hy hr hI v7702  (by rw [ew7662, ew7663, ew7664, ew7665]; omega)) (Nat.le_of_ble_eq_true rfl) ?_
    intro r I7703 J7704 Ra hq
    obtain ⟨⟨hI7703, ec, fiI7703, ⟨pI7703, sI7703_0_15, sI7703_0_16, sI7703_0_17, sI7703_0_18⟩⟩, v7705, rfl, av7705, bv7705⟩ := hq
    show WP _ _ _ _ (.int _ :: _) _ _ _ _
    rw [ec]
    clear ec Ra
    have fr7706 : fz 49 g [0] I I7703 := fz_tr fr0 (fz_mono fiI7703 (by decide))
    have e7707 : I7703 (ad g 0) 15 = w7658 := by rw [sI7703_0_15]; exact ew7658
    have e7708 : I7703 (ad g 0) 16 = w7659 := by rw [sI7703_0_16]; exact ew7659
    have e7709 : I7703 (ad g 0) 17 = w7660 := by rw [sI7703_0_17]; exact ew7660
    have e7710 : I7703 (ad g 0) 18 = w7661 := by rw [sI7703_0_18]; exact ew7661
    have e7711 : I7703 (ad g 0) 1 = L := hI7703.1.2
    have b7712 := BT_get hI7703.1.1 0 1 2 (0) (0) (900) (by decide) 1 (by decide) (by decide)
    rw [e7711] at b7712
    obtain ⟨w7713, ew7713⟩ : ∃ w : Int32, I7703 (ad g 0) 2 = w := ⟨_, rfl⟩
    have bw7713 := BT_get hI7703.1.1 0 2 3 (0) (0) (900) (by decide) 2 (by decide) (by decide)
    rw [ew7713] at bw7713
    obtain ⟨w7714, ew7714⟩ : ∃ w : Int32, I7703 (ad g 0) 3 = w := ⟨_, rfl⟩
    have bw7714 := BT_get hI7703.1.1 0 3 4 (0) (0) (900) (by decide) 3 (by decide) (by decide)
    rw [ew7714] at bw7714
    obtain ⟨w7715, ew7715⟩ : ∃ w : Int32, I7703 (ad g 0) 4 = w := ⟨_, rfl⟩
    have bw7715 := BT_get hI7703.1.1 0 4 5 (0) (0) (900) (by decide) 4 (by decide) (by decide)
    rw [ew7715] at bw7715
    obtain ⟨w7716, ew7716⟩ : ∃ w : Int32, I7703 (ad g 0) 5 = w := ⟨_, rfl⟩
    have bw7716 := BT_get hI7703.1.1 0 5 6 (0) (0) (4) (by decide) 5 (by decide) (by decide)
    rw [ew7716] at bw7716
    rw [ew7713, ew7714, ew7715, ew7716, ew7663] at pI7703
    exact WP_zret dX11_fresh_13 rfl (nar_z (by omega)) ⟨⟨hI7703, rfl, fr7706, ⟨(by rw [ew7713, ew7714, ew7715, ew7716, ew7663]; omega), (by rw [e7707, ew7658] <;> exact (eq32 _ _).mpr (by omega)), (by rw [e7708, ew7659] <;> exact (eq32 _ _).mpr (by omega)), (by rw [e7709, ew7660] <;> exact (eq32 _ _).mpr (by omega)), (by rw [e7710, ew7661] <;> exact (eq32 _ _).mpr (by omega))⟩⟩, _, rfl, by omega, by omega⟩
