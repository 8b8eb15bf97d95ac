set_option maxHeartbeats 4000000 in
set_option maxRecDepth 100000 in
theorem sx_weighx_47 {g : GG} {n : Int} {L : Int32} (hy : LyX g)  {I : pI} {J : pJ} {R : pR} (hr : RfX g R) (hI : XI g n L I) (co : Int32) (st : Int32) (da : Int32) (co_lo : 0 ≤ co.toInt) (co_hi : co.toInt ≤ 60) (st_lo : 0 ≤ st.toInt) (st_hi : st.toInt ≤ 5) (da_lo : 0 ≤ da.toInt) (da_hi : da.toInt ≤ 6) {K : Int} (hK : 0 ≤ K ∧ K ≤ 16632) (hL : R (ad g 43) 7 = some (ad g 47)) (hml : 0 ≤ (I (ad g 43) 8).toInt ∧ (I (ad g 43) 8).toInt ≤ K) (hW : HW (I (ad g 44)) (I (ad g 47)) (I (ad g 24)) (I (ad g 25)) (I (ad g 26)) K co.toInt st.toInt da.toInt) : SP g mX2_weigh [.ref (ad g 43), .int co, .int st, .int da] I J R (fun r I' J' R' => (XI g n L I' ∧ R' = R ∧ fz 74 g [43] I I' ∧ J' = J ∧ (0 ≤ (I' (ad g 43) 0).toInt ∧ (I' (ad g 43) 0).toInt ≤ 594 + K ∧ AOKd (I (ad g 44)) co.toInt st.toInt (I' (ad g 43) 1).toInt ∧ I' (ad g 43) 8 = I (ad g 43) 8)) ∧ r = none) := by
  refine SP_of ⟨by decide, rfl⟩ (Nat.le_of_ble_eq_true rfl) ?_
  have e11219 : I (ad g 1) 1 = L := hI.2
  have b11220 := BT_get hI.1 1 1 2 (0) (0) (900) (by decide) 1 (by decide) (by decide)
  rw [e11219] at b11220
  have fr0 : fz 74 g [43] I I := fz_rf
  obtain ⟨w11221, ew11221⟩ : ∃ w : Int32, I (ad g 44) 1 = w := ⟨_, rfl⟩
  have bw11221 := BT_get hI.1 44 1 2 (0) (0) (3) (by decide) 1 (by decide) (by decide)
  rw [ew11221] at bw11221
  obtain ⟨w11222, ew11222⟩ : ∃ w : Int32, I (ad g 44) 3 = w := ⟨_, rfl⟩
  have bw11222 := BT_get hI.1 44 3 4 (0) (0) (20) (by decide) 3 (by decide) (by decide)
  rw [ew11222] at bw11222
  obtain ⟨w11223, ew11223⟩ : ∃ w : Int32, I (ad g 44) 4 = w := ⟨_, rfl⟩
  have bw11223 := BT_get hI.1 44 4 5 (0) (0) (20) (by decide) 4 (by decide) (by decide)
  rw [ew11223] at bw11223
  obtain ⟨w11224, ew11224⟩ : ∃ w : Int32, I (ad g 44) 5 = w := ⟨_, rfl⟩
  have bw11224 := BT_get hI.1 44 5 6 (0) (0) (3) (by decide) 5 (by decide) (by decide)
  rw [ew11224] at bw11224
  obtain ⟨w11225, ew11225⟩ : ∃ w : Int32, I (ad g 44) 6 = w := ⟨_, rfl⟩
  have bw11225 := BT_get hI.1 44 6 7 (0) (0) (2) (by decide) 6 (by decide) (by decide)
  rw [ew11225] at bw11225
  obtain ⟨w11226, ew11226⟩ : ∃ w : Int32, I (ad g 44) 7 = w := ⟨_, rfl⟩
  have bw11226 := BT_get hI.1 44 7 8 (0) (0) (1) (by decide) 7 (by decide) (by decide)
  rw [ew11226] at bw11226
  obtain ⟨w11227, ew11227⟩ : ∃ w : Int32, I (ad g 43) 8 = w := ⟨_, rfl⟩
  have hml0 := hml
  rw [ew11227] at hml0
  refine WP_aload_n dX2_weigh_0 rfl ?_
  refine WP_getr dX2_weigh_1 fX2_12 rfl (lyx_is hy 43 2 rfl) (rfx hr 43 3 44 (by decide)) ?_
  refine WP_iload_n dX2_weigh_4 rfl ?_
  refine WP_callV1 (k := 6) dX2_weigh_5 ⟨⟨⟨by decide, by decide⟩, zX6_mostFromStore⟩, lX2_82, by decide, rfl, vX6_mostFromStore.1, vX6_mostFromStore.2⟩ (lyx_is hy 44 6 rfl) (sx_mfx hy hr hI st (by omega) (by omega)) (Nat.le_of_ble_eq_true rfl) ?_
  intro r Ia Ja Ra hq
  obtain ⟨⟨ea, eb, ec⟩, v11228, rfl, av11228, bv11228, cv11228⟩ := hq
  show WP _ _ _ _ (.int _ :: _) _ _ _ _
  rw [ea, eb, ec]
  clear ea eb ec Ia Ja Ra
  rw [ew11226] at cv11228
  rw [ew11221] at cv11228
  refine WP_istore (ls' := [(0, _), (1, _), (2, _), (3, _), (4, _)]) dX2_weigh_8 (by decide) rfl ?_
  refine WP_aload_n dX2_weigh_10 rfl ?_
  refine WQ_iconst (-1) (-1) dX2_weigh_11 rfl rfl (fun v11229 hv11229 => ?_)
  refine WQ_puti dX2_weigh_12 fX2_127 rfl rfl (lyx_is hy 43 2 rfl) (fun I11230 eI11230 => ?_)
  have hI11230 : XI g n L I11230 := by rw [eI11230]; exact (xi_f0 hy hI (c := 43) (by decide) (Or.inl (by decide)) (by decide))
  have e11231 : I11230 (ad g 1) 1 = L := by rw [eI11230, pp_ne _ _ (Or.inl (lyx_ne hy (by decide) (by decide) (by decide)))]; exact e11219
  have e11232 : I11230 (ad g 44) 1 = w11221 := by rw [eI11230, pp_ne _ _ (Or.inl (lyx_ne hy (by decide) (by decide) (by decide)))]; exact ew11221
  have e11233 : I11230 (ad g 44) 3 = w11222 := by rw [eI11230, pp_ne _ _ (Or.inl (lyx_ne hy (by decide) (by decide) (by decide)))]; exact ew11222
  have e11234 : I11230 (ad g 44) 4 = w11223 := by rw [eI11230, pp_ne _ _ (Or.inl (lyx_ne hy (by decide) (by decide) (by decide)))]; exact ew11223
  have e11235 : I11230 (ad g 44) 5 = w11224 := by rw [eI11230, pp_ne _ _ (Or.inl (lyx_ne hy (by decide) (by decide) (by decide)))]; exact ew11224
  have e11236 : I11230 (ad g 44) 6 = w11225 := by rw [eI11230, pp_ne _ _ (Or.inl (lyx_ne hy (by decide) (by decide) (by decide)))]; exact ew11225
  have e11237 : I11230 (ad g 44) 7 = w11226 := by rw [eI11230, pp_ne _ _ (Or.inl (lyx_ne hy (by decide) (by decide) (by decide)))]; exact ew11226
  have e11238 : I11230 (ad g 43) 8 = w11227 := by rw [eI11230, pp_ne _ _ (Or.inr (by decide))]; exact ew11227
  have e11239 : I11230 (ad g 43) 0 = v11229 := by rw [eI11230, pp_self]
  have fr11240 : fz 74 g [43] I I11230 := by rw [eI11230]; exact fzx_pp hy fr0 (by decide) (by decide)
  clear eI11230
  refine WQ_iconst (0) (0) dX2_weigh_15 rfl rfl (fun v11241 hv11241 => ?_)
  refine WP_istore (ls' := [(0, _), (1, _), (2, _), (3, _), (4, _), (5, _)]) dX2_weigh_16 (by decide) rfl ?_
  have lp18_11253 : ∀ (mz : Nat) (i11242 : Int32) (I11243 : pI), XI g n L I11243 → fz 74 g [43] I I11243 → ∀ (w11245 : Int32), I11243 (ad g 44) 1 = w11245 → ∀ (w11246 : Int32), I11243 (ad g 44) 3 = w11246 → ∀ (w11247 : Int32), I11243 (ad g 44) 4 = w11247 → ∀ (w11248 : Int32), I11243 (ad g 44) 5 = w11248 → ∀ (w11249 : Int32), I11243 (ad g 44) 6 = w11249 → ∀ (w11250 : Int32), I11243 (ad g 44) 7 = w11250 → ∀ (w11251 : Int32), I11243 (ad g 43) 0 = w11251 → ∀ (w11252 : Int32), I11243 (ad g 43) 1 = w11252 → ∀ (w11253 : Int32), I11243 (ad g 43) 8 = w11253 → 0 ≤ i11242.toInt → i11242.toInt ≤ 3 → w11245.toInt = w11221.toInt → w11246.toInt = w11222.toInt → w11247.toInt = w11223.toInt → w11248.toInt = w11224.toInt → w11249.toInt = w11225.toInt → w11250.toInt = w11226.toInt → w11253.toInt = w11227.toInt → -1 ≤ w11251.toInt → w11251.toInt ≤ 594 + K → (i11242.toInt = 0 ∨ 0 ≤ w11251.toInt) → (w11251.toInt < 0 ∨ AOKd (I (ad g 44)) co.toInt st.toInt w11252.toInt) → (4 - i11242.toInt).toNat < mz → WP g mX2_weigh 18 [(0, .ref (ad g 43)), (1, .int co), (2, .int st), (3, .int da), (4, .int v11228), (5, .int i11242)] [] I11243 J R (fun r I' J' R' => (XI g n L I' ∧ R' = R ∧ fz 74 g [43] I I' ∧ J' = J ∧ (0 ≤ (I' (ad g 43) 0).toInt ∧ (I' (ad g 43) 0).toInt ≤ 594 + K ∧ AOKd (I (ad g 44)) co.toInt st.toInt (I' (ad g 43) 1).toInt ∧ I' (ad g 43) 8 = I (ad g 43) 8)) ∧ r = none) := by
    intro mz
    induction mz with
    | zero =>
      intro i11242 I11243 hI11243 fiI11243 w11245 ew11245 w11246 ew11246 w11247 ew11247 w11248 ew11248 w11249 ew11249 w11250 ew11250 w11251 ew11251 w11252 ew11252 w11253 ew11253 ai11242 bi11242 j0_I11243_11243 j1_I11243_11243 j2_I11243_11243 j3_I11243_11243 j4_I11243_11243 j5_I11243_11243 j6_I11243_11243 j7_I11243_11243 j8_I11243_11243 j9_I11243_11243 PA_I11243_11243 hmlp18_11253
      exact absurd hmlp18_11253 (Nat.not_lt_zero _)
    | succ mz ihlp18_11253 =>
      intro i11242 I11243 hI11243 fiI11243 w11245 ew11245 w11246 ew11246 w11247 ew11247 w11248 ew11248 w11249 ew11249 w11250 ew11250 w11251 ew11251 w11252 ew11252 w11253 ew11253 ai11242 bi11242 j0_I11243_11243 j1_I11243_11243 j2_I11243_11243 j3_I11243_11243 j4_I11243_11243 j5_I11243_11243 j6_I11243_11243 j7_I11243_11243 j8_I11243_11243 j9_I11243_11243 PA_I11243_11243 hmlp18_11253
      have bw11245 := BT_get hI11243.1 44 1 2 (0) (0) (3) (by decide) 1 (by decide) (by decide)
      rw [ew11245] at bw11245
      have bw11246 := BT_get hI11243.1 44 3 4 (0) (0) (20) (by decide) 3 (by decide) (by decide)
      rw [ew11246] at bw11246
      have bw11247 := BT_get hI11243.1 44 4 5 (0) (0) (20) (by decide) 4 (by decide) (by decide)
      rw [ew11247] at bw11247
      have bw11248 := BT_get hI11243.1 44 5 6 (0) (0) (3) (by decide) 5 (by decide) (by decide)
      rw [ew11248] at bw11248
      have bw11249 := BT_get hI11243.1 44 6 7 (0) (0) (2) (by decide) 6 (by decide) (by decide)
      rw [ew11249] at bw11249
      have bw11250 := BT_get hI11243.1 44 7 8 (0) (0) (1) (by decide) 7 (by decide) (by decide)
      rw [ew11250] at bw11250
      have bw11252 := BT_get hI11243.1 43 1 2 (0) (0) (47) (by decide) 1 (by decide) (by decide)
      rw [ew11252] at bw11252
      have e11255 : I11243 (ad g 1) 1 = L := hI11243.2
      have b11256 := BT_get hI11243.1 1 1 2 (0) (0) (900) (by decide) 1 (by decide) (by decide)
      rw [e11255] at b11256
      refine WP_iload dX2_weigh_18 rfl ?_
      refine WP_aload_n dX2_weigh_20 rfl ?_
      refine WP_getr dX2_weigh_21 fX2_12 rfl (lyx_is hy 43 2 rfl) (rfx hr 43 3 44 (by decide)) ?_
      refine WQ_getim dX2_weigh_24 fX2_92 rfl (lyx_is hy 44 6 rfl) ew11249 ?_
      refine WQ_icmp_gt 255 dX2_weigh_27 rfl (fun c11256 => ?_) (fun c11256 => ?_)
      · exact WP_vret dX2_weigh_255 rfl ⟨⟨hI11243, rfl, fiI11243, rfl, ⟨by rw [ew11251]; omega, by rw [ew11251]; omega, by rw [ew11252]; exact PA_I11243_11243.resolve_left (by omega), by rw [ew11253, ew11227]; exact (eq32 _ _).mpr (by omega)⟩⟩, rfl⟩
      · refine WQ_iconst (0) (0) dX2_weigh_30 rfl rfl (fun v11258 hv11258 => ?_)
        refine WP_istore (ls' := [(0, _), (1, _), (2, _), (3, _), (4, _), (5, _), (6, _)]) dX2_weigh_31 (by decide) rfl ?_
        have lp33_11270 : ∀ (mz : Nat) (i11259 : Int32) (I11260 : pI), XI g n L I11260 → fz 74 g [43] I I11260 → ∀ (w11262 : Int32), I11260 (ad g 44) 1 = w11262 → ∀ (w11263 : Int32), I11260 (ad g 44) 3 = w11263 → ∀ (w11264 : Int32), I11260 (ad g 44) 4 = w11264 → ∀ (w11265 : Int32), I11260 (ad g 44) 5 = w11265 → ∀ (w11266 : Int32), I11260 (ad g 44) 6 = w11266 → ∀ (w11267 : Int32), I11260 (ad g 44) 7 = w11267 → ∀ (w11268 : Int32), I11260 (ad g 43) 0 = w11268 → ∀ (w11269 : Int32), I11260 (ad g 43) 1 = w11269 → ∀ (w11270 : Int32), I11260 (ad g 43) 8 = w11270 → 0 ≤ i11259.toInt → i11259.toInt ≤ 4 → w11262.toInt = w11221.toInt → w11263.toInt = w11222.toInt → w11264.toInt = w11223.toInt → w11265.toInt = w11224.toInt → w11266.toInt = w11225.toInt → w11267.toInt = w11226.toInt → w11270.toInt = w11227.toInt → -1 ≤ w11268.toInt → w11268.toInt ≤ 594 + K → ((i11242.toInt = 0 ∧ i11259.toInt = 0) ∨ 0 ≤ w11268.toInt) → (w11268.toInt < 0 ∨ AOKd (I (ad g 44)) co.toInt st.toInt w11269.toInt) → (5 - i11259.toInt).toNat < mz → WP g mX2_weigh 33 [(0, .ref (ad g 43)), (1, .int co), (2, .int st), (3, .int da), (4, .int v11228), (5, .int i11242), (6, .int i11259)] [] I11260 J R (fun r I' J' R' => (XI g n L I' ∧ R' = R ∧ fz 74 g [43] I I' ∧ J' = J ∧ (0 ≤ (I' (ad g 43) 0).toInt ∧ (I' (ad g 43) 0).toInt ≤ 594 + K ∧ AOKd (I (ad g 44)) co.toInt st.toInt (I' (ad g 43) 1).toInt ∧ I' (ad g 43) 8 = I (ad g 43) 8)) ∧ r = none) := by
          intro mz
          induction mz with
          | zero =>
            intro i11259 I11260 hI11260 fiI11260 w11262 ew11262 w11263 ew11263 w11264 ew11264 w11265 ew11265 w11266 ew11266 w11267 ew11267 w11268 ew11268 w11269 ew11269 w11270 ew11270 ai11259 bi11259 j0_I11260_11260 j1_I11260_11260 j2_I11260_11260 j3_I11260_11260 j4_I11260_11260 j5_I11260_11260 j6_I11260_11260 j7_I11260_11260 j8_I11260_11260 j9_I11260_11260 PA_I11260_11260 hmlp33_11270
            exact absurd hmlp33_11270 (Nat.not_lt_zero _)
          | succ mz ihlp33_11270 =>
            intro i11259 I11260 hI11260 fiI11260 w11262 ew11262 w11263 ew11263 w11264 ew11264 w11265 ew11265 w11266 ew11266 w11267 ew11267 w11268 ew11268 w11269 ew11269 w11270 ew11270 ai11259 bi11259 j0_I11260_11260 j1_I11260_11260 j2_I11260_11260 j3_I11260_11260 j4_I11260_11260 j5_I11260_11260 j6_I11260_11260 j7_I11260_11260 j8_I11260_11260 j9_I11260_11260 PA_I11260_11260 hmlp33_11270
            have bw11262 := BT_get hI11260.1 44 1 2 (0) (0) (3) (by decide) 1 (by decide) (by decide)
            rw [ew11262] at bw11262
            have bw11263 := BT_get hI11260.1 44 3 4 (0) (0) (20) (by decide) 3 (by decide) (by decide)
            rw [ew11263] at bw11263
            have bw11264 := BT_get hI11260.1 44 4 5 (0) (0) (20) (by decide) 4 (by decide) (by decide)
            rw [ew11264] at bw11264
            have bw11265 := BT_get hI11260.1 44 5 6 (0) (0) (3) (by decide) 5 (by decide) (by decide)
            rw [ew11265] at bw11265
            have bw11266 := BT_get hI11260.1 44 6 7 (0) (0) (2) (by decide) 6 (by decide) (by decide)
            rw [ew11266] at bw11266
            have bw11267 := BT_get hI11260.1 44 7 8 (0) (0) (1) (by decide) 7 (by decide) (by decide)
            rw [ew11267] at bw11267
            have bw11269 := BT_get hI11260.1 43 1 2 (0) (0) (47) (by decide) 1 (by decide) (by decide)
            rw [ew11269] at bw11269
            have e11272 : I11260 (ad g 1) 1 = L := hI11260.2
            have b11273 := BT_get hI11260.1 1 1 2 (0) (0) (900) (by decide) 1 (by decide) (by decide)
            rw [e11272] at b11273
            refine WP_iload dX2_weigh_33 rfl ?_
            refine WP_iload dX2_weigh_35 rfl ?_
            refine WQ_icmp_gt 249 dX2_weigh_37 rfl (fun c11273 => ?_) (fun c11273 => ?_)
            · refine WP_iinc (ls' := [(0, _), (1, _), (2, _), (3, _), (4, _), (5, _), (6, _)]) dX2_weigh_249 rfl (by decide) rfl ?_
              have hv11275 : (i11242 + Int32.ofInt (1)).toInt = i11242.toInt + (1) := ia_n rfl (by omega) (by omega)
              generalize i11242 + Int32.ofInt (1) = v11275 at hv11275 ⊢
              refine WP_goto 18 dX2_weigh_252 rfl ?_
              exact WP_sub (fc rfl (fc rfl (fc rfl (fc rfl (fc rfl (fc rfl fn)))))) (ihlp18_11253 v11275 I11260 hI11260 fiI11260 w11262 ew11262 w11263 ew11263 w11264 ew11264 w11265 ew11265 w11266 ew11266 w11267 ew11267 w11268 ew11268 w11269 ew11269 w11270 ew11270 (by omega) (by omega) (by omega) (by omega) (by omega) (by omega) (by omega) (by omega) (by omega) (by omega) (by omega) (by omega) PA_I11260_11260 (by omega))
            · refine WP_iload_n dX2_weigh_40 rfl ?_
              refine WP_iload dX2_weigh_41 rfl ?_
              refine WQ_isub dX2_weigh_43 (by omega) (by omega) (fun v11276 hv11276 => ?_)
              refine WP_iload dX2_weigh_44 rfl ?_
              refine WQ_iadd dX2_weigh_46 (by omega) (by omega) (fun v11277 hv11277 => ?_)
              refine WP_istore (ls' := [(0, _), (1, _), (2, _), (3, _), (4, _), (5, _), (6, _), (7, _)]) dX2_weigh_47 (by decide) rfl ?_
              refine WP_aload_n dX2_weigh_49 rfl ?_
              refine WP_getr dX2_weigh_50 fX2_12 rfl (lyx_is hy 43 2 rfl) (rfx hr 43 3 44 (by decide)) ?_
              refine WQ_getim dX2_weigh_53 fX2_95 rfl (lyx_is hy 44 6 rfl) ew11265 ?_
              refine WP_aload_n dX2_weigh_56 rfl ?_
              refine WP_getr dX2_weigh_57 fX2_12 rfl (lyx_is hy 43 2 rfl) (rfx hr 43 3 44 (by decide)) ?_
              refine WQ_getim dX2_weigh_60 fX2_98 rfl (lyx_is hy 44 6 rfl) ew11262 ?_
              refine WP_iload dX2_weigh_63 rfl ?_
              refine WQ_isub dX2_weigh_65 (by omega) (by omega) (fun v11278 hv11278 => ?_)
              refine WQ_min dX2_weigh_66 lX2_101 ⟨by decide, Nat.le_of_ble_eq_true rfl⟩ (fun v11279 av11279 bv11279 cv11279 => ?_)
              refine WP_istore (ls' := [(0, _), (1, _), (2, _), (3, _), (4, _), (5, _), (6, _), (7, _), (8, _)]) dX2_weigh_69 (by decide) rfl ?_
              refine WP_iload dX2_weigh_71 rfl ?_
              refine WP_iload dX2_weigh_73 rfl ?_
              refine WQ_iadd dX2_weigh_75 (by omega) (by omega) (fun v11280 hv11280 => ?_)
              refine WP_aload_n dX2_weigh_76 rfl ?_
              refine WP_getr dX2_weigh_77 fX2_12 rfl (lyx_is hy 43 2 rfl) (rfx hr 43 3 44 (by decide)) ?_
              refine WQ_geti dX2_weigh_80 fX2_133 rfl (lyx_is hy 44 6 rfl) (BT_get hI11260.1 44 2 3 (0) (0) (99) (by decide) 2 (by decide) (by decide)) (fun v11281 ev11281 av11281 bv11281 => ?_)
              refine WQ_imulb (6) (99) dX2_weigh_83 ⟨by omega, by omega⟩ ⟨by omega, by omega⟩ (by decide) (fun v11282 pv11282 av11282 bv11282 cv11282 => ?_)
              refine WP_aload_n dX2_weigh_84 rfl ?_
              refine WQ_getim dX2_weigh_85 fX2_67 rfl (lyx_is hy 43 2 rfl) ew11270 ?_
              refine WQ_iadd dX2_weigh_88 (by omega) (by omega) (fun v11283 hv11283 => ?_)
              refine WP_istore (ls' := [(0, _), (1, _), (2, _), (3, _), (4, _), (5, _), (6, _), (7, _), (8, _), (9, _)]) dX2_weigh_89 (by decide) rfl ?_
              refine WP_iload dX2_weigh_91 rfl ?_
              refine WQ_iconst (5) (5) dX2_weigh_93 rfl rfl (fun v11284 hv11284 => ?_)
              refine WQ_icmp_gt 243 dX2_weigh_94 rfl (fun c11284 => ?_) (fun c11284 => ?_)
              · refine WP_iinc (ls' := [(0, _), (1, _), (2, _), (3, _), (4, _), (5, _), (6, _), (7, _), (8, _), (9, _)]) dX2_weigh_243 rfl (by decide) rfl ?_
                have hv11286 : (i11259 + Int32.ofInt (1)).toInt = i11259.toInt + (1) := ia_n rfl (by omega) (by omega)
                generalize i11259 + Int32.ofInt (1) = v11286 at hv11286 ⊢
                refine WP_goto 33 dX2_weigh_246 rfl ?_
                exact WP_sub (fc rfl (fc rfl (fc rfl (fc rfl (fc rfl (fc rfl (fc rfl fn))))))) (ihlp33_11270 v11286 I11260 hI11260 fiI11260 w11262 ew11262 w11263 ew11263 w11264 ew11264 w11265 ew11265 w11266 ew11266 w11267 ew11267 w11268 ew11268 w11269 ew11269 w11270 ew11270 (by omega) (by omega) (by omega) (by omega) (by omega) (by omega) (by omega) (by omega) (by omega) (by omega) (by omega) (by omega) PA_I11260_11260 (by omega))
              · refine WP_iload dX2_weigh_97 rfl ?_
                refine WP_aload_n dX2_weigh_99 rfl ?_
                refine WQ_getim dX2_weigh_100 fX2_127 rfl (lyx_is hy 43 2 rfl) ew11268 ?_
                refine WQ_icmp_gt 109 dX2_weigh_103 rfl (fun c11286 => ?_) (fun c11286 => ?_)
                · refine WP_iload_n dX2_weigh_109 rfl ?_
                  refine WP_iload dX2_weigh_110 rfl ?_
                  refine WP_aload_n dX2_weigh_112 rfl ?_
                  refine WP_getr dX2_weigh_113 fX2_12 rfl (lyx_is hy 43 2 rfl) (rfx hr 43 3 44 (by decide)) ?_
                  refine WQ_getim dX2_weigh_116 fX2_107 rfl (lyx_is hy 44 6 rfl) ew11264 ?_
                  refine WQ_imulb (2) (20) dX2_weigh_119 ⟨by omega, by omega⟩ ⟨by omega, by omega⟩ (by decide) (fun v11288 pv11288 av11288 bv11288 cv11288 => ?_)
                  refine WQ_isub dX2_weigh_120 (by omega) (by omega) (fun v11289 hv11289 => ?_)
                  refine WP_istore (ls' := [(0, _), (1, _), (2, _), (3, _), (4, _), (5, _), (6, _), (7, _), (8, _), (9, _), (10, _)]) dX2_weigh_121 (by decide) rfl ?_
                  refine WQ_iconst (0) (0) dX2_weigh_123 rfl rfl (fun v11290 hv11290 => ?_)
                  refine WP_istore (ls' := [(0, _), (1, _), (2, _), (3, _), (4, _), (5, _), (6, _), (7, _), (8, _), (9, _), (10, _), (11, _)]) dX2_weigh_124 (by decide) rfl ?_
                  have lp126_11303 : ∀ (mz : Nat) (i11291 : Int32) (i11292 : Int32) (I11293 : pI), XI g n L I11293 → fz 74 g [43] I I11293 → ∀ (w11295 : Int32), I11293 (ad g 44) 1 = w11295 → ∀ (w11296 : Int32), I11293 (ad g 44) 3 = w11296 → ∀ (w11297 : Int32), I11293 (ad g 44) 4 = w11297 → ∀ (w11298 : Int32), I11293 (ad g 44) 5 = w11298 → ∀ (w11299 : Int32), I11293 (ad g 44) 6 = w11299 → ∀ (w11300 : Int32), I11293 (ad g 44) 7 = w11300 → ∀ (w11301 : Int32), I11293 (ad g 43) 0 = w11301 → ∀ (w11302 : Int32), I11293 (ad g 43) 1 = w11302 → ∀ (w11303 : Int32), I11293 (ad g 43) 8 = w11303 → -60 ≤ i11291.toInt → i11291.toInt ≤ 60 → 0 ≤ i11292.toInt → i11292.toInt ≤ 4 → w11295.toInt = w11221.toInt → w11296.toInt = w11222.toInt → w11297.toInt = w11223.toInt → w11298.toInt = w11224.toInt → w11299.toInt = w11225.toInt → w11300.toInt = w11226.toInt → w11303.toInt = w11227.toInt → -1 ≤ w11301.toInt → w11301.toInt ≤ 594 + K → ((i11242.toInt = 0 ∧ i11259.toInt = 0 ∧ i11292.toInt = 0) ∨ 0 ≤ w11301.toInt) → (i11242.toInt ≠ 0 ∨ i11292.toInt ≠ 0 ∨ i11291.toInt = co.toInt) → (w11301.toInt < 0 ∨ AOKd (I (ad g 44)) co.toInt st.toInt w11302.toInt) → (i11291.toInt + i11242.toInt * w11223.toInt + i11292.toInt * w11222.toInt = co.toInt) → (5 - i11292.toInt).toNat < mz → WP g mX2_weigh 126 [(0, .ref (ad g 43)), (1, .int co), (2, .int st), (3, .int da), (4, .int v11228), (5, .int i11242), (6, .int i11259), (7, .int v11277), (8, .int v11279), (9, .int v11283), (10, .int i11291), (11, .int i11292)] [] I11293 J R (fun r I' J' R' => (XI g n L I' ∧ R' = R ∧ fz 74 g [43] I I' ∧ J' = J ∧ (0 ≤ (I' (ad g 43) 0).toInt ∧ (I' (ad g 43) 0).toInt ≤ 594 + K ∧ AOKd (I (ad g 44)) co.toInt st.toInt (I' (ad g 43) 1).toInt ∧ I' (ad g 43) 8 = I (ad g 43) 8)) ∧ r = none) := by
                    intro mz
                    induction mz with
                    | zero =>
                      intro i11291 i11292 I11293 hI11293 fiI11293 w11295 ew11295 w11296 ew11296 w11297 ew11297 w11298 ew11298 w11299 ew11299 w11300 ew11300 w11301 ew11301 w11302 ew11302 w11303 ew11303 ai11291 bi11291 ai11292 bi11292 j0_I11293_11293 j1_I11293_11293 j2_I11293_11293 j3_I11293_11293 j4_I11293_11293 j5_I11293_11293 j6_I11293_11293 j7_I11293_11293 j8_I11293_11293 j9_I11293_11293 j10_I11293_11293 PA_I11293_11293 PL_I11293_11293 hmlp126_11303
                      exact absurd hmlp126_11303 (Nat.not_lt_zero _)
                    | succ mz ihlp126_11303 =>
                      intro i11291 i11292 I11293 hI11293 fiI11293 w11295 ew11295 w11296 ew11296 w11297 ew11297 w11298 ew11298 w11299 ew11299 w11300 ew11300 w11301 ew11301 w11302 ew11302 w11303 ew11303 ai11291 bi11291 ai11292 bi11292 j0_I11293_11293 j1_I11293_11293 j2_I11293_11293 j3_I11293_11293 j4_I11293_11293 j5_I11293_11293 j6_I11293_11293 j7_I11293_11293 j8_I11293_11293 j9_I11293_11293 j10_I11293_11293 PA_I11293_11293 PL_I11293_11293 hmlp126_11303
                      have bw11295 := BT_get hI11293.1 44 1 2 (0) (0) (3) (by decide) 1 (by decide) (by decide)
                      rw [ew11295] at bw11295
                      have bw11296 := BT_get hI11293.1 44 3 4 (0) (0) (20) (by decide) 3 (by decide) (by decide)
                      rw [ew11296] at bw11296
                      have bw11297 := BT_get hI11293.1 44 4 5 (0) (0) (20) (by decide) 4 (by decide) (by decide)
                      rw [ew11297] at bw11297
                      have bw11298 := BT_get hI11293.1 44 5 6 (0) (0) (3) (by decide) 5 (by decide) (by decide)
                      rw [ew11298] at bw11298
                      have bw11299 := BT_get hI11293.1 44 6 7 (0) (0) (2) (by decide) 6 (by decide) (by decide)
                      rw [ew11299] at bw11299
                      have bw11300 := BT_get hI11293.1 44 7 8 (0) (0) (1) (by decide) 7 (by decide) (by decide)
                      rw [ew11300] at bw11300
                      have bw11302 := BT_get hI11293.1 43 1 2 (0) (0) (47) (by decide) 1 (by decide) (by decide)
                      rw [ew11302] at bw11302
                      have e11305 : I11293 (ad g 1) 1 = L := hI11293.2
                      have b11306 := BT_get hI11293.1 1 1 2 (0) (0) (900) (by decide) 1 (by decide) (by decide)
                      rw [e11305] at b11306
                      refine WP_iload dX2_weigh_126 rfl ?_
                      refine WP_iload dX2_weigh_128 rfl ?_
                      refine WQ_icmp_gt 243 dX2_weigh_130 rfl (fun c11306 => ?_) (fun c11306 => ?_)
                      · refine WP_iinc (ls' := [(0, _), (1, _), (2, _), (3, _), (4, _), (5, _), (6, _), (7, _), (8, _), (9, _), (10, _), (11, _)]) dX2_weigh_243 rfl (by decide) rfl ?_
                        have hv11308 : (i11259 + Int32.ofInt (1)).toInt = i11259.toInt + (1) := ia_n rfl (by omega) (by omega)
                        generalize i11259 + Int32.ofInt (1) = v11308 at hv11308 ⊢
                        refine WP_goto 33 dX2_weigh_246 rfl ?_
                        exact WP_sub (fc rfl (fc rfl (fc rfl (fc rfl (fc rfl (fc rfl (fc rfl fn))))))) (ihlp33_11270 v11308 I11293 hI11293 fiI11293 w11295 ew11295 w11296 ew11296 w11297 ew11297 w11298 ew11298 w11299 ew11299 w11300 ew11300 w11301 ew11301 w11302 ew11302 w11303 ew11303 (by omega) (by omega) (by omega) (by omega) (by omega) (by omega) (by omega) (by omega) (by omega) (by omega) (by omega) (by omega) PA_I11293_11293 (by omega))
                      · refine WP_iload dX2_weigh_133 rfl ?_
                        refine WQ_if_lt 243 dX2_weigh_135 rfl (fun c11308 => ?_) (fun c11308 => ?_)
                        · refine WP_iinc (ls' := [(0, _), (1, _), (2, _), (3, _), (4, _), (5, _), (6, _), (7, _), (8, _), (9, _), (10, _), (11, _)]) dX2_weigh_243 rfl (by decide) rfl ?_
                          have hv11310 : (i11259 + Int32.ofInt (1)).toInt = i11259.toInt + (1) := ia_n rfl (by omega) (by omega)
                          generalize i11259 + Int32.ofInt (1) = v11310 at hv11310 ⊢
                          refine WP_goto 33 dX2_weigh_246 rfl ?_
                          exact WP_sub (fc rfl (fc rfl (fc rfl (fc rfl (fc rfl (fc rfl (fc rfl fn))))))) (ihlp33_11270 v11310 I11293 hI11293 fiI11293 w11295 ew11295 w11296 ew11296 w11297 ew11297 w11298 ew11298 w11299 ew11299 w11300 ew11300 w11301 ew11301 w11302 ew11302 w11303 ew11303 (by omega) (by omega) (by omega) (by omega) (by omega) (by omega) (by omega) (by omega) (by omega) (by omega) (by omega) (by omega) PA_I11293_11293 (by omega))
                        · refine WP_aload_n dX2_weigh_138 rfl ?_
                          refine WP_getr dX2_weigh_139 fX2_32 rfl (lyx_is hy 43 2 rfl) (rfx hr 43 2 5 (by decide)) ?_
                          refine WP_iload dX2_weigh_142 rfl ?_
                          refine WP_iload dX2_weigh_144 rfl ?_
                          refine WP_iload_n dX2_weigh_146 rfl ?_
                          refine WP_callV3 (k := 0) dX2_weigh_147 ⟨⟨⟨by decide, by decide⟩, zX0_coinsBehind⟩, lX2_116, by decide, rfl, vX0_coinsBehind.1, vX0_coinsBehind.2⟩ (lyx_is hy 5 0 rfl) (sx_cbx hy hr hI11293 i11291 v11277 da (by omega) (by omega) (by omega) (by omega) (by omega) (by omega)) (Nat.le_of_ble_eq_true rfl) ?_
                          intro r Ia Ja Ra hq
                          obtain ⟨⟨ea, eb, ec⟩, v11311, rfl, av11311, bv11311, cv11311⟩ := hq
                          show WP _ _ _ _ (.int _ :: _) _ _ _ _
                          rw [ea, eb, ec]
                          clear ea eb ec Ia Ja Ra
                          refine WP_istore (ls' := [(0, _), (1, _), (2, _), (3, _), (4, _), (5, _), (6, _), (7, _), (8, _), (9, _), (10, _), (11, _), (12, _)]) dX2_weigh_150 (by decide) rfl ?_
                          refine WP_aload_n dX2_weigh_152 rfl ?_
                          refine WP_getr dX2_weigh_153 fX2_29 rfl (lyx_is hy 43 2 rfl) hL ?_
                          refine WP_aload_n dX2_weigh_156 rfl ?_
                          refine WP_getr dX2_weigh_157 fX2_32 rfl (lyx_is hy 43 2 rfl) (rfx hr 43 2 5 (by decide)) ?_
                          refine WP_getr dX2_weigh_160 fX2_113 rfl (lyx_is hy 5 0 rfl) (rfx hr 5 5 26 (by decide)) ?_
                          refine WP_iload dX2_weigh_163 rfl ?_
                          refine WQ_iald dX2_weigh_165 (lyx_is hy 26 13 rfl) (lyx_n hy 26 6 rfl) (by omega) (by omega) (fun q hq => BT_get hI11293.1 26 0 6 (0) (0) (5) (by decide) q (Nat.zero_le _) hq) (fun v11312 av11312 bv11312 ev11312 => ?_)
                          refine WQ_bipush (61) (61) dX2_weigh_166 rfl rfl (fun v11313 hv11313 => ?_)
                          refine WQ_imulk (61) dX2_weigh_168 hv11313 (by omega) (by omega) (fun v11314 hv11314 => ?_)
                          refine WP_iload dX2_weigh_169 rfl ?_
                          refine WQ_iadd dX2_weigh_171 (by omega) (by omega) (fun v11315 hv11315 => ?_)
                          have acv11316 : ACT (I (ad g 44)) st.toInt co.toInt i11242.toInt i11259.toInt i11292.toInt v11277.toInt i11291.toInt := ⟨by omega, by rw [ew11225]; omega, by omega, by rw [ew11226, ew11221]; omega, by omega, by rw [ew11224]; omega, by rw [ew11221]; omega, by omega, by omega, by omega, by rw [ew11223, ew11222]; exact PL_I11293_11293⟩
                          have s1v11316 : SB (I (ad g 26)) v11277.toInt = v11312.toInt := by unfold SB; rw [← fz_at fiI11293 26 (by decide) (by decide), ← cl (x := v11277) (n := v11277.toInt.toNat) (by omega), ev11312]
                          have s2v11316 := cv11311
                          rw [fz_at fiI11293 24 (by decide) (by decide), fz_at fiI11293 25 (by decide) (by decide)] at s2v11316
                          have s3v11316 := hW _ _ _ _ _ acv11316
                          rw [s1v11316, ← s2v11316, show (61 * v11312.toInt + v11311.toInt).toNat = v11315.toInt.toNat by omega] at s3v11316
                          refine WQ_ialdq (q := v11315.toInt.toNat) dX2_weigh_172 (lyx_is hy 47 13 rfl) (lyx_n hy 47 366 rfl) (by omega) (by omega) (by omega) (by rw [fz_at fiI11293 47 (by decide) (by decide)]; exact s3v11316) (fun v11316 av11316 bv11316 ev11316 => ?_)
                          refine WP_istore (ls' := [(0, _), (1, _), (2, _), (3, _), (4, _), (5, _), (6, _), (7, _), (8, _), (9, _), (10, _), (11, _), (12, _), (13, _)]) dX2_weigh_173 (by decide) rfl ?_
                          refine WP_iload dX2_weigh_175 rfl ?_
                          refine WP_iload dX2_weigh_177 rfl ?_
                          refine WQ_iadd dX2_weigh_179 (by omega) (by omega) (fun v11317 hv11317 => ?_)
                          refine WP_aload_n dX2_weigh_180 rfl ?_
                          refine WP_getr dX2_weigh_181 fX2_12 rfl (lyx_is hy 43 2 rfl) (rfx hr 43 3 44 (by decide)) ?_
                          refine WQ_geti dX2_weigh_184 fX2_133 rfl (lyx_is hy 44 6 rfl) (BT_get hI11293.1 44 2 3 (0) (0) (99) (by decide) 2 (by decide) (by decide)) (fun v11318 ev11318 av11318 bv11318 => ?_)
                          refine WQ_imulb (6) (99) dX2_weigh_187 ⟨by omega, by omega⟩ ⟨by omega, by omega⟩ (by decide) (fun v11319 pv11319 av11319 bv11319 cv11319 => ?_)
                          refine WP_iload dX2_weigh_188 rfl ?_
                          refine WQ_iadd dX2_weigh_190 (by omega) (by omega) (fun v11320 hv11320 => ?_)
                          refine WP_istore (ls' := [(0, _), (1, _), (2, _), (3, _), (4, _), (5, _), (6, _), (7, _), (8, _), (9, _), (10, _), (11, _), (12, _), (13, _), (14, _)]) dX2_weigh_191 (by decide) rfl ?_
                          refine WP_iload dX2_weigh_193 rfl ?_
                          refine WP_aload_n dX2_weigh_195 rfl ?_
                          refine WQ_getim dX2_weigh_196 fX2_127 rfl (lyx_is hy 43 2 rfl) ew11301 ?_
                          refine WQ_icmp_le 225 dX2_weigh_199 rfl (fun c11320 => ?_) (fun c11320 => ?_)
                          · refine WP_iload dX2_weigh_225 rfl ?_
                            refine WP_aload_n dX2_weigh_227 rfl ?_
                            refine WP_getr dX2_weigh_228 fX2_12 rfl (lyx_is hy 43 2 rfl) (rfx hr 43 3 44 (by decide)) ?_
                            refine WQ_getim dX2_weigh_231 fX2_110 rfl (lyx_is hy 44 6 rfl) ew11296 ?_
                            refine WQ_isub dX2_weigh_234 (by omega) (by omega) (fun v11322 hv11322 => ?_)
                            refine WP_istore (ls' := [(0, _), (1, _), (2, _), (3, _), (4, _), (5, _), (6, _), (7, _), (8, _), (9, _), (10, _), (11, _), (12, _), (13, _), (14, _)]) dX2_weigh_235 (by decide) rfl ?_
                            refine WP_iinc (ls' := [(0, _), (1, _), (2, _), (3, _), (4, _), (5, _), (6, _), (7, _), (8, _), (9, _), (10, _), (11, _), (12, _), (13, _), (14, _)]) dX2_weigh_237 rfl (by decide) rfl ?_
                            have hv11323 : (i11292 + Int32.ofInt (1)).toInt = i11292.toInt + (1) := ia_n rfl (by omega) (by omega)
                            generalize i11292 + Int32.ofInt (1) = v11323 at hv11323 ⊢
                            refine WP_goto 126 dX2_weigh_240 rfl ?_
                            exact WP_sub (fc rfl (fc rfl (fc rfl (fc rfl (fc rfl (fc rfl (fc rfl (fc rfl (fc rfl (fc rfl (fc rfl (fc rfl fn)))))))))))) (ihlp126_11303 v11322 v11323 I11293 hI11293 fiI11293 w11295 ew11295 w11296 ew11296 w11297 ew11297 w11298 ew11298 w11299 ew11299 w11300 ew11300 w11301 ew11301 w11302 ew11302 w11303 ew11303 (by omega) (by omega) (by omega) (by omega) (by omega) (by omega) (by omega) (by omega) (by omega) (by omega) (by omega) (by omega) (by omega) (by omega) (by omega) PA_I11293_11293 (by rw [hv11323, Int.add_mul, Int.one_mul]; have hq := PL_I11293_11293; omega) (by omega))
                          · refine WP_aload_n dX2_weigh_202 rfl ?_
                            refine WP_iload dX2_weigh_203 rfl ?_
                            refine WQ_puti dX2_weigh_205 fX2_127 rfl rfl (lyx_is hy 43 2 rfl) (fun I11324 eI11324 => ?_)
                            have hI11324 : XI g n L I11324 := by rw [eI11324]; exact (xi_f0 hy hI11293 (c := 43) (by decide) (Or.inl (by decide)) (by decide))
                            have e11325 : I11324 (ad g 44) 1 = w11295 := by rw [eI11324, pp_ne _ _ (Or.inl (lyx_ne hy (by decide) (by decide) (by decide)))]; exact ew11295
                            have e11326 : I11324 (ad g 44) 3 = w11296 := by rw [eI11324, pp_ne _ _ (Or.inl (lyx_ne hy (by decide) (by decide) (by decide)))]; exact ew11296
                            have e11327 : I11324 (ad g 44) 4 = w11297 := by rw [eI11324, pp_ne _ _ (Or.inl (lyx_ne hy (by decide) (by decide) (by decide)))]; exact ew11297
                            have e11328 : I11324 (ad g 44) 5 = w11298 := by rw [eI11324, pp_ne _ _ (Or.inl (lyx_ne hy (by decide) (by decide) (by decide)))]; exact ew11298
                            have e11329 : I11324 (ad g 44) 6 = w11299 := by rw [eI11324, pp_ne _ _ (Or.inl (lyx_ne hy (by decide) (by decide) (by decide)))]; exact ew11299
                            have e11330 : I11324 (ad g 44) 7 = w11300 := by rw [eI11324, pp_ne _ _ (Or.inl (lyx_ne hy (by decide) (by decide) (by decide)))]; exact ew11300
                            have e11331 : I11324 (ad g 43) 1 = w11302 := by rw [eI11324, pp_ne _ _ (Or.inr (by decide))]; exact ew11302
                            have e11332 : I11324 (ad g 43) 8 = w11303 := by rw [eI11324, pp_ne _ _ (Or.inr (by decide))]; exact ew11303
                            have e11333 : I11324 (ad g 1) 1 = L := by rw [eI11324, pp_ne _ _ (Or.inl (lyx_ne hy (by decide) (by decide) (by decide)))]; exact e11305
                            have e11334 : I11324 (ad g 26) v11277.toNatClampNeg = v11312 := by rw [eI11324, pp_ne _ _ (Or.inl (lyx_ne hy (by decide) (by decide) (by decide)))]; exact ev11312
                            have e11335 : I11324 (ad g 44) 2 = v11318 := by rw [eI11324, pp_ne _ _ (Or.inl (lyx_ne hy (by decide) (by decide) (by decide)))]; exact ev11318
                            have e11336 : I11324 (ad g 43) 0 = v11320 := by rw [eI11324, pp_self]
                            have fr11337 : fz 74 g [43] I I11324 := by rw [eI11324]; exact fzx_pp hy fiI11293 (by decide) (by decide)
                            clear eI11324
                            refine WP_aload_n dX2_weigh_208 rfl ?_
                            refine WQ_bipush (16) (16) dX2_weigh_209 rfl rfl (fun v11338 hv11338 => ?_)
                            refine WP_iload dX2_weigh_211 rfl ?_
                            refine WQ_imulK (16) dX2_weigh_213 hv11338 (by omega) (by omega) (fun v11339 hv11339 => ?_)
                            refine WQ_iconst (4) (4) dX2_weigh_214 rfl rfl (fun v11340 hv11340 => ?_)
                            refine WP_iload dX2_weigh_215 rfl ?_
                            refine WQ_imulK (4) dX2_weigh_217 hv11340 (by omega) (by omega) (fun v11341 hv11341 => ?_)
                            refine WQ_iadd dX2_weigh_218 (by omega) (by omega) (fun v11342 hv11342 => ?_)
                            refine WP_iload dX2_weigh_219 rfl ?_
                            refine WQ_iadd dX2_weigh_221 (by omega) (by omega) (fun v11343 hv11343 => ?_)
                            refine WQ_puti dX2_weigh_222 fX2_75 rfl rfl (lyx_is hy 43 2 rfl) (fun I11344 eI11344 => ?_)
                            have hI11344 : XI g n L I11344 := by rw [eI11344]; exact (xi_f hy hI11324 (c := 43) (0) (0) (47) (by decide) (Or.inl (by decide)) (by decide) (by omega) (by omega))
                            have e11345 : I11344 (ad g 44) 1 = w11295 := by rw [eI11344, pp_ne _ _ (Or.inl (lyx_ne hy (by decide) (by decide) (by decide)))]; exact e11325
                            have e11346 : I11344 (ad g 44) 3 = w11296 := by rw [eI11344, pp_ne _ _ (Or.inl (lyx_ne hy (by decide) (by decide) (by decide)))]; exact e11326
                            have e11347 : I11344 (ad g 44) 4 = w11297 := by rw [eI11344, pp_ne _ _ (Or.inl (lyx_ne hy (by decide) (by decide) (by decide)))]; exact e11327
                            have e11348 : I11344 (ad g 44) 5 = w11298 := by rw [eI11344, pp_ne _ _ (Or.inl (lyx_ne hy (by decide) (by decide) (by decide)))]; exact e11328
                            have e11349 : I11344 (ad g 44) 6 = w11299 := by rw [eI11344, pp_ne _ _ (Or.inl (lyx_ne hy (by decide) (by decide) (by decide)))]; exact e11329
                            have e11350 : I11344 (ad g 44) 7 = w11300 := by rw [eI11344, pp_ne _ _ (Or.inl (lyx_ne hy (by decide) (by decide) (by decide)))]; exact e11330
                            have e11351 : I11344 (ad g 43) 8 = w11303 := by rw [eI11344, pp_ne _ _ (Or.inr (by decide))]; exact e11332
                            have e11352 : I11344 (ad g 1) 1 = L := by rw [eI11344, pp_ne _ _ (Or.inl (lyx_ne hy (by decide) (by decide) (by decide)))]; exact e11333
                            have e11353 : I11344 (ad g 26) v11277.toNatClampNeg = v11312 := by rw [eI11344, pp_ne _ _ (Or.inl (lyx_ne hy (by decide) (by decide) (by decide)))]; exact e11334
                            have e11354 : I11344 (ad g 44) 2 = v11318 := by rw [eI11344, pp_ne _ _ (Or.inl (lyx_ne hy (by decide) (by decide) (by decide)))]; exact e11335
                            have e11355 : I11344 (ad g 43) 0 = v11320 := by rw [eI11344, pp_ne _ _ (Or.inr (by decide))]; exact e11336
                            have e11356 : I11344 (ad g 43) 1 = v11343 := by rw [eI11344, pp_self]
                            have fr11357 : fz 74 g [43] I I11344 := by rw [eI11344]; exact fzx_pp hy fr11337 (by decide) (by decide)
                            have AI11344 : v11320.toInt < 0 ∨ AOKd (I (ad g 44)) co.toInt st.toInt v11343.toInt := Or.inr (AOK_set acv11316 (by omega) (by omega) (by omega) (by omega) (by omega))
                            clear eI11344
                            refine WP_iload dX2_weigh_225 rfl ?_
                            refine WP_aload_n dX2_weigh_227 rfl ?_
                            refine WP_getr dX2_weigh_228 fX2_12 rfl (lyx_is hy 43 2 rfl) (rfx hr 43 3 44 (by decide)) ?_
                            refine WQ_getim dX2_weigh_231 fX2_110 rfl (lyx_is hy 44 6 rfl) e11346 ?_
                            refine WQ_isub dX2_weigh_234 (by omega) (by omega) (fun v11358 hv11358 => ?_)
                            refine WP_istore (ls' := [(0, _), (1, _), (2, _), (3, _), (4, _), (5, _), (6, _), (7, _), (8, _), (9, _), (10, _), (11, _), (12, _), (13, _), (14, _)]) dX2_weigh_235 (by decide) rfl ?_
                            refine WP_iinc (ls' := [(0, _), (1, _), (2, _), (3, _), (4, _), (5, _), (6, _), (7, _), (8, _), (9, _), (10, _), (11, _), (12, _), (13, _), (14, _)]) dX2_weigh_237 rfl (by decide) rfl ?_
                            have hv11359 : (i11292 + Int32.ofInt (1)).toInt = i11292.toInt + (1) := ia_n rfl (by omega) (by omega)
                            generalize i11292 + Int32.ofInt (1) = v11359 at hv11359 ⊢
                            refine WP_goto 126 dX2_weigh_240 rfl ?_
                            exact WP_sub (fc rfl (fc rfl (fc rfl (fc rfl (fc rfl (fc rfl (fc rfl (fc rfl (fc rfl (fc rfl (fc rfl (fc rfl fn)))))))))))) (ihlp126_11303 v11358 v11359 I11344 hI11344 fr11357 w11295 e11345 w11296 e11346 w11297 e11347 w11298 e11348 w11299 e11349 w11300 e11350 v11320 e11355 v11343 e11356 w11303 e11351 (by omega) (by omega) (by omega) (by omega) (by omega) (by omega) (by omega) (by omega) (by omega) (by omega) (by omega) (by omega) (by omega) (by omega) (by omega) AI11344 (by rw [hv11359, Int.add_mul, Int.one_mul]; have hq := PL_I11293_11293; omega) (by omega))
                  exact WP_sub (fc rfl (fc rfl (fc rfl (fc rfl (fc rfl (fc rfl (fc rfl (fc rfl (fc rfl (fc rfl (fc rfl (fc rfl fn)))))))))))) (lp126_11303 _ v11289 v11290 I11260 hI11260 fiI11260 w11262 ew11262 w11263 ew11263 w11264 ew11264 w11265 ew11265 w11266 ew11266 w11267 ew11267 w11268 ew11268 w11269 ew11269 w11270 ew11270 (by omega) (by omega) (by omega) (by omega) (by omega) (by omega) (by omega) (by omega) (by omega) (by omega) (by omega) (by omega) (by omega) (by omega) (by omega) PA_I11260_11260 (by have hq := pv11288; rw [show w11264.toInt = w11223.toInt by omega] at hq; rw [hv11290, Int.zero_mul]; omega) (Nat.lt_succ_self _))
                · refine WP_goto 243 dX2_weigh_106 rfl ?_
                  refine WP_iinc (ls' := [(0, _), (1, _), (2, _), (3, _), (4, _), (5, _), (6, _), (7, _), (8, _), (9, _)]) dX2_weigh_243 rfl (by decide) rfl ?_
                  have hv11360 : (i11259 + Int32.ofInt (1)).toInt = i11259.toInt + (1) := ia_n rfl (by omega) (by omega)
                  generalize i11259 + Int32.ofInt (1) = v11360 at hv11360 ⊢
                  refine WP_goto 33 dX2_weigh_246 rfl ?_
                  exact WP_sub (fc rfl (fc rfl (fc rfl (fc rfl (fc rfl (fc rfl (fc rfl fn))))))) (ihlp33_11270 v11360 I11260 hI11260 fiI11260 w11262 ew11262 w11263 ew11263 w11264 ew11264 w11265 ew11265 w11266 ew11266 w11267 ew11267 w11268 ew11268 w11269 ew11269 w11270 ew11270 (by omega) (by omega) (by omega) (by omega) (by omega) (by omega) (by omega) (by omega) (by omega) (by omega) (by omega) (by omega) PA_I11260_11260 (by omega))
        exact WP_sub (fc rfl (fc rfl (fc rfl (fc rfl (fc rfl (fc rfl (fc rfl fn))))))) (lp33_11270 _ v11258 I11243 hI11243 fiI11243 w11245 ew11245 w11246 ew11246 w11247 ew11247 w11248 ew11248 w11249 ew11249 w11250 ew11250 w11251 ew11251 w11252 ew11252 w11253 ew11253 (by omega) (by omega) (by omega) (by omega) (by omega) (by omega) (by omega) (by omega) (by omega) (by omega) (by omega) (by omega) PA_I11243_11243 (Nat.lt_succ_self _))
  obtain ⟨w11361, ew11361⟩ : ∃ w : Int32, I11230 (ad g 43) 1 = w := ⟨_, rfl⟩
  have bw11361 := BT_get hI11230.1 43 1 2 (0) (0) (47) (by decide) 1 (by decide) (by decide)
  rw [ew11361] at bw11361
  exact WP_sub (fc rfl (fc rfl (fc rfl (fc rfl (fc rfl (fc rfl fn)))))) (lp18_11253 _ v11241 I11230 hI11230 fr11240 w11221 e11232 w11222 e11233 w11223 e11234 w11224 e11235 w11225 e11236 w11226 e11237 v11229 e11239 w11361 ew11361 w11227 e11238 (by omega) (by omega) (by omega) (by omega) (by omega) (by omega) (by omega) (by omega) (by omega) (by omega) (by omega) (by omega) (Or.inl (by omega)) (Nat.lt_succ_self _))
set_option maxHeartbeats 4000000 in
set_option maxRecDepth 100000 in
theorem sx_weighx_48 {g : GG} {n : Int} {L : Int32} (hy : LyX g)  {I : pI} {J : pJ} {R : pR} (hr : RfX g R) (hI : XI g n L I) (co : Int32) (st : Int32) (da : Int32) (co_lo : 0 ≤ co.toInt) (co_hi : co.toInt ≤ 60) (st_lo : 0 ≤ st.toInt) (st_hi : st.toInt ≤ 5) (da_lo : 0 ≤ da.toInt) (da_hi : da.toInt ≤ 6) {K : Int} (hK : 0 ≤ K ∧ K ≤ 16632) (hL : R (ad g 43) 7 = some (ad g 48)) (hml : 0 ≤ (I (ad g 43) 8).toInt ∧ (I (ad g 43) 8).toInt ≤ K) (hW : HW (I (ad g 44)) (I (ad g 48)) (I (ad g 24)) (I (ad g 25)) (I (ad g 26)) K co.toInt st.toInt da.toInt) : SP g mX2_weigh [.ref (ad g 43), .int co, .int st, .int da] I J R (fun r I' J' R' => (XI g n L I' ∧ R' = R ∧ fz 74 g [43] I I' ∧ J' = J ∧ (0 ≤ (I' (ad g 43) 0).toInt ∧ (I' (ad g 43) 0).toInt ≤ 594 + K ∧ AOKd (I (ad g 44)) co.toInt st.toInt (I' (ad g 43) 1).toInt ∧ I' (ad g 43) 8 = I (ad g 43) 8)) ∧ r = none) := by
  refine SP_of ⟨by decide, rfl⟩ (Nat.le_of_ble_eq_true rfl) ?_
  have e11362 : I (ad g 1) 1 = L := hI.2
  have b11363 := BT_get hI.1 1 1 2 (0) (0) (900) (by decide) 1 (by decide) (by decide)
  rw [e11362] at b11363
  have fr0 : fz 74 g [43] I I := fz_rf
  obtain ⟨w11364, ew11364⟩ : ∃ w : Int32, I (ad g 44) 1 = w := ⟨_, rfl⟩
  have bw11364 := BT_get hI.1 44 1 2 (0) (0) (3) (by decide) 1 (by decide) (by decide)
  rw [ew11364] at bw11364
  obtain ⟨w11365, ew11365⟩ : ∃ w : Int32, I (ad g 44) 3 = w := ⟨_, rfl⟩
  have bw11365 := BT_get hI.1 44 3 4 (0) (0) (20) (by decide) 3 (by decide) (by decide)
  rw [ew11365] at bw11365
  obtain ⟨w11366, ew11366⟩ : ∃ w : Int32, I (ad g 44) 4 = w := ⟨_, rfl⟩
  have bw11366 := BT_get hI.1 44 4 5 (0) (0) (20) (by decide) 4 (by decide) (by decide)
  rw [ew11366] at bw11366
  obtain ⟨w11367, ew11367⟩ : ∃ w : Int32, I (ad g 44) 5 = w := ⟨_, rfl⟩
  have bw11367 := BT_get hI.1 44 5 6 (0) (0) (3) (by decide) 5 (by decide) (by decide)
  rw [ew11367] at bw11367
  obtain ⟨w11368, ew11368⟩ : ∃ w : Int32, I (ad g 44) 6 = w := ⟨_, rfl⟩
  have bw11368 := BT_get hI.1 44 6 7 (0) (0) (2) (by decide) 6 (by decide) (by decide)
  rw [ew11368] at bw11368
  obtain ⟨w11369, ew11369⟩ : ∃ w : Int32, I (ad g 44) 7 = w := ⟨_, rfl⟩
  have bw11369 := BT_get hI.1 44 7 8 (0) (0) (1) (by decide) 7 (by decide) (by decide)
  rw [ew11369] at bw11369
  obtain ⟨w11370, ew11370⟩ : ∃ w : Int32, I (ad g 43) 8 = w := ⟨_, rfl⟩
  have hml0 := hml
  rw [ew11370] at hml0
  refine WP_aload_n dX2_weigh_0 rfl ?_
  refine WP_getr dX2_weigh_1 fX2_12 rfl (lyx_is hy 43 2 rfl) (rfx hr 43 3 44 (by decide)) ?_
  refine WP_iload_n dX2_weigh_4 rfl ?_
  refine WP_callV1 (k := 6) dX2_weigh_5 ⟨⟨⟨by decide, by decide⟩, zX6_mostFromStore⟩, lX2_82, by decide, rfl, vX6_mostFromStore.1, vX6_mostFromStore.2⟩ (lyx_is hy 44 6 rfl) (sx_mfx hy hr hI st (by omega) (by omega)) (Nat.le_of_ble_eq_true rfl) ?_
  intro r Ia Ja Ra hq
  obtain ⟨⟨ea, eb, ec⟩, v11371, rfl, av11371, bv11371, cv11371⟩ := hq
  show WP _ _ _ _ (.int _ :: _) _ _ _ _
  rw [ea, eb, ec]
  clear ea eb ec Ia Ja Ra
  rw [ew11369] at cv11371
  rw [ew11364] at cv11371
  refine WP_istore (ls' := [(0, _), (1, _), (2, _), (3, _), (4, _)]) dX2_weigh_8 (by decide) rfl ?_
  refine WP_aload_n dX2_weigh_10 rfl ?_
  refine WQ_iconst (-1) (-1) dX2_weigh_11 rfl rfl (fun v11372 hv11372 => ?_)
  refine WQ_puti dX2_weigh_12 fX2_127 rfl rfl (lyx_is hy 43 2 rfl) (fun I11373 eI11373 => ?_)
  have hI11373 : XI g n L I11373 := by rw [eI11373]; exact (xi_f0 hy hI (c := 43) (by decide) (Or.inl (by decide)) (by decide))
  have e11374 : I11373 (ad g 1) 1 = L := by rw [eI11373, pp_ne _ _ (Or.inl (lyx_ne hy (by decide) (by decide) (by decide)))]; exact e11362
  have e11375 : I11373 (ad g 44) 1 = w11364 := by rw [eI11373, pp_ne _ _ (Or.inl (lyx_ne hy (by decide) (by decide) (by decide)))]; exact ew11364
  have e11376 : I11373 (ad g 44) 3 = w11365 := by rw [eI11373, pp_ne _ _ (Or.inl (lyx_ne hy (by decide) (by decide) (by decide)))]; exact ew11365
  have e11377 : I11373 (ad g 44) 4 = w11366 := by rw [eI11373, pp_ne _ _ (Or.inl (lyx_ne hy (by decide) (by decide) (by decide)))]; exact ew11366
  have e11378 : I11373 (ad g 44) 5 = w11367 := by rw [eI11373, pp_ne _ _ (Or.inl (lyx_ne hy (by decide) (by decide) (by decide)))]; exact ew11367
  have e11379 : I11373 (ad g 44) 6 = w11368 := by rw [eI11373, pp_ne _ _ (Or.inl (lyx_ne hy (by decide) (by decide) (by decide)))]; exact ew11368
  have e11380 : I11373 (ad g 44) 7 = w11369 := by rw [eI11373, pp_ne _ _ (Or.inl (lyx_ne hy (by decide) (by decide) (by decide)))]; exact ew11369
  have e11381 : I11373 (ad g 43) 8 = w11370 := by rw [eI11373, pp_ne _ _ (Or.inr (by decide))]; exact ew11370
  have e11382 : I11373 (ad g 43) 0 = v11372 := by rw [eI11373, pp_self]
  have fr11383 : fz 74 g [43] I I11373 := by rw [eI11373]; exact fzx_pp hy fr0 (by decide) (by decide)
  clear eI11373
  refine WQ_iconst (0) (0) dX2_weigh_15 rfl rfl (fun v11384 hv11384 => ?_)
  refine WP_istore (ls' := [(0, _), (1, _), (2, _), (3, _), (4, _), (5, _)]) dX2_weigh_16 (by decide) rfl ?_
  have lp18_11396 : ∀ (mz : Nat) (i11385 : Int32) (I11386 : pI), XI g n L I11386 → fz 74 g [43] I I11386 → ∀ (w11388 : Int32), I11386 (ad g 44) 1 = w11388 → ∀ (w11389 : Int32), I11386 (ad g 44) 3 = w11389 → ∀ (w11390 : Int32), I11386 (ad g 44) 4 = w11390 → ∀ (w11391 : Int32), I11386 (ad g 44) 5 = w11391 → ∀ (w11392 : Int32), I11386 (ad g 44) 6 = w11392 → ∀ (w11393 : Int32), I11386 (ad g 44) 7 = w11393 → ∀ (w11394 : Int32), I11386 (ad g 43) 0 = w11394 → ∀ (w11395 : Int32), I11386 (ad g 43) 1 = w11395 → ∀ (w11396 : Int32), I11386 (ad g 43) 8 = w11396 → 0 ≤ i11385.toInt → i11385.toInt ≤ 3 → w11388.toInt = w11364.toInt → w11389.toInt = w11365.toInt → w11390.toInt = w11366.toInt → w11391.toInt = w11367.toInt → w11392.toInt = w11368.toInt → w11393.toInt = w11369.toInt → w11396.toInt = w11370.toInt → -1 ≤ w11394.toInt → w11394.toInt ≤ 594 + K → (i11385.toInt = 0 ∨ 0 ≤ w11394.toInt) → (w11394.toInt < 0 ∨ AOKd (I (ad g 44)) co.toInt st.toInt w11395.toInt) → (4 - i11385.toInt).toNat < mz → WP g mX2_weigh 18 [(0, .ref (ad g 43)), (1, .int co), (2, .int st), (3, .int da), (4, .int v11371), (5, .int i11385)] [] I11386 J R (fun r I' J' R' => (XI g n L I' ∧ R' = R ∧ fz 74 g [43] I I' ∧ J' = J ∧ (0 ≤ (I' (ad g 43) 0).toInt ∧ (I' (ad g 43) 0).toInt ≤ 594 + K ∧ AOKd (I (ad g 44)) co.toInt st.toInt (I' (ad g 43) 1).toInt ∧ I' (ad g 43) 8 = I (ad g 43) 8)) ∧ r = none) := by
    intro mz
    induction mz with
    | zero =>
      intro i11385 I11386 hI11386 fiI11386 w11388 ew11388 w11389 ew11389 w11390 ew11390 w11391 ew11391 w11392 ew11392 w11393 ew11393 w11394 ew11394 w11395 ew11395 w11396 ew11396 ai11385 bi11385 j0_I11386_11386 j1_I11386_11386 j2_I11386_11386 j3_I11386_11386 j4_I11386_11386 j5_I11386_11386 j6_I11386_11386 j7_I11386_11386 j8_I11386_11386 j9_I11386_11386 PA_I11386_11386 hmlp18_11396
      exact absurd hmlp18_11396 (Nat.not_lt_zero _)
    | succ mz ihlp18_11396 =>
      intro i11385 I11386 hI11386 fiI11386 w11388 ew11388 w11389 ew11389 w11390 ew11390 w11391 ew11391 w11392 ew11392 w11393 ew11393 w11394 ew11394 w11395 ew11395 w11396 ew11396 ai11385 bi11385 j0_I11386_11386 j1_I11386_11386 j2_I11386_11386 j3_I11386_11386 j4_I11386_11386 j5_I11386_11386 j6_I11386_11386 j7_I11386_11386 j8_I11386_11386 j9_I11386_11386 PA_I11386_11386 hmlp18_11396
      have bw11388 := BT_get hI11386.1 44 1 2 (0) (0) (3) (by decide) 1 (by decide) (by decide)
      rw [ew11388] at bw11388
      have bw11389 := BT_get hI11386.1 44 3 4 (0) (0) (20) (by decide) 3 (by decide) (by decide)
      rw [ew11389] at bw11389
      have bw11390 := BT_get hI11386.1 44 4 5 (0) (0) (20) (by decide) 4 (by decide) (by decide)
      rw [ew11390] at bw11390
      have bw11391 := BT_get hI11386.1 44 5 6 (0) (0) (3) (by decide) 5 (by decide) (by decide)
      rw [ew11391] at bw11391
      have bw11392 := BT_get hI11386.1 44 6 7 (0) (0) (2) (by decide) 6 (by decide) (by decide)
      rw [ew11392] at bw11392
      have bw11393 := BT_get hI11386.1 44 7 8 (0) (0) (1) (by decide) 7 (by decide) (by decide)
      rw [ew11393] at bw11393
      have bw11395 := BT_get hI11386.1 43 1 2 (0) (0) (47) (by decide) 1 (by decide) (by decide)
      rw [ew11395] at bw11395
      have e11398 : I11386 (ad g 1) 1 = L := hI11386.2
      have b11399 := BT_get hI11386.1 1 1 2 (0) (0) (900) (by decide) 1 (by decide) (by decide)
      rw [e11398] at b11399
      refine WP_iload dX2_weigh_18 rfl ?_
      refine WP_aload_n dX2_weigh_20 rfl ?_
      refine WP_getr dX2_weigh_21 fX2_12 rfl (lyx_is hy 43 2 rfl) (rfx hr 43 3 44 (by decide)) ?_
      refine WQ_getim dX2_weigh_24 fX2_92 rfl (lyx_is hy 44 6 rfl) ew11392 ?_
      refine WQ_icmp_gt 255 dX2_weigh_27 rfl (fun c11399 => ?_) (fun c11399 => ?_)
      · exact WP_vret dX2_weigh_255 rfl ⟨⟨hI11386, rfl, fiI11386, rfl, ⟨by rw [ew11394]; omega, by rw [ew11394]; omega, by rw [ew11395]; exact PA_I11386_11386.resolve_left (by omega), by rw [ew11396, ew11370]; exact (eq32 _ _).mpr (by omega)⟩⟩, rfl⟩
      · refine WQ_iconst (0) (0) dX2_weigh_30 rfl rfl (fun v11401 hv11401 => ?_)
        refine WP_istore (ls' := [(0, _), (1, _), (2, _), (3, _), (4, _), (5, _), (6, _)]) dX2_weigh_31 (by decide) rfl ?_
        have lp33_11413 : ∀ (mz : Nat) (i11402 : Int32) (I11403 : pI), XI g n L I11403 → fz 74 g [43] I I11403 → ∀ (w11405 : Int32), I11403 (ad g 44) 1 = w11405 → ∀ (w11406 : Int32), I11403 (ad g 44) 3 = w11406 → ∀ (w11407 : Int32), I11403 (ad g 44) 4 = w11407 → ∀ (w11408 : Int32), I11403 (ad g 44) 5 = w11408 → ∀ (w11409 : Int32), I11403 (ad g 44) 6 = w11409 → ∀ (w11410 : Int32), I11403 (ad g 44) 7 = w11410 → ∀ (w11411 : Int32), I11403 (ad g 43) 0 = w11411 → ∀ (w11412 : Int32), I11403 (ad g 43) 1 = w11412 → ∀ (w11413 : Int32), I11403 (ad g 43) 8 = w11413 → 0 ≤ i11402.toInt → i11402.toInt ≤ 4 → w11405.toInt = w11364.toInt → w11406.toInt = w11365.toInt → w11407.toInt = w11366.toInt → w11408.toInt = w11367.toInt → w11409.toInt = w11368.toInt → w11410.toInt = w11369.toInt → w11413.toInt = w11370.toInt → -1 ≤ w11411.toInt → w11411.toInt ≤ 594 + K → ((i11385.toInt = 0 ∧ i11402.toInt = 0) ∨ 0 ≤ w11411.toInt) → (w11411.toInt < 0 ∨ AOKd (I (ad g 44)) co.toInt st.toInt w11412.toInt) → (5 - i11402.toInt).toNat < mz → WP g mX2_weigh 33 [(0, .ref (ad g 43)), (1, .int co), (2, .int st), (3, .int da), (4, .int v11371), (5, .int i11385), (6, .int i11402)] [] I11403 J R (fun r I' J' R' => (XI g n L I' ∧ R' = R ∧ fz 74 g [43] I I' ∧ J' = J ∧ (0 ≤ (I' (ad g 43) 0).toInt ∧ (I' (ad g 43) 0).toInt ≤ 594 + K ∧ AOKd (I (ad g 44)) co.toInt st.toInt (I' (ad g 43) 1).toInt ∧ I' (ad g 43) 8 = I (ad g 43) 8)) ∧ r = none) := by
          intro mz
          induction mz with
          | zero =>
            intro i11402 I11403 hI11403 fiI11403 w11405 ew11405 w11406 ew11406 w11407 ew11407 w11408 ew11408 w11409 ew11409 w11410 ew11410 w11411 ew11411 w11412 ew11412 w11413 ew11413 ai11402 bi11402 j0_I11403_11403 j1_I11403_11403 j2_I11403_11403 j3_I11403_11403 j4_I11403_11403 j5_I11403_11403 j6_I11403_11403 j7_I11403_11403 j8_I11403_11403 j9_I11403_11403 PA_I11403_11403 hmlp33_11413
            exact absurd hmlp33_11413 (Nat.not_lt_zero _)
          | succ mz ihlp33_11413 =>
            intro i11402 I11403 hI11403 fiI11403 w11405 ew11405 w11406 ew11406 w11407 ew11407 w11408 ew11408 w11409 ew11409 w11410 ew11410 w11411 ew11411 w11412 ew11412 w11413 ew11413 ai11402 bi11402 j0_I11403_11403 j1_I11403_11403 j2_I11403_11403 j3_I11403_11403 j4_I11403_11403 j5_I11403_11403 j6_I11403_11403 j7_I11403_11403 j8_I11403_11403 j9_I11403_11403 PA_I11403_11403 hmlp33_11413
            have bw11405 := BT_get hI11403.1 44 1 2 (0) (0) (3) (by decide) 1 (by decide) (by decide)
            rw [ew11405] at bw11405
            have bw11406 := BT_get hI11403.1 44 3 4 (0) (0) (20) (by decide) 3 (by decide) (by decide)
            rw [ew11406] at bw11406
            have bw11407 := BT_get hI11403.1 44 4 5 (0) (0) (20) (by decide) 4 (by decide) (by decide)
            rw [ew11407] at bw11407
            have bw11408 := BT_get hI11403.1 44 5 6 (0) (0) (3) (by decide) 5 (by decide) (by decide)
            rw [ew11408] at bw11408
            have bw11409 := BT_get hI11403.1 44 6 7 (0) (0) (2) (by decide) 6 (by decide) (by decide)
            rw [ew11409] at bw11409
            have bw11410 := BT_get hI11403.1 44 7 8 (0) (0) (1) (by decide) 7 (by decide) (by decide)
            rw [ew11410] at bw11410
            have bw11412 := BT_get hI11403.1 43 1 2 (0) (0) (47) (by decide) 1 (by decide) (by decide)
            rw [ew11412] at bw11412
            have e11415 : I11403 (ad g 1) 1 = L := hI11403.2
            have b11416 := BT_get hI11403.1 1 1 2 (0) (0) (900) (by decide) 1 (by decide) (by decide)
            rw [e11415] at b11416
            refine WP_iload dX2_weigh_33 rfl ?_
            refine WP_iload dX2_weigh_35 rfl ?_
            refine WQ_icmp_gt 249 dX2_weigh_37 rfl (fun c11416 => ?_) (fun c11416 => ?_)
            · refine WP_iinc (ls' := [(0, _), (1, _), (2, _), (3, _), (4, _), (5, _), (6, _)]) dX2_weigh_249 rfl (by decide) rfl ?_
              have hv11418 : (i11385 + Int32.ofInt (1)).toInt = i11385.toInt + (1) := ia_n rfl (by omega) (by omega)
              generalize i11385 + Int32.ofInt (1) = v11418 at hv11418 ⊢
              refine WP_goto 18 dX2_weigh_252 rfl ?_
              exact WP_sub (fc rfl (fc rfl (fc rfl (fc rfl (fc rfl (fc rfl fn)))))) (ihlp18_11396 v11418 I11403 hI11403 fiI11403 w11405 ew11405 w11406 ew11406 w11407 ew11407 w11408 ew11408 w11409 ew11409 w11410 ew11410 w11411 ew11411 w11412 ew11412 w11413 ew11413 (by omega) (by omega) (by omega) (by omega) (by omega) (by omega) (by omega) (by omega) (by omega) (by omega) (by omega) (by omega) PA_I11403_11403 (by omega))
            · refine WP_iload_n dX2_weigh_40 rfl ?_
              refine WP_iload dX2_weigh_41 rfl ?_
              refine WQ_isub dX2_weigh_43 (by omega) (by omega) (fun v11419 hv11419 => ?_)
              refine WP_iload dX2_weigh_44 rfl ?_
              refine WQ_iadd dX2_weigh_46 (by omega) (by omega) (fun v11420 hv11420 => ?_)
              refine WP_istore (ls' := [(0, _), (1, _), (2, _), (3, _), (4, _), (5, _), (6, _), (7, _)]) dX2_weigh_47 (by decide) rfl ?_
              refine WP_aload_n dX2_weigh_49 rfl ?_
              refine WP_getr dX2_weigh_50 fX2_12 rfl (lyx_is hy 43 2 rfl) (rfx hr 43 3 44 (by decide)) ?_
              refine WQ_getim dX2_weigh_53 fX2_95 rfl (lyx_is hy 44 6 rfl) ew11408 ?_
              refine WP_aload_n dX2_weigh_56 rfl ?_
              refine WP_getr dX2_weigh_57 fX2_12 rfl (lyx_is hy 43 2 rfl) (rfx hr 43 3 44 (by decide)) ?_
              refine WQ_getim dX2_weigh_60 fX2_98 rfl (lyx_is hy 44 6 rfl) ew11405 ?_
              refine WP_iload dX2_weigh_63 rfl ?_
              refine WQ_isub dX2_weigh_65 (by omega) (by omega) (fun v11421 hv11421 => ?_)
              refine WQ_min dX2_weigh_66 lX2_101 ⟨by decide, Nat.le_of_ble_eq_true rfl⟩ (fun v11422 av11422 bv11422 cv11422 => ?_)
              refine WP_istore (ls' := [(0, _), (1, _), (2, _), (3, _), (4, _), (5, _), (6, _), (7, _), (8, _)]) dX2_weigh_69 (by decide) rfl ?_
              refine WP_iload dX2_weigh_71 rfl ?_
              refine WP_iload dX2_weigh_73 rfl ?_
              refine WQ_iadd dX2_weigh_75 (by omega) (by omega) (fun v11423 hv11423 => ?_)
              refine WP_aload_n dX2_weigh_76 rfl ?_
              refine WP_getr dX2_weigh_77 fX2_12 rfl (lyx_is hy 43 2 rfl) (rfx hr 43 3 44 (by decide)) ?_
              refine WQ_geti dX2_weigh_80 fX2_133 rfl (lyx_is hy 44 6 rfl) (BT_get hI11403.1 44 2 3 (0) (0) (99) (by decide) 2 (by decide) (by decide)) (fun v11424 ev11424 av11424 bv11424 => ?_)
              refine WQ_imulb (6) (99) dX2_weigh_83 ⟨by omega, by omega⟩ ⟨by omega, by omega⟩ (by decide) (fun v11425 pv11425 av11425 bv11425 cv11425 => ?_)
              refine WP_aload_n dX2_weigh_84 rfl ?_
              refine WQ_getim dX2_weigh_85 fX2_67 rfl (lyx_is hy 43 2 rfl) ew11413 ?_
              refine WQ_iadd dX2_weigh_88 (by omega) (by omega) (fun v11426 hv11426 => ?_)
              refine WP_istore (ls' := [(0, _), (1, _), (2, _), (3, _), (4, _), (5, _), (6, _), (7, _), (8, _), (9, _)]) dX2_weigh_89 (by decide) rfl ?_
              refine WP_iload dX2_weigh_91 rfl ?_
              refine WQ_iconst (5) (5) dX2_weigh_93 rfl rfl (fun v11427 hv11427 => ?_)
              refine WQ_icmp_gt 243 dX2_weigh_94 rfl (fun c11427 => ?_) (fun c11427 => ?_)
              · refine WP_iinc (ls' := [(0, _), (1, _), (2, _), (3, _), (4, _), (5, _), (6, _), (7, _), (8, _), (9, _)]) dX2_weigh_243 rfl (by decide) rfl ?_
                have hv11429 : (i11402 + Int32.ofInt (1)).toInt = i11402.toInt + (1) := ia_n rfl (by omega) (by omega)
                generalize i11402 + Int32.ofInt (1) = v11429 at hv11429 ⊢
                refine WP_goto 33 dX2_weigh_246 rfl ?_
                exact WP_sub (fc rfl (fc rfl (fc rfl (fc rfl (fc rfl (fc rfl (fc rfl fn))))))) (ihlp33_11413 v11429 I11403 hI11403 fiI11403 w11405 ew11405 w11406 ew11406 w11407 ew11407 w11408 ew11408 w11409 ew11409 w11410 ew11410 w11411 ew11411 w11412 ew11412 w11413 ew11413 (by omega) (by omega) (by omega) (by omega) (by omega) (by omega) (by omega) (by omega) (by omega) (by omega) (by omega) (by omega) PA_I11403_11403 (by omega))
              · refine WP_iload dX2_weigh_97 rfl ?_
                refine WP_aload_n dX2_weigh_99 rfl ?_
                refine WQ_getim dX2_weigh_100 fX2_127 rfl (lyx_is hy 43 2 rfl) ew11411 ?_
                refine WQ_icmp_gt 109 dX2_weigh_103 rfl (fun c11429 => ?_) (fun c11429 => ?_)
                · refine WP_iload_n dX2_weigh_109 rfl ?_
                  refine WP_iload dX2_weigh_110 rfl ?_
                  refine WP_aload_n dX2_weigh_112 rfl ?_
                  refine WP_getr dX2_weigh_113 fX2_12 rfl (lyx_is hy 43 2 rfl) (rfx hr 43 3 44 (by decide)) ?_
                  refine WQ_getim dX2_weigh_116 fX2_107 rfl (lyx_is hy 44 6 rfl) ew11407 ?_
                  refine WQ_imulb (2) (20) dX2_weigh_119 ⟨by omega, by omega⟩ ⟨by omega, by omega⟩ (by decide) (fun v11431 pv11431 av11431 bv11431 cv11431 => ?_)
                  refine WQ_isub dX2_weigh_120 (by omega) (by omega) (fun v11432 hv11432 => ?_)
                  refine WP_istore (ls' := [(0, _), (1, _), (2, _), (3, _), (4, _), (5, _), (6, _), (7, _), (8, _), (9, _), (10, _)]) dX2_weigh_121 (by decide) rfl ?_
                  refine WQ_iconst (0) (0) dX2_weigh_123 rfl rfl (fun v11433 hv11433 => ?_)
                  refine WP_istore (ls' := [(0, _), (1, _), (2, _), (3, _), (4, _), (5, _), (6, _), (7, _), (8, _), (9, _), (10, _), (11, _)]) dX2_weigh_124 (by decide) rfl ?_
                  have lp126_11446 : ∀ (mz : Nat) (i11434 : Int32) (i11435 : Int32) (I11436 : pI), XI g n L I11436 → fz 74 g [43] I I11436 → ∀ (w11438 : Int32), I11436 (ad g 44) 1 = w11438 → ∀ (w11439 : Int32), I11436 (ad g 44) 3 = w11439 → ∀ (w11440 : Int32), I11436 (ad g 44) 4 = w11440 → ∀ (w11441 : Int32), I11436 (ad g 44) 5 = w11441 → ∀ (w11442 : Int32), I11436 (ad g 44) 6 = w11442 → ∀ (w11443 : Int32), I11436 (ad g 44) 7 = w11443 → ∀ (w11444 : Int32), I11436 (ad g 43) 0 = w11444 → ∀ (w11445 : Int32), I11436 (ad g 43) 1 = w11445 → ∀ (w11446 : Int32), I11436 (ad g 43) 8 = w11446 → -60 ≤ i11434.toInt → i11434.toInt ≤ 60 → 0 ≤ i11435.toInt → i11435.toInt ≤ 4 → w11438.toInt = w11364.toInt → w11439.toInt = w11365.toInt → w11440.toInt = w11366.toInt → w11441.toInt = w11367.toInt → w11442.toInt = w11368.toInt → w11443.toInt = w11369.toInt → w11446.toInt = w11370.toInt → -1 ≤ w11444.toInt → w11444.toInt ≤ 594 + K → ((i11385.toInt = 0 ∧ i11402.toInt = 0 ∧ i11435.toInt = 0) ∨ 0 ≤ w11444.toInt) → (i11385.toInt ≠ 0 ∨ i11435.toInt ≠ 0 ∨ i11434.toInt = co.toInt) → (w11444.toInt < 0 ∨ AOKd (I (ad g 44)) co.toInt st.toInt w11445.toInt) → (i11434.toInt + i11385.toInt * w11366.toInt + i11435.toInt * w11365.toInt = co.toInt) → (5 - i11435.toInt).toNat < mz → WP g mX2_weigh 126 [(0, .ref (ad g 43)), (1, .int co), (2, .int st), (3, .int da), (4, .int v11371), (5, .int i11385), (6, .int i11402), (7, .int v11420), (8, .int v11422), (9, .int v11426), (10, .int i11434), (11, .int i11435)] [] I11436 J R (fun r I' J' R' => (XI g n L I' ∧ R' = R ∧ fz 74 g [43] I I' ∧ J' = J ∧ (0 ≤ (I' (ad g 43) 0).toInt ∧ (I' (ad g 43) 0).toInt ≤ 594 + K ∧ AOKd (I (ad g 44)) co.toInt st.toInt (I' (ad g 43) 1).toInt ∧ I' (ad g 43) 8 = I (ad g 43) 8)) ∧ r = none) := by
                    intro mz
                    induction mz with
                    | zero =>
                      intro i11434 i11435 I11436 hI11436 fiI11436 w11438 ew11438 w11439 ew11439 w11440 ew11440 w11441 ew11441 w11442 ew11442 w11443 ew11443 w11444 ew11444 w11445 ew11445 w11446 ew11446 ai11434 bi11434 ai11435 bi11435 j0_I11436_11436 j1_I11436_11436 j2_I11436_11436 j3_I11436_11436 j4_I11436_11436 j5_I11436_11436 j6_I11436_11436 j7_I11436_11436 j8_I11436_11436 j9_I11436_11436 j10_I11436_11436 PA_I11436_11436 PL_I11436_11436 hmlp126_11446
                      exact absurd hmlp126_11446 (Nat.not_lt_zero _)
                    | succ mz ihlp126_11446 =>
                      intro i11434 i11435 I11436 hI11436 fiI11436 w11438 ew11438 w11439 ew11439 w11440 ew11440 w11441 ew11441 w11442 ew11442 w11443 ew11443 w11444 ew11444 w11445 ew11445 w11446 ew11446 ai11434 bi11434 ai11435 bi11435 j0_I11436_11436 j1_I11436_11436 j2_I11436_11436 j3_I11436_11436 j4_I11436_11436 j5_I11436_11436 j6_I11436_11436 j7_I11436_11436 j8_I11436_11436 j9_I11436_11436 j10_I11436_11436 PA_I11436_11436 PL_I11436_11436 hmlp126_11446
                      have bw11438 := BT_get hI11436.1 44 1 2 (0) (0) (3) (by decide) 1 (by decide) (by decide)
                      rw [ew11438] at bw11438
                      have bw11439 := BT_get hI11436.1 44 3 4 (0) (0) (20) (by decide) 3 (by decide) (by decide)
                      rw [ew11439] at bw11439
                      have bw11440 := BT_get hI11436.1 44 4 5 (0) (0) (20) (by decide) 4 (by decide) (by decide)
                      rw [ew11440] at bw11440
                      have bw11441 := BT_get hI11436.1 44 5 6 (0) (0) (3) (by decide) 5 (by decide) (by decide)
                      rw [ew11441] at bw11441
                      have bw11442 := BT_get hI11436.1 44 6 7 (0) (0) (2) (by decide) 6 (by decide) (by decide)
                      rw [ew11442] at bw11442
                      have bw11443 := BT_get hI11436.1 44 7 8 (0) (0) (1) (by decide) 7 (by decide) (by decide)
                      rw [ew11443] at bw11443
                      have bw11445 := BT_get hI11436.1 43 1 2 (0) (0) (47) (by decide) 1 (by decide) (by decide)
                      rw [ew11445] at bw11445
                      have e11448 : I11436 (ad g 1) 1 = L := hI11436.2
                      have b11449 := BT_get hI11436.1 1 1 2 (0) (0) (900) (by decide) 1 (by decide) (by decide)
                      rw [e11448] at b11449
                      refine WP_iload dX2_weigh_126 rfl ?_
                      refine WP_iload dX2_weigh_128 rfl ?_
                      refine WQ_icmp_gt 243 dX2_weigh_130 rfl (fun c11449 => ?_) (fun c11449 => ?_)
                      · refine WP_iinc (ls' := [(0, _), (1, _), (2, _), (3, _), (4, _), (5, _), (6, _), (7, _), (8, _), (9, _), (10, _), (11, _)]) dX2_weigh_243 rfl (by decide) rfl ?_
                        have hv11451 : (i11402 + Int32.ofInt (1)).toInt = i11402.toInt + (1) := ia_n rfl (by omega) (by omega)
                        generalize i11402 + Int32.ofInt (1) = v11451 at hv11451 ⊢
                        refine WP_goto 33 dX2_weigh_246 rfl ?_
                        exact WP_sub (fc rfl (fc rfl (fc rfl (fc rfl (fc rfl (fc rfl (fc rfl fn))))))) (ihlp33_11413 v11451 I11436 hI11436 fiI11436 w11438 ew11438 w11439 ew11439 w11440 ew11440 w11441 ew11441 w11442 ew11442 w11443 ew11443 w11444 ew11444 w11445 ew11445 w11446 ew11446 (by omega) (by omega) (by omega) (by omega) (by omega) (by omega) (by omega) (by omega) (by omega) (by omega) (by omega) (by omega) PA_I11436_11436 (by omega))
                      · refine WP_iload dX2_weigh_133 rfl ?_
                        refine WQ_if_lt 243 dX2_weigh_135 rfl (fun c11451 => ?_) (fun c11451 => ?_)
                        · refine WP_iinc (ls' := [(0, _), (1, _), (2, _), (3, _), (4, _), (5, _), (6, _), (7, _), (8, _), (9, _), (10, _), (11, _)]) dX2_weigh_243 rfl (by decide) rfl ?_
                          have hv11453 : (i11402 + Int32.ofInt (1)).toInt = i11402.toInt + (1) := ia_n rfl (by omega) (by omega)
                          generalize i11402 + Int32.ofInt (1) = v11453 at hv11453 ⊢
                          refine WP_goto 33 dX2_weigh_246 rfl ?_
                          exact WP_sub (fc rfl (fc rfl (fc rfl (fc rfl (fc rfl (fc rfl (fc rfl fn))))))) (ihlp33_11413 v11453 I11436 hI11436 fiI11436 w11438 ew11438 w11439 ew11439 w11440 ew11440 w11441 ew11441 w11442 ew11442 w11443 ew11443 w11444 ew11444 w11445 ew11445 w11446 ew11446 (by omega) (by omega) (by omega) (by omega) (by omega) (by omega) (by omega) (by omega) (by omega) (by omega) (by omega) (by omega) PA_I11436_11436 (by omega))
                        · refine WP_aload_n dX2_weigh_138 rfl ?_
                          refine WP_getr dX2_weigh_139 fX2_32 rfl (lyx_is hy 43 2 rfl) (rfx hr 43 2 5 (by decide)) ?_
                          refine WP_iload dX2_weigh_142 rfl ?_
                          refine WP_iload dX2_weigh_144 rfl ?_
                          refine WP_iload_n dX2_weigh_146 rfl ?_
                          refine WP_callV3 (k := 0) dX2_weigh_147 ⟨⟨⟨by decide, by decide⟩, zX0_coinsBehind⟩, lX2_116, by decide, rfl, vX0_coinsBehind.1, vX0_coinsBehind.2⟩ (lyx_is hy 5 0 rfl) (sx_cbx hy hr hI11436 i11434 v11420 da (by omega) (by omega) (by omega) (by omega) (by omega) (by omega)) (Nat.le_of_ble_eq_true rfl) ?_
                          intro r Ia Ja Ra hq
                          obtain ⟨⟨ea, eb, ec⟩, v11454, rfl, av11454, bv11454, cv11454⟩ := hq
                          show WP _ _ _ _ (.int _ :: _) _ _ _ _
                          rw [ea, eb, ec]
                          clear ea eb ec Ia Ja Ra
                          refine WP_istore (ls' := [(0, _), (1, _), (2, _), (3, _), (4, _), (5, _), (6, _), (7, _), (8, _), (9, _), (10, _), (11, _), (12, _)]) dX2_weigh_150 (by decide) rfl ?_
                          refine WP_aload_n dX2_weigh_152 rfl ?_
                          refine WP_getr dX2_weigh_153 fX2_29 rfl (lyx_is hy 43 2 rfl) hL ?_
                          refine WP_aload_n dX2_weigh_156 rfl ?_
                          refine WP_getr dX2_weigh_157 fX2_32 rfl (lyx_is hy 43 2 rfl) (rfx hr 43 2 5 (by decide)) ?_
                          refine WP_getr dX2_weigh_160 fX2_113 rfl (lyx_is hy 5 0 rfl) (rfx hr 5 5 26 (by decide)) ?_
                          refine WP_iload dX2_weigh_163 rfl ?_
                          refine WQ_iald dX2_weigh_165 (lyx_is hy 26 13 rfl) (lyx_n hy 26 6 rfl) (by omega) (by omega) (fun q hq => BT_get hI11436.1 26 0 6 (0) (0) (5) (by decide) q (Nat.zero_le _) hq) (fun v11455 av11455 bv11455 ev11455 => ?_)
                          refine WQ_bipush (61) (61) dX2_weigh_166 rfl rfl (fun v11456 hv11456 => ?_)
                          refine WQ_imulk (61) dX2_weigh_168 hv11456 (by omega) (by omega) (fun v11457 hv11457 => ?_)
                          refine WP_iload dX2_weigh_169 rfl ?_
                          refine WQ_iadd dX2_weigh_171 (by omega) (by omega) (fun v11458 hv11458 => ?_)
                          have acv11459 : ACT (I (ad g 44)) st.toInt co.toInt i11385.toInt i11402.toInt i11435.toInt v11420.toInt i11434.toInt := ⟨by omega, by rw [ew11368]; omega, by omega, by rw [ew11369, ew11364]; omega, by omega, by rw [ew11367]; omega, by rw [ew11364]; omega, by omega, by omega, by omega, by rw [ew11366, ew11365]; exact PL_I11436_11436⟩
                          have s1v11459 : SB (I (ad g 26)) v11420.toInt = v11455.toInt := by unfold SB; rw [← fz_at fiI11436 26 (by decide) (by decide), ← cl (x := v11420) (n := v11420.toInt.toNat) (by omega), ev11455]
                          have s2v11459 := cv11454
                          rw [fz_at fiI11436 24 (by decide) (by decide), fz_at fiI11436 25 (by decide) (by decide)] at s2v11459
                          have s3v11459 := hW _ _ _ _ _ acv11459
                          rw [s1v11459, ← s2v11459, show (61 * v11455.toInt + v11454.toInt).toNat = v11458.toInt.toNat by omega] at s3v11459
                          refine WQ_ialdq (q := v11458.toInt.toNat) dX2_weigh_172 (lyx_is hy 48 13 rfl) (lyx_n hy 48 366 rfl) (by omega) (by omega) (by omega) (by rw [fz_at fiI11436 48 (by decide) (by decide)]; exact s3v11459) (fun v11459 av11459 bv11459 ev11459 => ?_)
                          refine WP_istore (ls' := [(0, _), (1, _), (2, _), (3, _), (4, _), (5, _), (6, _), (7, _), (8, _), (9, _), (10, _), (11, _), (12, _), (13, _)]) dX2_weigh_173 (by decide) rfl ?_
                          refine WP_iload dX2_weigh_175 rfl ?_
                          refine WP_iload dX2_weigh_177 rfl ?_
                          refine WQ_iadd dX2_weigh_179 (by omega) (by omega) (fun v11460 hv11460 => ?_)
                          refine WP_aload_n dX2_weigh_180 rfl ?_
                          refine WP_getr dX2_weigh_181 fX2_12 rfl (lyx_is hy 43 2 rfl) (rfx hr 43 3 44 (by decide)) ?_
                          refine WQ_geti dX2_weigh_184 fX2_133 rfl (lyx_is hy 44 6 rfl) (BT_get hI11436.1 44 2 3 (0) (0) (99) (by decide) 2 (by decide) (by decide)) (fun v11461 ev11461 av11461 bv11461 => ?_)
                          refine WQ_imulb (6) (99) dX2_weigh_187 ⟨by omega, by omega⟩ ⟨by omega, by omega⟩ (by decide) (fun v11462 pv11462 av11462 bv11462 cv11462 => ?_)
                          refine WP_iload dX2_weigh_188 rfl ?_
                          refine WQ_iadd dX2_weigh_190 (by omega) (by omega) (fun v11463 hv11463 => ?_)
                          refine WP_istore (ls' := [(0, _), (1, _), (2, _), (3, _), (4, _), (5, _), (6, _), (7, _), (8, _), (9, _), (10, _), (11, _), (12, _), (13, _), (14, _)]) dX2_weigh_191 (by decide) rfl ?_
                          refine WP_iload dX2_weigh_193 rfl ?_
                          refine WP_aload_n dX2_weigh_195 rfl ?_
                          refine WQ_getim dX2_weigh_196 fX2_127 rfl (lyx_is hy 43 2 rfl) ew11444 ?_
                          refine WQ_icmp_le 225 dX2_weigh_199 rfl (fun c11463 => ?_) (fun c11463 => ?_)
                          · refine WP_iload dX2_weigh_225 rfl ?_
                            refine WP_aload_n dX2_weigh_227 rfl ?_
                            refine WP_getr dX2_weigh_228 fX2_12 rfl (lyx_is hy 43 2 rfl) (rfx hr 43 3 44 (by decide)) ?_
                            refine WQ_getim dX2_weigh_231 fX2_110 rfl (lyx_is hy 44 6 rfl) ew11439 ?_
                            refine WQ_isub dX2_weigh_234 (by omega) (by omega) (fun v11465 hv11465 => ?_)
                            refine WP_istore (ls' := [(0, _), (1, _), (2, _), (3, _), (4, _), (5, _), (6, _), (7, _), (8, _), (9, _), (10, _), (11, _), (12, _), (13, _), (14, _)]) dX2_weigh_235 (by decide) rfl ?_
                            refine WP_iinc (ls' := [(0, _), (1, _), (2, _), (3, _), (4, _), (5, _), (6, _), (7, _), (8, _), (9, _), (10, _), (11, _), (12, _), (13, _), (14, _)]) dX2_weigh_237 rfl (by decide) rfl ?_
                            have hv11466 : (i11435 + Int32.ofInt (1)).toInt = i11435.toInt + (1) := ia_n rfl (by omega) (by omega)
                            generalize i11435 + Int32.ofInt (1) = v11466 at hv11466 ⊢
                            refine WP_goto 126 dX2_weigh_240 rfl ?_
                            exact WP_sub (fc rfl (fc rfl (fc rfl (fc rfl (fc rfl (fc rfl (fc rfl (fc rfl (fc rfl (fc rfl (fc rfl (fc rfl fn)))))))))))) (ihlp126_11446 v11465 v11466 I11436 hI11436 fiI11436 w11438 ew11438 w11439 ew11439 w11440 ew11440 w11441 ew11441 w11442 ew11442 w11443 ew11443 w11444 ew11444 w11445 ew11445 w11446 ew11446 (by omega) (by omega) (by omega) (by omega) (by omega) (by omega) (by omega) (by omega) (by omega) (by omega) (by omega) (by omega) (by omega) (by omega) (by omega) PA_I11436_11436 (by rw [hv11466, Int.add_mul, Int.one_mul]; have hq := PL_I11436_11436; omega) (by omega))
                          · refine WP_aload_n dX2_weigh_202 rfl ?_
                            refine WP_iload dX2_weigh_203 rfl ?_
                            refine WQ_puti dX2_weigh_205 fX2_127 rfl rfl (lyx_is hy 43 2 rfl) (fun I11467 eI11467 => ?_)
                            have hI11467 : XI g n L I11467 := by rw [eI11467]; exact (xi_f0 hy hI11436 (c := 43) (by decide) (Or.inl (by decide)) (by decide))
                            have e11468 : I11467 (ad g 44) 1 = w11438 := by rw [eI11467, pp_ne _ _ (Or.inl (lyx_ne hy (by decide) (by decide) (by decide)))]; exact ew11438
                            have e11469 : I11467 (ad g 44) 3 = w11439 := by rw [eI11467, pp_ne _ _ (Or.inl (lyx_ne hy (by decide) (by decide) (by decide)))]; exact ew11439
                            have e11470 : I11467 (ad g 44) 4 = w11440 := by rw [eI11467, pp_ne _ _ (Or.inl (lyx_ne hy (by decide) (by decide) (by decide)))]; exact ew11440
                            have e11471 : I11467 (ad g 44) 5 = w11441 := by rw [eI11467, pp_ne _ _ (Or.inl (lyx_ne hy (by decide) (by decide) (by decide)))]; exact ew11441
                            have e11472 : I11467 (ad g 44) 6 = w11442 := by rw [eI11467, pp_ne _ _ (Or.inl (lyx_ne hy (by decide) (by decide) (by decide)))]; exact ew11442
                            have e11473 : I11467 (ad g 44) 7 = w11443 := by rw [eI11467, pp_ne _ _ (Or.inl (lyx_ne hy (by decide) (by decide) (by decide)))]; exact ew11443
                            have e11474 : I11467 (ad g 43) 1 = w11445 := by rw [eI11467, pp_ne _ _ (Or.inr (by decide))]; exact ew11445
                            have e11475 : I11467 (ad g 43) 8 = w11446 := by rw [eI11467, pp_ne _ _ (Or.inr (by decide))]; exact ew11446
                            have e11476 : I11467 (ad g 1) 1 = L := by rw [eI11467, pp_ne _ _ (Or.inl (lyx_ne hy (by decide) (by decide) (by decide)))]; exact e11448
                            have e11477 : I11467 (ad g 26) v11420.toNatClampNeg = v11455 := by rw [eI11467, pp_ne _ _ (Or.inl (lyx_ne hy (by decide) (by decide) (by decide)))]; exact ev11455
                            have e11478 : I11467 (ad g 44) 2 = v11461 := by rw [eI11467, pp_ne _ _ (Or.inl (lyx_ne hy (by decide) (by decide) (by decide)))]; exact ev11461
                            have e11479 : I11467 (ad g 43) 0 = v11463 := by rw [eI11467, pp_self]
                            have fr11480 : fz 74 g [43] I I11467 := by rw [eI11467]; exact fzx_pp hy fiI11436 (by decide) (by decide)
                            clear eI11467
                            refine WP_aload_n dX2_weigh_208 rfl ?_
                            refine WQ_bipush (16) (16) dX2_weigh_209 rfl rfl (fun v11481 hv11481 => ?_)
                            refine WP_iload dX2_weigh_211 rfl ?_
                            refine WQ_imulK (16) dX2_weigh_213 hv11481 (by omega) (by omega) (fun v11482 hv11482 => ?_)
                            refine WQ_iconst (4) (4) dX2_weigh_214 rfl rfl (fun v11483 hv11483 => ?_)
                            refine WP_iload dX2_weigh_215 rfl ?_
                            refine WQ_imulK (4) dX2_weigh_217 hv11483 (by omega) (by omega) (fun v11484 hv11484 => ?_)
                            refine WQ_iadd dX2_weigh_218 (by omega) (by omega) (fun v11485 hv11485 => ?_)
                            refine WP_iload dX2_weigh_219 rfl ?_
                            refine WQ_iadd dX2_weigh_221 (by omega) (by omega) (fun v11486 hv11486 => ?_)
                            refine WQ_puti dX2_weigh_222 fX2_75 rfl rfl (lyx_is hy 43 2 rfl) (fun I11487 eI11487 => ?_)
                            have hI11487 : XI g n L I11487 := by rw [eI11487]; exact (xi_f hy hI11467 (c := 43) (0) (0) (47) (by decide) (Or.inl (by decide)) (by decide) (by omega) (by omega))
                            have e11488 : I11487 (ad g 44) 1 = w11438 := by rw [eI11487, pp_ne _ _ (Or.inl (lyx_ne hy (by decide) (by decide) (by decide)))]; exact e11468
                            have e11489 : I11487 (ad g 44) 3 = w11439 := by rw [eI11487, pp_ne _ _ (Or.inl (lyx_ne hy (by decide) (by decide) (by decide)))]; exact e11469
                            have e11490 : I11487 (ad g 44) 4 = w11440 := by rw [eI11487, pp_ne _ _ (Or.inl (lyx_ne hy (by decide) (by decide) (by decide)))]; exact e11470
                            have e11491 : I11487 (ad g 44) 5 = w11441 := by rw [eI11487, pp_ne _ _ (Or.inl (lyx_ne hy (by decide) (by decide) (by decide)))]; exact e11471
                            have e11492 : I11487 (ad g 44) 6 = w11442 := by rw [eI11487, pp_ne _ _ (Or.inl (lyx_ne hy (by decide) (by decide) (by decide)))]; exact e11472
                            have e11493 : I11487 (ad g 44) 7 = w11443 := by rw [eI11487, pp_ne _ _ (Or.inl (lyx_ne hy (by decide) (by decide) (by decide)))]; exact e11473
                            have e11494 : I11487 (ad g 43) 8 = w11446 := by rw [eI11487, pp_ne _ _ (Or.inr (by decide))]; exact e11475
                            have e11495 : I11487 (ad g 1) 1 = L := by rw [eI11487, pp_ne _ _ (Or.inl (lyx_ne hy (by decide) (by decide) (by decide)))]; exact e11476
                            have e11496 : I11487 (ad g 26) v11420.toNatClampNeg = v11455 := by rw [eI11487, pp_ne _ _ (Or.inl (lyx_ne hy (by decide) (by decide) (by decide)))]; exact e11477
                            have e11497 : I11487 (ad g 44) 2 = v11461 := by rw [eI11487, pp_ne _ _ (Or.inl (lyx_ne hy (by decide) (by decide) (by decide)))]; exact e11478
                            have e11498 : I11487 (ad g 43) 0 = v11463 := by rw [eI11487, pp_ne _ _ (Or.inr (by decide))]; exact e11479
                            have e11499 : I11487 (ad g 43) 1 = v11486 := by rw [eI11487, pp_self]
                            have fr11500 : fz 74 g [43] I I11487 := by rw [eI11487]; exact fzx_pp hy fr11480 (by decide) (by decide)
                            have AI11487 : v11463.toInt < 0 ∨ AOKd (I (ad g 44)) co.toInt st.toInt v11486.toInt := Or.inr (AOK_set acv11459 (by omega) (by omega) (by omega) (by omega) (by omega))
                            clear eI11487
                            refine WP_iload dX2_weigh_225 rfl ?_
                            refine WP_aload_n dX2_weigh_227 rfl ?_
                            refine WP_getr dX2_weigh_228 fX2_12 rfl (lyx_is hy 43 2 rfl) (rfx hr 43 3 44 (by decide)) ?_
                            refine WQ_getim dX2_weigh_231 fX2_110 rfl (lyx_is hy 44 6 rfl) e11489 ?_
                            refine WQ_isub dX2_weigh_234 (by omega) (by omega) (fun v11501 hv11501 => ?_)
                            refine WP_istore (ls' := [(0, _), (1, _), (2, _), (3, _), (4, _), (5, _), (6, _), (7, _), (8, _), (9, _), (10, _), (11, _), (12, _), (13, _), (14, _)]) dX2_weigh_235 (by decide) rfl ?_
                            refine WP_iinc (ls' := [(0, _), (1, _), (2, _), (3, _), (4, _), (5, _), (6, _), (7, _), (8, _), (9, _), (10, _), (11, _), (12, _), (13, _), (14, _)]) dX2_weigh_237 rfl (by decide) rfl ?_
                            have hv11502 : (i11435 + Int32.ofInt (1)).toInt = i11435.toInt + (1) := ia_n rfl (by omega) (by omega)
                            generalize i11435 + Int32.ofInt (1) = v11502 at hv11502 ⊢
                            refine WP_goto 126 dX2_weigh_240 rfl ?_
                            exact WP_sub (fc rfl (fc rfl (fc rfl (fc rfl (fc rfl (fc rfl (fc rfl (fc rfl (fc rfl (fc rfl (fc rfl (fc rfl fn)))))))))))) (ihlp126_11446 v11501 v11502 I11487 hI11487 fr11500 w11438 e11488 w11439 e11489 w11440 e11490 w11441 e11491 w11442 e11492 w11443 e11493 v11463 e11498 v11486 e11499 w11446 e11494 (by omega) (by omega) (by omega) (by omega) (by omega) (by omega) (by omega) (by omega) (by omega) (by omega) (by omega) (by omega) (by omega) (by omega) (by omega) AI11487 (by rw [hv11502, Int.add_mul, Int.one_mul]; have hq := PL_I11436_11436; omega) (by omega))
                  exact WP_sub (fc rfl (fc rfl (fc rfl (fc rfl (fc rfl (fc rfl (fc rfl (fc rfl (fc rfl (fc rfl (fc rfl (fc rfl fn)))))))))))) (lp126_11446 _ v11432 v11433 I11403 hI11403 fiI11403 w11405 ew11405 w11406 ew11406 w11407 ew11407 w11408 ew11408 w11409 ew11409 w11410 ew11410 w11411 ew11411 w11412 ew11412 w11413 ew11413 (by omega) (by omega) (by omega) (by omega) (by omega) (by omega) (by omega) (by omega) (by omega) (by omega) (by omega) (by omega) (by omega) (by omega) (by omega) PA_I11403_11403 (by have hq := pv11431; rw [show w11407.toInt = w11366.toInt by omega] at hq; rw [hv11433, Int.zero_mul]; omega) (Nat.lt_succ_self _))
                · refine WP_goto 243 dX2_weigh_106 rfl ?_
                  refine WP_iinc (ls' := [(0, _), (1, _), (2, _), (3, _), (4, _), (5, _), (6, _), (7, _), (8, _), (9, _)]) dX2_weigh_243 rfl (by decide) rfl ?_
                  have hv11503 : (i11402 + Int32.ofInt (1)).toInt = i11402.toInt + (1) := ia_n rfl (by omega) (by omega)
                  generalize i11402 + Int32.ofInt (1) = v11503 at hv11503 ⊢
                  refine WP_goto 33 dX2_weigh_246 rfl ?_
                  exact WP_sub (fc rfl (fc rfl (fc rfl (fc rfl (fc rfl (fc rfl (fc rfl fn))))))) (ihlp33_11413 v11503 I11403 hI11403 fiI11403 w11405 ew11405 w11406 ew11406 w11407 ew11407 w11408 ew11408 w11409 ew11409 w11410 ew11410 w11411 ew11411 w11412 ew11412 w11413 ew11413 (by omega) (by omega) (by omega) (by omega) (by omega) (by omega) (by omega) (by omega) (by omega) (by omega) (by omega) (by omega) PA_I11403_11403 (by omega))
        exact WP_sub (fc rfl (fc rfl (fc rfl (fc rfl (fc rfl (fc rfl (fc rfl fn))))))) (lp33_11413 _ v11401 I11386 hI11386 fiI11386 w11388 ew11388 w11389 ew11389 w11390 ew11390 w11391 ew11391 w11392 ew11392 w11393 ew11393 w11394 ew11394 w11395 ew11395 w11396 ew11396 (by omega) (by omega) (by omega) (by omega) (by omega) (by omega) (by omega) (by omega) (by omega) (by omega) (by omega) (by omega) PA_I11386_11386 (Nat.lt_succ_self _))
  obtain ⟨w11504, ew11504⟩ : ∃ w : Int32, I11373 (ad g 43) 1 = w := ⟨_, rfl⟩
  have bw11504 := BT_get hI11373.1 43 1 2 (0) (0) (47) (by decide) 1 (by decide) (by decide)
  rw [ew11504] at bw11504
  exact WP_sub (fc rfl (fc rfl (fc rfl (fc rfl (fc rfl (fc rfl fn)))))) (lp18_11396 _ v11384 I11373 hI11373 fr11383 w11364 e11375 w11365 e11376 w11366 e11377 w11367 e11378 w11368 e11379 w11369 e11380 v11372 e11382 w11504 ew11504 w11370 e11381 (by omega) (by omega) (by omega) (by omega) (by omega) (by omega) (by omega) (by omega) (by omega) (by omega) (by omega) (by omega) (Or.inl (by omega)) (Nat.lt_succ_self _))
