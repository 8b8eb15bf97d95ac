theorem TPM_fr {g : GG} (hy : Ly g) {B : Nat → Int} {n : Nat} {I I' : pI} {C : List Nat} (h : TPM g B n I) (hf : FC g C I I') (hc : ∀ i ∈ C, (0 ≠ i ∧ 1 ≠ i) ∧ i < 49) : TPM g B n I' := by
  unfold TPM
  rw [FC_at hy hf 0 (by decide) (fun i hi => ⟨(hc i hi).1.1, (hc i hi).2⟩), FC_at hy hf 1 (by decide) (fun i hi => ⟨(hc i hi).1.2, (hc i hi).2⟩)]
  exact h
theorem CUM_fr {g : GG} (hy : Ly g) {B : Nat → Int} {n p : Nat} {I I' : pI} {C : List Nat} (h : CUM g B n p I) (hf : FC g C I I') (hc : ∀ i ∈ C, 0 ≠ i ∧ i < 49) : CUM g B n p I' := by
  unfold CUM
  rw [FC_at hy hf 0 (by decide) hc]
  exact h
theorem NOF_fr {g : GG} (hy : Ly g) {I I' : pI} {C : List Nat} (hf : FC g C I I') (hc : ∀ i ∈ C, 0 ≠ i ∧ i < 49) : NOF g I I' := by
  unfold NOF
  rw [FC_at hy hf 0 (by decide) hc]
  exact ⟨rfl, rfl⟩
set_option maxHeartbeats 4000000 in
set_option maxRecDepth 100000 in
theorem em_readSort {g : GG} {I : pI} {J : pJ} {R : pR} (hy : Ly g) (hr : Rf g R) {B : Nat → Int} {n p : Nat} {S : TwS}  (hT : TPM g B n I) (hC : CUM g B n p I) (hn : n ≤ 900) (hB : ∀ q, -128 ≤ B q ∧ B q ≤ 127) (hp : p ≤ n) (hR : RTM g S I J) (hPI : PI S) (hSB : SBn S) (hPJ : PJ S) : SP g mX11_readSort [.ref (ad g 0)] I J R (fun r I' J' R' => R' = R ∧ FC g [0, 14, 15, 16, 17, 27, 30, 31, 32, 33] I I' ∧ FC g [4] J J' ∧ FQ g [3, 4, 5, 6, 7, 8, 9, 15] I I' ∧ ∃ v : Int32, r = some (.int v) ∧ ((v.toInt = 0 ∧ ERR g (clu B n 1 p S) I') ∨ (v.toInt = 1 ∧ ∃ S2 P2 p2, clu B n 1 p S = .ok (S2, P2, p2) ∧ RTM g (tel 1 P2 S2) I' J' ∧ TPM g B n I' ∧ CUM g B n p2 I' ∧ NOF g I I'))) := by
  refine SP_of ⟨by decide, rfl⟩ (Nat.le_of_ble_eq_true rfl) ?_
  have fI0 : FC g [0, 14, 15, 16, 17, 27, 30, 31, 32, 33] I I := FC_rf
  have fJ0 : FC g [4] J J := FC_rf
  have fQ0 : FQ g [3, 4, 5, 6, 7, 8, 9, 15] I I := FQ_rf
  obtain ⟨w2131, ew2131⟩ : ∃ w : Int32, I (ad g 0) 3 = w := ⟨_, rfl⟩
  obtain ⟨w2132, ew2132⟩ : ∃ w : Int32, I (ad g 0) 7 = w := ⟨_, rfl⟩
  obtain ⟨w2133, ew2133⟩ : ∃ w : Int32, I (ad g 0) 8 = w := ⟨_, rfl⟩
  obtain ⟨w2134, ew2134⟩ : ∃ w : Int32, I (ad g 0) 9 = w := ⟨_, rfl⟩
  obtain ⟨w2135, ew2135⟩ : ∃ w : Int32, I (ad g 0) 15 = w := ⟨_, rfl⟩
  have nf0 : NOF g I I := NOF_rf
  have E0 : prts B n 1 (SHP 1) 0 (tT B n p) S (fun _ => 0) = prts B n 1 ((SHP 1).drop 0) 0 (tT B n p) S (fun _ => 0) := rfl
  have hbb := hSB
  unfold SBn at hbb
  have hsl := hR.1.1
  simp only [ew2135] at hsl
  have c3z := hC.1
  simp only [ew2131] at c3z
  obtain ⟨s, hs⟩ : ∃ s : Nat, S.1 0 1 = (s : Int) := ⟨(S.1 0 1).toNat, by omega⟩
  refine WP_aload_n dX11_readSort_0 rfl ?_
  refine WQ_getim dX11_readSort_1 fX11_88 rfl (ly_is hy 0 11 rfl) ew2135 ?_
  refine WQ_iconst (4) (4) dX11_readSort_4 rfl rfl (fun v2136 hv2136 => ?_)
  refine WQ_icmp_ne 14 dX11_readSort_5 rfl (fun c2136 => ?_) (fun c2136 => ?_)
  · have ha : ahd 1 S = 0 := by
      unfold ahd
      rw [if_neg (by omega), if_neg (by rintro ⟨z, -⟩; omega)]
    refine WP_aload_n dX11_readSort_14 rfl ?_
    refine WP_callV0 (k := 11) dX11_readSort_15 ⟨⟨⟨by decide, by decide⟩, zX11_scan⟩, lX11_63, by decide, rfl, vX11_scan.1, vX11_scan.2⟩ (ly_is hy 0 11 rfl) (em_scan hy hr   hT hn hB hC.2.1 (tT_le B hp).2) (Nat.le_of_ble_eq_true rfl) ?_
    intro r I2139 J2140 Ra hq
    obtain ⟨ec, g2141, g2142, g2143, er, p2138⟩ := hq
    rw [ec, er]
    clear ec er Ra r
    have e2144 : I2139 (ad g 0) 7 = w2132 := by rw [g2143 7 (by decide)]; exact ew2132
    have e2145 : I2139 (ad g 0) 8 = w2133 := by rw [g2143 8 (by decide)]; exact ew2133
    have e2146 : I2139 (ad g 0) 9 = w2134 := by rw [g2143 9 (by decide)]; exact ew2134
    have e2147 : I2139 (ad g 0) 15 = w2135 := by rw [g2143 15 (by decide)]; exact ew2135
    have fI2148 : FC g [0, 14, 15, 16, 17, 27, 30, 31, 32, 33] I I2139 := FC_tr fI0 (FC_mono g2141 (by decide))
    have fJ2149 : FC g [4] J J2140 := FC_tr fJ0 (FC_mono g2142 (by decide))
    have fQ2150 : FQ g [3, 4, 5, 6, 7, 8, 9, 15] I I2139 := FQ_tr fQ0 (FQ_mono g2143 (by decide))
    obtain ⟨w2151, ew2151⟩ : ∃ w : Int32, I2139 (ad g 0) 3 = w := ⟨_, rfl⟩
    try simp only [ew2151, e2144, e2145, e2146, e2147, ew2131, ew2132, ew2133, ew2134, ew2135] at p2138
    obtain ⟨hT1, hC1⟩ := p2138
    have hR1 := RTM_fr hy hR g2141 g2142 g2143 (by decide) (by decide) (by decide)
    have nf1 := NOF_tr nf0 (NOF_fq g2143 (by decide))
    have hq1 := (tT_le B hp).2
    refine WP_aload_n dX11_readSort_18 rfl ?_
    refine WQ_getim dX11_readSort_19 fX11_88 rfl (ly_is hy 0 11 rfl) e2147 ?_
    refine WP_istore_n (ls' := [(0, _), (1, _)]) dX11_readSort_22 (by decide) rfl ?_
    refine WP_aload_n dX11_readSort_23 rfl ?_
    refine WP_aload_n dX11_readSort_24 rfl ?_
    refine WP_getr dX11_readSort_25 fX11_91 rfl (ly_is hy 0 11 rfl) (rf hr 0 22 4 (by decide)) ?_
    refine WP_iload_n dX11_readSort_28 rfl ?_
    refine WP_callV2 (k := 11) dX11_readSort_29 ⟨⟨⟨by decide, by decide⟩, zX11_fresh⟩, lX11_95, by decide, rfl, vX11_fresh.1, vX11_fresh.2⟩ (ly_is hy 0 11 rfl) (em_fresha hy hr _  (c := 1) (i := 0) (S := S) (P := fun _ => 0) hT1 hC1 hn hB hq1 hR1.2.2.2.2.2.2.2 hSB (by omega) (by omega)) (Nat.le_of_ble_eq_true rfl) ?_
    intro r I2154 J2155 Ra hq
    obtain ⟨ec, g2156, g2157, g2158, v2153, er, p2152⟩ := hq
    rw [ec, er]
    clear ec er Ra r
    have e2159 : I2154 (ad g 0) 15 = w2135 := by rw [g2158 15 (by decide)]; exact e2147
    have fI2160 : FC g [0, 14, 15, 16, 17, 27, 30, 31, 32, 33] I I2154 := FC_tr fI2148 (FC_mono g2156 (by decide))
    have fJ2161 : FC g [4] J J2155 := FC_tr fJ2149 (FC_mono g2157 (by decide))
    have fQ2162 : FQ g [3, 4, 5, 6, 7, 8, 9, 15] I I2154 := FQ_tr fQ2150 (FQ_mono g2158 (by decide))
    obtain ⟨w2163, ew2163⟩ : ∃ w : Int32, I2154 (ad g 0) 3 = w := ⟨_, rfl⟩
    obtain ⟨w2164, ew2164⟩ : ∃ w : Int32, I2154 (ad g 0) 7 = w := ⟨_, rfl⟩
    obtain ⟨w2165, ew2165⟩ : ∃ w : Int32, I2154 (ad g 0) 8 = w := ⟨_, rfl⟩
    obtain ⟨w2166, ew2166⟩ : ∃ w : Int32, I2154 (ad g 0) 9 = w := ⟨_, rfl⟩
    try simp only [ew2163, ew2164, ew2165, ew2166, e2159, ew2131, ew2132, ew2133, ew2134, ew2135] at p2152
    refine WQ_if_eq 45 dX11_readSort_32 rfl (fun c2166 => ?_) (fun c2166 => ?_)
    · refine WQ_iconst (0) (0) dX11_readSort_45 rfl rfl (fun v2168 hv2168 => ?_)
      exact WP_zret dX11_readSort_46 rfl (nar_z (by omega)) ⟨rfl, fI2160, fJ2161, fQ2162, v2168, rfl, by
        try simp only [e2159, ew2163, ew2164, ew2165, ew2166, ew2131, ew2132, ew2133, ew2134, ew2135]
        rcases p2152 with ⟨-, e⟩ | ⟨z, -⟩
        · exact Or.inl ⟨by omega, ERR_to e (fun er h => clu_er ha E0 (by decide) rfl h)⟩
        · exact absurd z (by omega)⟩
    · obtain ⟨-, kz, nJ, mJ, okw, hT2, hC2, nz⟩ := Or.resolve_left p2152 (by rintro ⟨z, -⟩; omega)
      clear p2152
      have nf2 := NOF_tr nf1 nz
      have hq2 := (tT_le B hq1).2
      clear nz
      obtain ⟨Sz, eSz⟩ : ∃ Z : TwS, Z = (pp S.1 14 ((S.1 0 1).toNat) (tW B n (tT B n p)), S.2) := ⟨_, rfl⟩
      rw [← eSz] at kz
      have E1 := clu_go E0 (by decide) rfl kz
      refine WP_aload_n dX11_readSort_35 rfl ?_
      refine WQ_iconst (1) (1) dX11_readSort_36 rfl rfl (fun v2169 hv2169 => ?_)
      refine WQ_bipush (99) (99) dX11_readSort_37 rfl rfl (fun v2170 hv2170 => ?_)
      refine WP_callV2 (k := 11) dX11_readSort_39 ⟨⟨⟨by decide, by decide⟩, zX11_number⟩, lX11_81, by decide, rfl, vX11_number.1, vX11_number.2⟩ (ly_is hy 0 11 rfl) (em_num hy hr _ _  (c := 1) (i := 1) (ch := 80) (S := Sz) (P := (fun _ => 0)) hT2 hC2 hn hB hq2 (by decide) (by decide) (by rw [show loB 80 = 1 from rfl]; omega) (by rw [show hiB 80 = 99 from rfl]; omega)) (Nat.le_of_ble_eq_true rfl) ?_
      intro r I2173 J2174 Ra hq
      obtain ⟨ec, g2175, g2176, g2177, v2172, er, p2171⟩ := hq
      rw [ec, er]
      clear ec er Ra r
      have e2178 : I2173 (ad g 0) 15 = w2135 := by rw [g2177 15 (by decide)]; exact e2159
      have fI2179 : FC g [0, 14, 15, 16, 17, 27, 30, 31, 32, 33] I I2173 := FC_tr fI2160 (FC_mono g2175 (by decide))
      have fJ2180 : FC g [4] J J2174 := FC_tr fJ2161 (FC_mono g2176 (by decide))
      have fQ2181 : FQ g [3, 4, 5, 6, 7, 8, 9, 15] I I2173 := FQ_tr fQ2162 (FQ_mono g2177 (by decide))
      obtain ⟨w2182, ew2182⟩ : ∃ w : Int32, I2173 (ad g 0) 3 = w := ⟨_, rfl⟩
      obtain ⟨w2183, ew2183⟩ : ∃ w : Int32, I2173 (ad g 0) 7 = w := ⟨_, rfl⟩
      obtain ⟨w2184, ew2184⟩ : ∃ w : Int32, I2173 (ad g 0) 8 = w := ⟨_, rfl⟩
      obtain ⟨w2185, ew2185⟩ : ∃ w : Int32, I2173 (ad g 0) 9 = w := ⟨_, rfl⟩
      try simp only [ew2182, ew2183, ew2184, ew2185, e2178, ew2131, ew2132, ew2133, ew2134, ew2135] at p2171
      refine WQ_if_ne 47 dX11_readSort_42 rfl (fun c2185 => ?_) (fun c2185 => ?_)
      · obtain ⟨-, kz, lb3, ub3, gt3, hT3, hC3, nz⟩ := Or.resolve_left p2171 (by rintro ⟨z, -⟩; omega)
        clear p2171
        have nf3 := NOF_tr nf2 nz
        have hq3 := (tT_le B hq2).2
        clear nz
        obtain ⟨P2, hPa2, hPb2, k2⟩ : ∃ P9 : Nat → Int, P9 1 = tV B n (tT B n (tT B n p)) ∧ (∀ j, j ≠ 1 → P9 j = (fun _ => 0) j) ∧ prt B n 1 1 80 (tT B n (tT B n p)) Sz (fun _ => 0) = .ok (Sz, P9) := ⟨fun j => if j = 1 then tV B n (tT B n (tT B n p)) else (fun _ => 0) j, if_pos rfl, fun j hj => if_neg hj, kz⟩
        have E2 := clu_go E1 (by decide) rfl k2
        clear kz
        refine WP_aload_n dX11_readSort_47 rfl ?_
        refine WP_getr dX11_readSort_48 fX11_99 rfl (ly_is hy 0 11 rfl) (rf hr 0 32 14 (by decide)) ?_
        refine WP_iload_n dX11_readSort_51 rfl ?_
        refine WP_aload_n dX11_readSort_52 rfl ?_
        refine WQ_getim dX11_readSort_53 fX11_56 rfl (ly_is hy 0 11 rfl) ew2183 ?_
        refine WE_is dX11_readSort_56 (ly_is hy 14 13 rfl) (ly_n hy 14 4 rfl) (by omega) (by omega) (fun I2187 eI2187 => ?_)
        have e2188 : I2187 (ad g 0) 15 = w2135 := by rw [eI2187, pp_ne _ _ (Or.inl (ly_ne hy (by decide) (by decide) (by decide)))]; exact e2178
        have e2189 : I2187 (ad g 0) 3 = w2182 := by rw [eI2187, pp_ne _ _ (Or.inl (ly_ne hy (by decide) (by decide) (by decide)))]; exact ew2182
        have e2190 : I2187 (ad g 0) 7 = w2183 := by rw [eI2187, pp_ne _ _ (Or.inl (ly_ne hy (by decide) (by decide) (by decide)))]; exact ew2183
        have e2191 : I2187 (ad g 0) 8 = w2184 := by rw [eI2187, pp_ne _ _ (Or.inl (ly_ne hy (by decide) (by decide) (by decide)))]; exact ew2184
        have e2192 : I2187 (ad g 0) 9 = w2185 := by rw [eI2187, pp_ne _ _ (Or.inl (ly_ne hy (by decide) (by decide) (by decide)))]; exact ew2185
        have fI2193 : FC g [0, 14, 15, 16, 17, 27, 30, 31, 32, 33] I I2187 := by rw [eI2187]; exact FC_pp fI2179 (by decide)
        have fQ2194 : FQ g [3, 4, 5, 6, 7, 8, 9, 15] I I2187 := by rw [eI2187]; exact FQ_ppn (ly_ne hy (by decide) (by decide) (by decide)) fQ2181
        rw [show w2135.toInt.toNat = s by omega] at eI2187
        have hT4 : TPM g B n I2187 := by rw [eI2187]; exact tpm_pp hy hT3 (by decide)
        have hC4 : CUM g B n (tT B n (tT B n (tT B n p))) I2187 := by rw [eI2187]; exact cum_pp hy hC3 (by decide)
        have nf4 : NOF g I I2187 := by rw [eI2187]; exact NOF_tr nf3 (NOF_pp hy (by decide))
        refine WP_aload_n dX11_readSort_57 rfl ?_
        refine WQ_iconst (0) (0) dX11_readSort_58 rfl rfl (fun v2195 hv2195 => ?_)
        refine WQ_sipush (1000) (1000) dX11_readSort_59 rfl rfl (fun v2196 hv2196 => ?_)
        refine WP_callV2 (k := 11) dX11_readSort_62 ⟨⟨⟨by decide, by decide⟩, zX11_number⟩, lX11_81, by decide, rfl, vX11_number.1, vX11_number.2⟩ (ly_is hy 0 11 rfl) (em_num hy hr _ _  (c := 1) (i := 2) (ch := 72) (S := Sz) (P := P2) hT4 hC4 hn hB hq3 (by decide) (by decide) (by rw [show loB 72 = 0 from rfl]; omega) (by rw [show hiB 72 = 1000 from rfl]; omega)) (Nat.le_of_ble_eq_true rfl) ?_
        intro r I2199 J2200 Ra hq
        obtain ⟨ec, g2201, g2202, g2203, v2198, er, p2197⟩ := hq
        rw [ec, er]
        clear ec er Ra r
        have e2204 : I2199 (ad g 0) 15 = w2135 := by rw [g2203 15 (by decide)]; exact e2188
        have fI2205 : FC g [0, 14, 15, 16, 17, 27, 30, 31, 32, 33] I I2199 := FC_tr fI2193 (FC_mono g2201 (by decide))
        have fJ2206 : FC g [4] J J2200 := FC_tr fJ2180 (FC_mono g2202 (by decide))
        have fQ2207 : FQ g [3, 4, 5, 6, 7, 8, 9, 15] I I2199 := FQ_tr fQ2194 (FQ_mono g2203 (by decide))
        obtain ⟨w2208, ew2208⟩ : ∃ w : Int32, I2199 (ad g 0) 3 = w := ⟨_, rfl⟩
        obtain ⟨w2209, ew2209⟩ : ∃ w : Int32, I2199 (ad g 0) 7 = w := ⟨_, rfl⟩
        obtain ⟨w2210, ew2210⟩ : ∃ w : Int32, I2199 (ad g 0) 8 = w := ⟨_, rfl⟩
        obtain ⟨w2211, ew2211⟩ : ∃ w : Int32, I2199 (ad g 0) 9 = w := ⟨_, rfl⟩
        try simp only [ew2208, ew2209, ew2210, ew2211, e2204, ew2131, ew2132, ew2133, ew2134, ew2135] at p2197
        refine WQ_if_ne 70 dX11_readSort_65 rfl (fun c2211 => ?_) (fun c2211 => ?_)
        · obtain ⟨-, kz, lb5, ub5, gt5, hT5, hC5, nz⟩ := Or.resolve_left p2197 (by rintro ⟨z, -⟩; omega)
          clear p2197
          have nf5 := NOF_tr nf4 nz
          have hq5 := (tT_le B hq3).2
          clear nz
          obtain ⟨P3, hPa3, hPb3, k3⟩ : ∃ P9 : Nat → Int, P9 2 = tV B n (tT B n (tT B n (tT B n p))) ∧ (∀ j, j ≠ 2 → P9 j = P2 j) ∧ prt B n 1 2 72 (tT B n (tT B n (tT B n p))) Sz P2 = .ok (Sz, P9) := ⟨fun j => if j = 2 then tV B n (tT B n (tT B n (tT B n p))) else P2 j, if_pos rfl, fun j hj => if_neg hj, kz⟩
          have E3 := clu_go E2 (by decide) rfl k3
          clear kz
          refine WP_aload_n dX11_readSort_70 rfl ?_
          refine WP_getr dX11_readSort_71 fX11_102 rfl (ly_is hy 0 11 rfl) (rf hr 0 33 15 (by decide)) ?_
          refine WP_iload_n dX11_readSort_74 rfl ?_
          refine WP_aload_n dX11_readSort_75 rfl ?_
          refine WQ_getim dX11_readSort_76 fX11_56 rfl (ly_is hy 0 11 rfl) ew2209 ?_
          refine WE_is dX11_readSort_79 (ly_is hy 15 13 rfl) (ly_n hy 15 4 rfl) (by omega) (by omega) (fun I2213 eI2213 => ?_)
          have e2214 : I2213 (ad g 0) 15 = w2135 := by rw [eI2213, pp_ne _ _ (Or.inl (ly_ne hy (by decide) (by decide) (by decide)))]; exact e2204
          have e2215 : I2213 (ad g 0) 3 = w2208 := by rw [eI2213, pp_ne _ _ (Or.inl (ly_ne hy (by decide) (by decide) (by decide)))]; exact ew2208
          have e2216 : I2213 (ad g 0) 7 = w2209 := by rw [eI2213, pp_ne _ _ (Or.inl (ly_ne hy (by decide) (by decide) (by decide)))]; exact ew2209
          have e2217 : I2213 (ad g 0) 8 = w2210 := by rw [eI2213, pp_ne _ _ (Or.inl (ly_ne hy (by decide) (by decide) (by decide)))]; exact ew2210
          have e2218 : I2213 (ad g 0) 9 = w2211 := by rw [eI2213, pp_ne _ _ (Or.inl (ly_ne hy (by decide) (by decide) (by decide)))]; exact ew2211
          have fI2219 : FC g [0, 14, 15, 16, 17, 27, 30, 31, 32, 33] I I2213 := by rw [eI2213]; exact FC_pp fI2205 (by decide)
          have fQ2220 : FQ g [3, 4, 5, 6, 7, 8, 9, 15] I I2213 := by rw [eI2213]; exact FQ_ppn (ly_ne hy (by decide) (by decide) (by decide)) fQ2207
          rw [show w2135.toInt.toNat = s by omega] at eI2213
          have hT6 : TPM g B n I2213 := by rw [eI2213]; exact tpm_pp hy hT5 (by decide)
          have hC6 : CUM g B n (tT B n (tT B n (tT B n (tT B n p)))) I2213 := by rw [eI2213]; exact cum_pp hy hC5 (by decide)
          have nf6 : NOF g I I2213 := by rw [eI2213]; exact NOF_tr nf5 (NOF_pp hy (by decide))
          refine WP_aload_n dX11_readSort_80 rfl ?_
          refine WQ_iconst (0) (0) dX11_readSort_81 rfl rfl (fun v2221 hv2221 => ?_)
          refine WQ_bipush (60) (60) dX11_readSort_82 rfl rfl (fun v2222 hv2222 => ?_)
          refine WP_callV2 (k := 11) dX11_readSort_84 ⟨⟨⟨by decide, by decide⟩, zX11_number⟩, lX11_81, by decide, rfl, vX11_number.1, vX11_number.2⟩ (ly_is hy 0 11 rfl) (em_num hy hr _ _  (c := 1) (i := 3) (ch := 67) (S := Sz) (P := P3) hT6 hC6 hn hB hq5 (by decide) (by decide) (by rw [show loB 67 = 0 from rfl]; omega) (by rw [show hiB 67 = 60 from rfl]; omega)) (Nat.le_of_ble_eq_true rfl) ?_
          intro r I2225 J2226 Ra hq
          obtain ⟨ec, g2227, g2228, g2229, v2224, er, p2223⟩ := hq
          rw [ec, er]
          clear ec er Ra r
          have e2230 : I2225 (ad g 0) 15 = w2135 := by rw [g2229 15 (by decide)]; exact e2214
          have fI2231 : FC g [0, 14, 15, 16, 17, 27, 30, 31, 32, 33] I I2225 := FC_tr fI2219 (FC_mono g2227 (by decide))
          have fJ2232 : FC g [4] J J2226 := FC_tr fJ2206 (FC_mono g2228 (by decide))
          have fQ2233 : FQ g [3, 4, 5, 6, 7, 8, 9, 15] I I2225 := FQ_tr fQ2220 (FQ_mono g2229 (by decide))
          obtain ⟨w2234, ew2234⟩ : ∃ w : Int32, I2225 (ad g 0) 3 = w := ⟨_, rfl⟩
          obtain ⟨w2235, ew2235⟩ : ∃ w : Int32, I2225 (ad g 0) 7 = w := ⟨_, rfl⟩
          obtain ⟨w2236, ew2236⟩ : ∃ w : Int32, I2225 (ad g 0) 8 = w := ⟨_, rfl⟩
          obtain ⟨w2237, ew2237⟩ : ∃ w : Int32, I2225 (ad g 0) 9 = w := ⟨_, rfl⟩
          try simp only [ew2234, ew2235, ew2236, ew2237, e2230, ew2131, ew2132, ew2133, ew2134, ew2135] at p2223
          refine WQ_if_ne 92 dX11_readSort_87 rfl (fun c2237 => ?_) (fun c2237 => ?_)
          · obtain ⟨-, kz, lb7, ub7, gt7, hT7, hC7, nz⟩ := Or.resolve_left p2223 (by rintro ⟨z, -⟩; omega)
            clear p2223
            have nf7 := NOF_tr nf6 nz
            have hq7 := (tT_le B hq5).2
            clear nz
            obtain ⟨P4, hPa4, hPb4, k4⟩ : ∃ P9 : Nat → Int, P9 3 = tV B n (tT B n (tT B n (tT B n (tT B n p)))) ∧ (∀ j, j ≠ 3 → P9 j = P3 j) ∧ prt B n 1 3 67 (tT B n (tT B n (tT B n (tT B n p)))) Sz P3 = .ok (Sz, P9) := ⟨fun j => if j = 3 then tV B n (tT B n (tT B n (tT B n (tT B n p)))) else P3 j, if_pos rfl, fun j hj => if_neg hj, kz⟩
            have E4 := clu_go E3 (by decide) rfl k4
            clear kz
            refine WP_aload_n dX11_readSort_92 rfl ?_
            refine WP_getr dX11_readSort_93 fX11_105 rfl (ly_is hy 0 11 rfl) (rf hr 0 34 16 (by decide)) ?_
            refine WP_iload_n dX11_readSort_96 rfl ?_
            refine WP_aload_n dX11_readSort_97 rfl ?_
            refine WQ_getim dX11_readSort_98 fX11_56 rfl (ly_is hy 0 11 rfl) ew2235 ?_
            refine WE_is dX11_readSort_101 (ly_is hy 16 13 rfl) (ly_n hy 16 4 rfl) (by omega) (by omega) (fun I2239 eI2239 => ?_)
            have e2240 : I2239 (ad g 0) 15 = w2135 := by rw [eI2239, pp_ne _ _ (Or.inl (ly_ne hy (by decide) (by decide) (by decide)))]; exact e2230
            have e2241 : I2239 (ad g 0) 3 = w2234 := by rw [eI2239, pp_ne _ _ (Or.inl (ly_ne hy (by decide) (by decide) (by decide)))]; exact ew2234
            have e2242 : I2239 (ad g 0) 7 = w2235 := by rw [eI2239, pp_ne _ _ (Or.inl (ly_ne hy (by decide) (by decide) (by decide)))]; exact ew2235
            have e2243 : I2239 (ad g 0) 8 = w2236 := by rw [eI2239, pp_ne _ _ (Or.inl (ly_ne hy (by decide) (by decide) (by decide)))]; exact ew2236
            have e2244 : I2239 (ad g 0) 9 = w2237 := by rw [eI2239, pp_ne _ _ (Or.inl (ly_ne hy (by decide) (by decide) (by decide)))]; exact ew2237
            have fI2245 : FC g [0, 14, 15, 16, 17, 27, 30, 31, 32, 33] I I2239 := by rw [eI2239]; exact FC_pp fI2231 (by decide)
            have fQ2246 : FQ g [3, 4, 5, 6, 7, 8, 9, 15] I I2239 := by rw [eI2239]; exact FQ_ppn (ly_ne hy (by decide) (by decide) (by decide)) fQ2233
            rw [show w2135.toInt.toNat = s by omega] at eI2239
            have hT8 : TPM g B n I2239 := by rw [eI2239]; exact tpm_pp hy hT7 (by decide)
            have hC8 : CUM g B n (tT B n (tT B n (tT B n (tT B n (tT B n p))))) I2239 := by rw [eI2239]; exact cum_pp hy hC7 (by decide)
            have nf8 : NOF g I I2239 := by rw [eI2239]; exact NOF_tr nf7 (NOF_pp hy (by decide))
            refine WP_aload_n dX11_readSort_102 rfl ?_
            refine WP_getr dX11_readSort_103 fX11_108 rfl (ly_is hy 0 11 rfl) (rf hr 0 35 17 (by decide)) ?_
            refine WP_iload_n dX11_readSort_106 rfl ?_
            refine WQ_iconst (0) (0) dX11_readSort_107 rfl rfl (fun v2247 hv2247 => ?_)
            refine WE_is dX11_readSort_108 (ly_is hy 17 13 rfl) (ly_n hy 17 4 rfl) (by omega) (by omega) (fun I2248 eI2248 => ?_)
            have e2249 : I2248 (ad g 0) 15 = w2135 := by rw [eI2248, pp_ne _ _ (Or.inl (ly_ne hy (by decide) (by decide) (by decide)))]; exact e2240
            have e2250 : I2248 (ad g 0) 3 = w2234 := by rw [eI2248, pp_ne _ _ (Or.inl (ly_ne hy (by decide) (by decide) (by decide)))]; exact e2241
            have e2251 : I2248 (ad g 0) 7 = w2235 := by rw [eI2248, pp_ne _ _ (Or.inl (ly_ne hy (by decide) (by decide) (by decide)))]; exact e2242
            have e2252 : I2248 (ad g 0) 8 = w2236 := by rw [eI2248, pp_ne _ _ (Or.inl (ly_ne hy (by decide) (by decide) (by decide)))]; exact e2243
            have e2253 : I2248 (ad g 0) 9 = w2237 := by rw [eI2248, pp_ne _ _ (Or.inl (ly_ne hy (by decide) (by decide) (by decide)))]; exact e2244
            have fI2254 : FC g [0, 14, 15, 16, 17, 27, 30, 31, 32, 33] I I2248 := by rw [eI2248]; exact FC_pp fI2245 (by decide)
            have fQ2255 : FQ g [3, 4, 5, 6, 7, 8, 9, 15] I I2248 := by rw [eI2248]; exact FQ_ppn (ly_ne hy (by decide) (by decide) (by decide)) fQ2246
            rw [show w2135.toInt.toNat = s by omega] at eI2248
            have hT9 : TPM g B n I2248 := by rw [eI2248]; exact tpm_pp hy hT8 (by decide)
            have hC9 : CUM g B n (tT B n (tT B n (tT B n (tT B n (tT B n p))))) I2248 := by rw [eI2248]; exact cum_pp hy hC8 (by decide)
            have nf9 : NOF g I I2248 := by rw [eI2248]; exact NOF_tr nf8 (NOF_pp hy (by decide))
            refine WP_aload_n dX11_readSort_109 rfl ?_
            refine WP_getr dX11_readSort_110 fX11_111 rfl (ly_is hy 0 11 rfl) (rf hr 0 52 33 (by decide)) ?_
            refine WP_iload_n dX11_readSort_113 rfl ?_
            refine WQ_iconst (0) (0) dX11_readSort_114 rfl rfl (fun v2256 hv2256 => ?_)
            refine WE_is dX11_readSort_115 (ly_is hy 33 13 rfl) (ly_n hy 33 4 rfl) (by omega) (by omega) (fun I2257 eI2257 => ?_)
            have e2258 : I2257 (ad g 0) 15 = w2135 := by rw [eI2257, pp_ne _ _ (Or.inl (ly_ne hy (by decide) (by decide) (by decide)))]; exact e2249
            have e2259 : I2257 (ad g 0) 3 = w2234 := by rw [eI2257, pp_ne _ _ (Or.inl (ly_ne hy (by decide) (by decide) (by decide)))]; exact e2250
            have e2260 : I2257 (ad g 0) 7 = w2235 := by rw [eI2257, pp_ne _ _ (Or.inl (ly_ne hy (by decide) (by decide) (by decide)))]; exact e2251
            have e2261 : I2257 (ad g 0) 8 = w2236 := by rw [eI2257, pp_ne _ _ (Or.inl (ly_ne hy (by decide) (by decide) (by decide)))]; exact e2252
            have e2262 : I2257 (ad g 0) 9 = w2237 := by rw [eI2257, pp_ne _ _ (Or.inl (ly_ne hy (by decide) (by decide) (by decide)))]; exact e2253
            have fI2263 : FC g [0, 14, 15, 16, 17, 27, 30, 31, 32, 33] I I2257 := by rw [eI2257]; exact FC_pp fI2254 (by decide)
            have fQ2264 : FQ g [3, 4, 5, 6, 7, 8, 9, 15] I I2257 := by rw [eI2257]; exact FQ_ppn (ly_ne hy (by decide) (by decide) (by decide)) fQ2255
            rw [show w2135.toInt.toNat = s by omega] at eI2257
            have hT10 : TPM g B n I2257 := by rw [eI2257]; exact tpm_pp hy hT9 (by decide)
            have hC10 : CUM g B n (tT B n (tT B n (tT B n (tT B n (tT B n p))))) I2257 := by rw [eI2257]; exact cum_pp hy hC9 (by decide)
            have nf10 : NOF g I I2257 := by rw [eI2257]; exact NOF_tr nf9 (NOF_pp hy (by decide))
            refine WQ_iconst (0) (0) dX11_readSort_116 rfl rfl (fun v2265 hv2265 => ?_)
            refine WP_istore_n (ls' := [(0, _), (1, _), (2, _)]) dX11_readSort_117 (by decide) rfl ?_
            have hp15 : (I2257 (ad g 0) 15).toInt = (s : Int) := by rw [e2258]; omega
            have lp2270 : ∀ (mz : Nat) (i2266 : Int32) (I2267 : pI), FC g [0, 14, 15, 16, 17, 27, 30, 31, 32, 33] I I2267 → FQ g [3, 4, 5, 6, 7, 8, 9, 15] I I2267 → (∃ d : Nat, i2266.toInt = (d : Int) ∧ d ≤ 7 ∧ FC g [27, 30, 31, 32] I2257 I2267 ∧ (∀ q, q < 7 * s → I2267 (ad g 27) q = I2257 (ad g 27) q) ∧ (∀ e, e < d → (I2267 (ad g 27) (7 * s + e)).toInt = 0) ∧ (∀ q, q < 7 * s → I2267 (ad g 30) q = I2257 (ad g 30) q) ∧ (∀ e, e < d → (I2267 (ad g 30) (7 * s + e)).toInt = -1) ∧ (∀ q, q < 7 * s → I2267 (ad g 31) q = I2257 (ad g 31) q) ∧ (∀ e, e < d → (I2267 (ad g 31) (7 * s + e)).toInt = 0) ∧ (∀ q, q < 7 * s → I2267 (ad g 32) q = I2257 (ad g 32) q) ∧ (∀ e, e < d → (I2267 (ad g 32) (7 * s + e)).toInt = 0)) → (8 - i2266.toInt.toNat) < mz → WP g mX11_readSort 118 [(0, .ref (ad g 0)), (1, .int w2135), (2, .int i2266)] [] I2267 J2226 R (fun r I' J' R' => R' = R ∧ FC g [0, 14, 15, 16, 17, 27, 30, 31, 32, 33] I I' ∧ FC g [4] J J' ∧ FQ g [3, 4, 5, 6, 7, 8, 9, 15] I I' ∧ ∃ v : Int32, r = some (.int v) ∧ ((v.toInt = 0 ∧ ERR g (clu B n 1 p S) I') ∨ (v.toInt = 1 ∧ ∃ S2 P2 p2, clu B n 1 p S = .ok (S2, P2, p2) ∧ RTM g (tel 1 P2 S2) I' J' ∧ TPM g B n I' ∧ CUM g B n p2 I' ∧ NOF g I I'))) := by
              intro mz
              induction mz with
              | zero =>
                intro i2266 I2267 fI2268 fQ2269 hvlp2270 hmlp2270
                exact absurd hmlp2270 (Nat.not_lt_zero _)
              | succ mz ihlp2270 =>
                intro i2266 I2267 fI2268 fQ2269 hvlp2270 hmlp2270
                obtain ⟨w2271, ew2271⟩ : ∃ w : Int32, I2267 (ad g 0) 3 = w := ⟨_, rfl⟩
                obtain ⟨w2272, ew2272⟩ : ∃ w : Int32, I2267 (ad g 0) 7 = w := ⟨_, rfl⟩
                obtain ⟨w2273, ew2273⟩ : ∃ w : Int32, I2267 (ad g 0) 8 = w := ⟨_, rfl⟩
                obtain ⟨w2274, ew2274⟩ : ∃ w : Int32, I2267 (ad g 0) 9 = w := ⟨_, rfl⟩
                obtain ⟨w2275, ew2275⟩ : ∃ w : Int32, I2267 (ad g 0) 15 = w := ⟨_, rfl⟩
                try simp only [ew2271, ew2272, ew2273, ew2274, ew2275, ew2131, ew2132, ew2133, ew2134, ew2135] at hvlp2270 hmlp2270
                obtain ⟨d, id, id7, iF, i27, j27, i30, j30, i31, j31, i32, j32⟩ := hvlp2270
                have z0 := FC_at hy iF 0 (by decide) (by decide)
                have hsl2 : w2275.toInt = (s : Int) := by rw [← ew2275, z0]; exact hp15
                refine WP_iload_n dX11_readSort_118 rfl ?_
                refine WQ_bipush (7) (7) dX11_readSort_119 rfl rfl (fun v2276 hv2276 => ?_)
                refine WQ_icmp_ge 178 dX11_readSort_121 rfl (fun c2276 => ?_) (fun c2276 => ?_)
                · refine WP_aload_n dX11_readSort_178 rfl ?_
                  refine WP_dup dX11_readSort_179 rfl ?_
                  refine WQ_getim dX11_readSort_180 fX11_88 rfl (ly_is hy 0 11 rfl) ew2275 ?_
                  refine WQ_iconst (1) (1) dX11_readSort_183 rfl rfl (fun v2278 hv2278 => ?_)
                  refine WQ_iadd dX11_readSort_184 (by omega) (by omega) (fun v2279 hv2279 => ?_)
                  refine WQ_puti dX11_readSort_185 fX11_88 rfl rfl (ly_is hy 0 11 rfl) (fun I2280 eI2280 => ?_)
                  have e2281 : I2280 (ad g 0) 3 = w2271 := by rw [eI2280, pp_ne _ _ (Or.inr (by decide))]; exact ew2271
                  have e2282 : I2280 (ad g 0) 7 = w2272 := by rw [eI2280, pp_ne _ _ (Or.inr (by decide))]; exact ew2272
                  have e2283 : I2280 (ad g 0) 8 = w2273 := by rw [eI2280, pp_ne _ _ (Or.inr (by decide))]; exact ew2273
                  have e2284 : I2280 (ad g 0) 9 = w2274 := by rw [eI2280, pp_ne _ _ (Or.inr (by decide))]; exact ew2274
                  have e2285 : I2280 (ad g 0) 15 = v2279 := by rw [eI2280, pp_self]
                  have fI2286 : FC g [0, 14, 15, 16, 17, 27, 30, 31, 32, 33] I I2280 := by rw [eI2280]; exact FC_pp fI2268 (by decide)
                  have fQ2287 : FQ g [3, 4, 5, 6, 7, 8, 9, 15] I I2280 := by rw [eI2280]; exact FQ_pp0 fQ2269 (by decide)
                  refine WQ_iconst (1) (1) dX11_readSort_188 rfl rfl (fun v2288 hv2288 => ?_)
                  exact WP_zret dX11_readSort_189 rfl (nar_z (by omega)) ⟨rfl, fI2286, fJ2232, fQ2287, v2288, rfl, by
                    try simp only [e2281, e2282, e2283, e2284, e2285, ew2131, ew2132, ew2133, ew2134, ew2135]
                    have hTf : TPM g B n I2280 := by rw [eI2280]; exact tpm_p0 hy (TPM_fr hy hT10 iF (by decide)) (by decide)
                    have hCf : CUM g B n (tT B n (tT B n (tT B n (tT B n (tT B n p))))) I2280 := by rw [eI2280]; exact cum_p0 (CUM_fr hy hC10 iF (by decide)) (by decide)
                    have nff : NOF g I I2280 := by rw [eI2280]; exact NOF_tr (NOF_tr nf10 (NOF_fr hy iF (by decide))) (NOF_p0 (by decide))
                    refine Or.inr ⟨by omega, Sz, P4, (tT B n (tT B n (tT B n (tT B n (tT B n p))))), clu_ok ha E4, ?_, hTf, hCf, nff⟩
                    rw [eSz]
                    refine RTM_srt (s := s) (w := (tW B n (tT B n p))) hs (by omega) hR hPI (by rw [e2285]; omega) ?_ ?_ (fun q hq => ?_) ?_ (fun q hq => ?_) ?_ (fun q hq => ?_) ?_ (fun q hq => ?_) ?_ (fun q hq => ?_) ?_ (fun q hq => ?_) (fun d9 hd9 => ?_) (fun q hq => ?_) (fun d9 hd9 => ?_) (fun q hq => ?_) (fun d9 hd9 => ?_) (fun q hq => ?_) (fun d9 hd9 => ?_) (fun q hq => ?_) ?_ okw ?_
                    · intro q hq; exact fQ2287 q (by revert hq; revert q; decide)
                    · intro c9 hc9
                      have key : ∀ c ∈ [7, 18, 19, 28, 29, 34], ∀ i ∈ [0, 14, 15, 16, 17, 27, 30, 31, 32, 33], c ≠ i := by decide
                      exact fI2286 (ad g c9) (fun i hi => ly_ne hy (key c9 hc9 i hi) ((by decide : ∀ c ∈ [7, 18, 19, 28, 29, 34], c < 49) c9 hc9) ((by decide : ∀ i ∈ [0, 14, 15, 16, 17, 27, 30, 31, 32, 33], i < 49) i hi))
                    · rw [eI2280, pp_off _ _ (ly_ne hy (by decide) (by decide) (by decide)), FC_at hy iF 14 (by decide) (by decide), eI2257, pp_off _ _ (ly_ne hy (by decide) (by decide) (by decide)), eI2248, pp_off _ _ (ly_ne hy (by decide) (by decide) (by decide)), eI2239, pp_off _ _ (ly_ne hy (by decide) (by decide) (by decide)), FC_at hy g2227 14 (by decide) (by decide), eI2213, pp_off _ _ (ly_ne hy (by decide) (by decide) (by decide)), FC_at hy g2201 14 (by decide) (by decide), eI2187, pp_ne _ _ (Or.inr hq), FC_at hy g2175 14 (by decide) (by decide), FC_at hy g2156 14 (by decide) (by decide), FC_at hy g2141 14 (by decide) (by decide)]
                    · rw [eI2280, pp_off _ _ (ly_ne hy (by decide) (by decide) (by decide)), FC_at hy iF 14 (by decide) (by decide), eI2257, pp_off _ _ (ly_ne hy (by decide) (by decide) (by decide)), eI2248, pp_off _ _ (ly_ne hy (by decide) (by decide) (by decide)), eI2239, pp_off _ _ (ly_ne hy (by decide) (by decide) (by decide)), FC_at hy g2227 14 (by decide) (by decide), eI2213, pp_off _ _ (ly_ne hy (by decide) (by decide) (by decide)), FC_at hy g2201 14 (by decide) (by decide), eI2187, pp_self]
                      rw [hPb4 1 (by decide), hPb3 1 (by decide), hPa2]; omega
                    · rw [eI2280, pp_off _ _ (ly_ne hy (by decide) (by decide) (by decide)), FC_at hy iF 15 (by decide) (by decide), eI2257, pp_off _ _ (ly_ne hy (by decide) (by decide) (by decide)), eI2248, pp_off _ _ (ly_ne hy (by decide) (by decide) (by decide)), eI2239, pp_off _ _ (ly_ne hy (by decide) (by decide) (by decide)), FC_at hy g2227 15 (by decide) (by decide), eI2213, pp_ne _ _ (Or.inr hq), FC_at hy g2201 15 (by decide) (by decide), eI2187, pp_off _ _ (ly_ne hy (by decide) (by decide) (by decide)), FC_at hy g2175 15 (by decide) (by decide), FC_at hy g2156 15 (by decide) (by decide), FC_at hy g2141 15 (by decide) (by decide)]
                    · rw [eI2280, pp_off _ _ (ly_ne hy (by decide) (by decide) (by decide)), FC_at hy iF 15 (by decide) (by decide), eI2257, pp_off _ _ (ly_ne hy (by decide) (by decide) (by decide)), eI2248, pp_off _ _ (ly_ne hy (by decide) (by decide) (by decide)), eI2239, pp_off _ _ (ly_ne hy (by decide) (by decide) (by decide)), FC_at hy g2227 15 (by decide) (by decide), eI2213, pp_self]
                      rw [hPb4 2 (by decide), hPa3]; omega
                    · rw [eI2280, pp_off _ _ (ly_ne hy (by decide) (by decide) (by decide)), FC_at hy iF 16 (by decide) (by decide), eI2257, pp_off _ _ (ly_ne hy (by decide) (by decide) (by decide)), eI2248, pp_off _ _ (ly_ne hy (by decide) (by decide) (by decide)), eI2239, pp_ne _ _ (Or.inr hq), FC_at hy g2227 16 (by decide) (by decide), eI2213, pp_off _ _ (ly_ne hy (by decide) (by decide) (by decide)), FC_at hy g2201 16 (by decide) (by decide), eI2187, pp_off _ _ (ly_ne hy (by decide) (by decide) (by decide)), FC_at hy g2175 16 (by decide) (by decide), FC_at hy g2156 16 (by decide) (by decide), FC_at hy g2141 16 (by decide) (by decide)]
                    · rw [eI2280, pp_off _ _ (ly_ne hy (by decide) (by decide) (by decide)), FC_at hy iF 16 (by decide) (by decide), eI2257, pp_off _ _ (ly_ne hy (by decide) (by decide) (by decide)), eI2248, pp_off _ _ (ly_ne hy (by decide) (by decide) (by decide)), eI2239, pp_self]
                      rw [hPa4]; omega
                    · rw [eI2280, pp_off _ _ (ly_ne hy (by decide) (by decide) (by decide)), FC_at hy iF 17 (by decide) (by decide), eI2257, pp_off _ _ (ly_ne hy (by decide) (by decide) (by decide)), eI2248, pp_ne _ _ (Or.inr hq), eI2239, pp_off _ _ (ly_ne hy (by decide) (by decide) (by decide)), FC_at hy g2227 17 (by decide) (by decide), eI2213, pp_off _ _ (ly_ne hy (by decide) (by decide) (by decide)), FC_at hy g2201 17 (by decide) (by decide), eI2187, pp_off _ _ (ly_ne hy (by decide) (by decide) (by decide)), FC_at hy g2175 17 (by decide) (by decide), FC_at hy g2156 17 (by decide) (by decide), FC_at hy g2141 17 (by decide) (by decide)]
                    · rw [eI2280, pp_off _ _ (ly_ne hy (by decide) (by decide) (by decide)), FC_at hy iF 17 (by decide) (by decide), eI2257, pp_off _ _ (ly_ne hy (by decide) (by decide) (by decide)), eI2248, pp_self]
                      omega
                    · rw [eI2280, pp_off _ _ (ly_ne hy (by decide) (by decide) (by decide)), FC_at hy iF 33 (by decide) (by decide), eI2257, pp_ne _ _ (Or.inr hq), eI2248, pp_off _ _ (ly_ne hy (by decide) (by decide) (by decide)), eI2239, pp_off _ _ (ly_ne hy (by decide) (by decide) (by decide)), FC_at hy g2227 33 (by decide) (by decide), eI2213, pp_off _ _ (ly_ne hy (by decide) (by decide) (by decide)), FC_at hy g2201 33 (by decide) (by decide), eI2187, pp_off _ _ (ly_ne hy (by decide) (by decide) (by decide)), FC_at hy g2175 33 (by decide) (by decide), FC_at hy g2156 33 (by decide) (by decide), FC_at hy g2141 33 (by decide) (by decide)]
                    · rw [eI2280, pp_off _ _ (ly_ne hy (by decide) (by decide) (by decide)), FC_at hy iF 33 (by decide) (by decide), eI2257, pp_self]
                      omega
                    · rw [eI2280, pp_off _ _ (ly_ne hy (by decide) (by decide) (by decide)), i27 q hq, eI2257, pp_off _ _ (ly_ne hy (by decide) (by decide) (by decide)), eI2248, pp_off _ _ (ly_ne hy (by decide) (by decide) (by decide)), eI2239, pp_off _ _ (ly_ne hy (by decide) (by decide) (by decide)), FC_at hy g2227 27 (by decide) (by decide), eI2213, pp_off _ _ (ly_ne hy (by decide) (by decide) (by decide)), FC_at hy g2201 27 (by decide) (by decide), eI2187, pp_off _ _ (ly_ne hy (by decide) (by decide) (by decide)), FC_at hy g2175 27 (by decide) (by decide), FC_at hy g2156 27 (by decide) (by decide), FC_at hy g2141 27 (by decide) (by decide)]
                    · rw [eI2280, pp_off _ _ (ly_ne hy (by decide) (by decide) (by decide))]; exact j27 d9 (by omega)
                    · rw [eI2280, pp_off _ _ (ly_ne hy (by decide) (by decide) (by decide)), i30 q hq, eI2257, pp_off _ _ (ly_ne hy (by decide) (by decide) (by decide)), eI2248, pp_off _ _ (ly_ne hy (by decide) (by decide) (by decide)), eI2239, pp_off _ _ (ly_ne hy (by decide) (by decide) (by decide)), FC_at hy g2227 30 (by decide) (by decide), eI2213, pp_off _ _ (ly_ne hy (by decide) (by decide) (by decide)), FC_at hy g2201 30 (by decide) (by decide), eI2187, pp_off _ _ (ly_ne hy (by decide) (by decide) (by decide)), FC_at hy g2175 30 (by decide) (by decide), FC_at hy g2156 30 (by decide) (by decide), FC_at hy g2141 30 (by decide) (by decide)]
                    · rw [eI2280, pp_off _ _ (ly_ne hy (by decide) (by decide) (by decide))]; exact j30 d9 (by omega)
                    · rw [eI2280, pp_off _ _ (ly_ne hy (by decide) (by decide) (by decide)), i31 q hq, eI2257, pp_off _ _ (ly_ne hy (by decide) (by decide) (by decide)), eI2248, pp_off _ _ (ly_ne hy (by decide) (by decide) (by decide)), eI2239, pp_off _ _ (ly_ne hy (by decide) (by decide) (by decide)), FC_at hy g2227 31 (by decide) (by decide), eI2213, pp_off _ _ (ly_ne hy (by decide) (by decide) (by decide)), FC_at hy g2201 31 (by decide) (by decide), eI2187, pp_off _ _ (ly_ne hy (by decide) (by decide) (by decide)), FC_at hy g2175 31 (by decide) (by decide), FC_at hy g2156 31 (by decide) (by decide), FC_at hy g2141 31 (by decide) (by decide)]
                    · rw [eI2280, pp_off _ _ (ly_ne hy (by decide) (by decide) (by decide))]; exact j31 d9 (by omega)
                    · rw [eI2280, pp_off _ _ (ly_ne hy (by decide) (by decide) (by decide)), i32 q hq, eI2257, pp_off _ _ (ly_ne hy (by decide) (by decide) (by decide)), eI2248, pp_off _ _ (ly_ne hy (by decide) (by decide) (by decide)), eI2239, pp_off _ _ (ly_ne hy (by decide) (by decide) (by decide)), FC_at hy g2227 32 (by decide) (by decide), eI2213, pp_off _ _ (ly_ne hy (by decide) (by decide) (by decide)), FC_at hy g2201 32 (by decide) (by decide), eI2187, pp_off _ _ (ly_ne hy (by decide) (by decide) (by decide)), FC_at hy g2175 32 (by decide) (by decide), FC_at hy g2156 32 (by decide) (by decide), FC_at hy g2141 32 (by decide) (by decide)]
                    · rw [eI2280, pp_off _ _ (ly_ne hy (by decide) (by decide) (by decide))]; exact j32 d9 (by omega)
                    · rw [FC_at hy g2228 4 (by decide) (by decide), FC_at hy g2202 4 (by decide) (by decide), FC_at hy g2176 4 (by decide) (by decide), nJ q (by omega), FC_at hy g2142 4 (by decide) (by decide)]
                    · rw [FC_at hy g2228 4 (by decide) (by decide), FC_at hy g2202 4 (by decide) (by decide), FC_at hy g2176 4 (by decide) (by decide), ← show (S.1 0 1).toNat = s by omega]; exact mJ
                    · exact FC_at hy fJ2232 5 (by decide) (by decide)⟩
                · refine WP_aload_n dX11_readSort_124 rfl ?_
                  refine WP_getr dX11_readSort_125 fX11_114 rfl (ly_is hy 0 11 rfl) (rf hr 0 45 27 (by decide)) ?_
                  refine WQ_bipush (7) (7) dX11_readSort_128 rfl rfl (fun v2289 hv2289 => ?_)
                  refine WP_iload_n dX11_readSort_130 rfl ?_
                  refine WQ_imulK (7) dX11_readSort_131 hv2289 (by omega) (by omega) (fun v2290 hv2290 => ?_)
                  refine WP_iload_n dX11_readSort_132 rfl ?_
                  refine WQ_iadd dX11_readSort_133 (by omega) (by omega) (fun v2291 hv2291 => ?_)
                  refine WQ_iconst (0) (0) dX11_readSort_134 rfl rfl (fun v2292 hv2292 => ?_)
                  refine WE_is dX11_readSort_135 (ly_is hy 27 13 rfl) (ly_n hy 27 28 rfl) (by omega) (by omega) (fun I2293 eI2293 => ?_)
                  have e2294 : I2293 (ad g 0) 3 = w2271 := by rw [eI2293, pp_ne _ _ (Or.inl (ly_ne hy (by decide) (by decide) (by decide)))]; exact ew2271
                  have e2295 : I2293 (ad g 0) 7 = w2272 := by rw [eI2293, pp_ne _ _ (Or.inl (ly_ne hy (by decide) (by decide) (by decide)))]; exact ew2272
                  have e2296 : I2293 (ad g 0) 8 = w2273 := by rw [eI2293, pp_ne _ _ (Or.inl (ly_ne hy (by decide) (by decide) (by decide)))]; exact ew2273
                  have e2297 : I2293 (ad g 0) 9 = w2274 := by rw [eI2293, pp_ne _ _ (Or.inl (ly_ne hy (by decide) (by decide) (by decide)))]; exact ew2274
                  have e2298 : I2293 (ad g 0) 15 = w2275 := by rw [eI2293, pp_ne _ _ (Or.inl (ly_ne hy (by decide) (by decide) (by decide)))]; exact ew2275
                  have fI2299 : FC g [0, 14, 15, 16, 17, 27, 30, 31, 32, 33] I I2293 := by rw [eI2293]; exact FC_pp fI2268 (by decide)
                  have fQ2300 : FQ g [3, 4, 5, 6, 7, 8, 9, 15] I I2293 := by rw [eI2293]; exact FQ_ppn (ly_ne hy (by decide) (by decide) (by decide)) fQ2269
                  rw [show v2291.toInt.toNat = 7 * s + d by omega] at eI2293
                  refine WP_aload_n dX11_readSort_136 rfl ?_
                  refine WP_getr dX11_readSort_137 fX11_117 rfl (ly_is hy 0 11 rfl) (rf hr 0 48 30 (by decide)) ?_
                  refine WQ_bipush (7) (7) dX11_readSort_140 rfl rfl (fun v2301 hv2301 => ?_)
                  refine WP_iload_n dX11_readSort_142 rfl ?_
                  refine WQ_imulK (7) dX11_readSort_143 hv2301 (by omega) (by omega) (fun v2302 hv2302 => ?_)
                  refine WP_iload_n dX11_readSort_144 rfl ?_
                  refine WQ_iadd dX11_readSort_145 (by omega) (by omega) (fun v2303 hv2303 => ?_)
                  refine WQ_iconst (-1) (-1) dX11_readSort_146 rfl rfl (fun v2304 hv2304 => ?_)
                  refine WE_is dX11_readSort_147 (ly_is hy 30 13 rfl) (ly_n hy 30 28 rfl) (by omega) (by omega) (fun I2305 eI2305 => ?_)
                  have e2306 : I2305 (ad g 0) 3 = w2271 := by rw [eI2305, pp_ne _ _ (Or.inl (ly_ne hy (by decide) (by decide) (by decide)))]; exact e2294
                  have e2307 : I2305 (ad g 0) 7 = w2272 := by rw [eI2305, pp_ne _ _ (Or.inl (ly_ne hy (by decide) (by decide) (by decide)))]; exact e2295
                  have e2308 : I2305 (ad g 0) 8 = w2273 := by rw [eI2305, pp_ne _ _ (Or.inl (ly_ne hy (by decide) (by decide) (by decide)))]; exact e2296
                  have e2309 : I2305 (ad g 0) 9 = w2274 := by rw [eI2305, pp_ne _ _ (Or.inl (ly_ne hy (by decide) (by decide) (by decide)))]; exact e2297
                  have e2310 : I2305 (ad g 0) 15 = w2275 := by rw [eI2305, pp_ne _ _ (Or.inl (ly_ne hy (by decide) (by decide) (by decide)))]; exact e2298
                  have fI2311 : FC g [0, 14, 15, 16, 17, 27, 30, 31, 32, 33] I I2305 := by rw [eI2305]; exact FC_pp fI2299 (by decide)
                  have fQ2312 : FQ g [3, 4, 5, 6, 7, 8, 9, 15] I I2305 := by rw [eI2305]; exact FQ_ppn (ly_ne hy (by decide) (by decide) (by decide)) fQ2300
                  rw [show v2303.toInt.toNat = 7 * s + d by omega] at eI2305
                  refine WP_aload_n dX11_readSort_148 rfl ?_
                  refine WP_getr dX11_readSort_149 fX11_120 rfl (ly_is hy 0 11 rfl) (rf hr 0 49 31 (by decide)) ?_
                  refine WQ_bipush (7) (7) dX11_readSort_152 rfl rfl (fun v2313 hv2313 => ?_)
                  refine WP_iload_n dX11_readSort_154 rfl ?_
                  refine WQ_imulK (7) dX11_readSort_155 hv2313 (by omega) (by omega) (fun v2314 hv2314 => ?_)
                  refine WP_iload_n dX11_readSort_156 rfl ?_
                  refine WQ_iadd dX11_readSort_157 (by omega) (by omega) (fun v2315 hv2315 => ?_)
                  refine WQ_iconst (0) (0) dX11_readSort_158 rfl rfl (fun v2316 hv2316 => ?_)
                  refine WE_is dX11_readSort_159 (ly_is hy 31 13 rfl) (ly_n hy 31 28 rfl) (by omega) (by omega) (fun I2317 eI2317 => ?_)
                  have e2318 : I2317 (ad g 0) 3 = w2271 := by rw [eI2317, pp_ne _ _ (Or.inl (ly_ne hy (by decide) (by decide) (by decide)))]; exact e2306
                  have e2319 : I2317 (ad g 0) 7 = w2272 := by rw [eI2317, pp_ne _ _ (Or.inl (ly_ne hy (by decide) (by decide) (by decide)))]; exact e2307
                  have e2320 : I2317 (ad g 0) 8 = w2273 := by rw [eI2317, pp_ne _ _ (Or.inl (ly_ne hy (by decide) (by decide) (by decide)))]; exact e2308
                  have e2321 : I2317 (ad g 0) 9 = w2274 := by rw [eI2317, pp_ne _ _ (Or.inl (ly_ne hy (by decide) (by decide) (by decide)))]; exact e2309
                  have e2322 : I2317 (ad g 0) 15 = w2275 := by rw [eI2317, pp_ne _ _ (Or.inl (ly_ne hy (by decide) (by decide) (by decide)))]; exact e2310
                  have fI2323 : FC g [0, 14, 15, 16, 17, 27, 30, 31, 32, 33] I I2317 := by rw [eI2317]; exact FC_pp fI2311 (by decide)
                  have fQ2324 : FQ g [3, 4, 5, 6, 7, 8, 9, 15] I I2317 := by rw [eI2317]; exact FQ_ppn (ly_ne hy (by decide) (by decide) (by decide)) fQ2312
                  rw [show v2315.toInt.toNat = 7 * s + d by omega] at eI2317
                  refine WP_aload_n dX11_readSort_160 rfl ?_
                  refine WP_getr dX11_readSort_161 fX11_123 rfl (ly_is hy 0 11 rfl) (rf hr 0 50 32 (by decide)) ?_
                  refine WQ_bipush (7) (7) dX11_readSort_164 rfl rfl (fun v2325 hv2325 => ?_)
                  refine WP_iload_n dX11_readSort_166 rfl ?_
                  refine WQ_imulK (7) dX11_readSort_167 hv2325 (by omega) (by omega) (fun v2326 hv2326 => ?_)
                  refine WP_iload_n dX11_readSort_168 rfl ?_
                  refine WQ_iadd dX11_readSort_169 (by omega) (by omega) (fun v2327 hv2327 => ?_)
                  refine WQ_iconst (0) (0) dX11_readSort_170 rfl rfl (fun v2328 hv2328 => ?_)
                  refine WE_is dX11_readSort_171 (ly_is hy 32 13 rfl) (ly_n hy 32 28 rfl) (by omega) (by omega) (fun I2329 eI2329 => ?_)
                  have e2330 : I2329 (ad g 0) 3 = w2271 := by rw [eI2329, pp_ne _ _ (Or.inl (ly_ne hy (by decide) (by decide) (by decide)))]; exact e2318
                  have e2331 : I2329 (ad g 0) 7 = w2272 := by rw [eI2329, pp_ne _ _ (Or.inl (ly_ne hy (by decide) (by decide) (by decide)))]; exact e2319
                  have e2332 : I2329 (ad g 0) 8 = w2273 := by rw [eI2329, pp_ne _ _ (Or.inl (ly_ne hy (by decide) (by decide) (by decide)))]; exact e2320
                  have e2333 : I2329 (ad g 0) 9 = w2274 := by rw [eI2329, pp_ne _ _ (Or.inl (ly_ne hy (by decide) (by decide) (by decide)))]; exact e2321
                  have e2334 : I2329 (ad g 0) 15 = w2275 := by rw [eI2329, pp_ne _ _ (Or.inl (ly_ne hy (by decide) (by decide) (by decide)))]; exact e2322
                  have fI2335 : FC g [0, 14, 15, 16, 17, 27, 30, 31, 32, 33] I I2329 := by rw [eI2329]; exact FC_pp fI2323 (by decide)
                  have fQ2336 : FQ g [3, 4, 5, 6, 7, 8, 9, 15] I I2329 := by rw [eI2329]; exact FQ_ppn (ly_ne hy (by decide) (by decide) (by decide)) fQ2324
                  rw [show v2327.toInt.toNat = 7 * s + d by omega] at eI2329
                  refine WP_iinc (ls' := [(0, _), (1, _), (2, _)]) dX11_readSort_172 rfl (by decide) rfl ?_
                  have hv2337 : (i2266 + Int32.ofInt (1)).toInt = i2266.toInt + (1) := ia_n rfl (by omega) (by omega)
                  generalize i2266 + Int32.ofInt (1) = v2337 at hv2337 ⊢
                  refine WP_goto 118 dX11_readSort_175 rfl ?_
                  refine WP_sub (fc rfl (fc rfl (fc rfl fn))) (ihlp2270 v2337 I2329 fI2335 fQ2336 ?_ ?_)
                  · try simp only [e2330, e2331, e2332, e2333, e2334, ew2131, ew2132, ew2133, ew2134, ew2135]
                    refine ⟨d + 1, by omega, by omega, ?_, ?_, ?_, ?_, ?_, ?_, ?_, ?_, ?_⟩
                    · rw [eI2329, eI2317, eI2305, eI2293]; exact (FC_pp (FC_pp (FC_pp (FC_pp iF (by decide)) (by decide)) (by decide)) (by decide))
                    · intro q hq
                      rw [eI2329, pp_off _ _ (ly_ne hy (by decide) (by decide) (by decide)), eI2317, pp_off _ _ (ly_ne hy (by decide) (by decide) (by decide)), eI2305, pp_off _ _ (ly_ne hy (by decide) (by decide) (by decide)), eI2293, pp_at, if_neg (by omega)]; exact i27 q hq
                    · intro e he
                      rw [eI2329, pp_off _ _ (ly_ne hy (by decide) (by decide) (by decide)), eI2317, pp_off _ _ (ly_ne hy (by decide) (by decide) (by decide)), eI2305, pp_off _ _ (ly_ne hy (by decide) (by decide) (by decide)), eI2293, pp_at]
                      by_cases e9 : e = d
                      · rw [if_pos (by omega)]; omega
                      · rw [if_neg (by omega)]; exact j27 e (by omega)
                    · intro q hq
                      rw [eI2329, pp_off _ _ (ly_ne hy (by decide) (by decide) (by decide)), eI2317, pp_off _ _ (ly_ne hy (by decide) (by decide) (by decide)), eI2305, pp_at, eI2293, pp_off _ _ (ly_ne hy (by decide) (by decide) (by decide)), if_neg (by omega)]; exact i30 q hq
                    · intro e he
                      rw [eI2329, pp_off _ _ (ly_ne hy (by decide) (by decide) (by decide)), eI2317, pp_off _ _ (ly_ne hy (by decide) (by decide) (by decide)), eI2305, pp_at, eI2293, pp_off _ _ (ly_ne hy (by decide) (by decide) (by decide))]
                      by_cases e9 : e = d
                      · rw [if_pos (by omega)]; omega
                      · rw [if_neg (by omega)]; exact j30 e (by omega)
                    · intro q hq
                      rw [eI2329, pp_off _ _ (ly_ne hy (by decide) (by decide) (by decide)), eI2317, pp_at, eI2305, pp_off _ _ (ly_ne hy (by decide) (by decide) (by decide)), eI2293, pp_off _ _ (ly_ne hy (by decide) (by decide) (by decide)), if_neg (by omega)]; exact i31 q hq
                    · intro e he
                      rw [eI2329, pp_off _ _ (ly_ne hy (by decide) (by decide) (by decide)), eI2317, pp_at, eI2305, pp_off _ _ (ly_ne hy (by decide) (by decide) (by decide)), eI2293, pp_off _ _ (ly_ne hy (by decide) (by decide) (by decide))]
                      by_cases e9 : e = d
                      · rw [if_pos (by omega)]; omega
                      · rw [if_neg (by omega)]; exact j31 e (by omega)
                    · intro q hq
                      rw [eI2329, pp_at, eI2317, pp_off _ _ (ly_ne hy (by decide) (by decide) (by decide)), eI2305, pp_off _ _ (ly_ne hy (by decide) (by decide) (by decide)), eI2293, pp_off _ _ (ly_ne hy (by decide) (by decide) (by decide)), if_neg (by omega)]; exact i32 q hq
                    · intro e he
                      rw [eI2329, pp_at, eI2317, pp_off _ _ (ly_ne hy (by decide) (by decide) (by decide)), eI2305, pp_off _ _ (ly_ne hy (by decide) (by decide) (by decide)), eI2293, pp_off _ _ (ly_ne hy (by decide) (by decide) (by decide))]
                      by_cases e9 : e = d
                      · rw [if_pos (by omega)]; omega
                      · rw [if_neg (by omega)]; exact j32 e (by omega)
                  · try simp only [e2330, e2331, e2332, e2333, e2334, ew2131, ew2132, ew2133, ew2134, ew2135]
                    omega
            refine WP_sub (fc rfl (fc rfl (fc rfl fn))) (lp2270 _ v2265 I2257 fI2263 fQ2264 ?_ (Nat.lt_succ_self _))
            · try simp only [e2259, e2260, e2261, e2262, e2258, ew2131, ew2132, ew2133, ew2134, ew2135]
              refine ⟨0, by omega, by omega, FC_rf, fun q hq => by first | rfl | trivial, fun e he => absurd he (Nat.not_lt_zero _), fun q hq => by first | rfl | trivial, fun e he => absurd he (Nat.not_lt_zero _), fun q hq => by first | rfl | trivial, fun e he => absurd he (Nat.not_lt_zero _), fun q hq => by first | rfl | trivial, fun e he => absurd he (Nat.not_lt_zero _)⟩
          · refine WQ_iconst (0) (0) dX11_readSort_90 rfl rfl (fun v2338 hv2338 => ?_)
            exact WP_zret dX11_readSort_91 rfl (nar_z (by omega)) ⟨rfl, fI2231, fJ2232, fQ2233, v2338, rfl, by
              try simp only [e2230, ew2234, ew2235, ew2236, ew2237, ew2131, ew2132, ew2133, ew2134, ew2135]
              rcases p2223 with ⟨-, e⟩ | ⟨z, -⟩
              · exact Or.inl ⟨by omega, ERR_to e (fun er h => clu_er ha E3 (by decide) rfl h)⟩
              · exact absurd z (by omega)⟩
        · refine WQ_iconst (0) (0) dX11_readSort_68 rfl rfl (fun v2339 hv2339 => ?_)
          exact WP_zret dX11_readSort_69 rfl (nar_z (by omega)) ⟨rfl, fI2205, fJ2206, fQ2207, v2339, rfl, by
            try simp only [e2204, ew2208, ew2209, ew2210, ew2211, ew2131, ew2132, ew2133, ew2134, ew2135]
            rcases p2197 with ⟨-, e⟩ | ⟨z, -⟩
            · exact Or.inl ⟨by omega, ERR_to e (fun er h => clu_er ha E2 (by decide) rfl h)⟩
            · exact absurd z (by omega)⟩
      · refine WQ_iconst (0) (0) dX11_readSort_45 rfl rfl (fun v2340 hv2340 => ?_)
        exact WP_zret dX11_readSort_46 rfl (nar_z (by omega)) ⟨rfl, fI2179, fJ2180, fQ2181, v2340, rfl, by
          try simp only [e2178, ew2182, ew2183, ew2184, ew2185, ew2131, ew2132, ew2133, ew2134, ew2135]
          rcases p2171 with ⟨-, e⟩ | ⟨z, -⟩
          · exact Or.inl ⟨by omega, ERR_to e (fun er h => clu_er ha E1 (by decide) rfl h)⟩
          · exact absurd z (by omega)⟩
  · refine WP_aload_n dX11_readSort_8 rfl ?_
    refine WQ_iconst (4) (4) dX11_readSort_9 rfl rfl (fun v2341 hv2341 => ?_)
    refine WP_callV1 (k := 11) dX11_readSort_10 ⟨⟨⟨by decide, by decide⟩, zX11_bad⟩, lX11_49, by decide, rfl, vX11_bad.1, vX11_bad.2⟩ (ly_is hy 0 11 rfl) (em_bad hy hr _  ) (Nat.le_of_ble_eq_true rfl) ?_
    intro r I2344 J2345 Ra hq
    obtain ⟨ec, g2346, g2347, g2348, v2343, er, p2342⟩ := hq
    rw [ec, er]
    clear ec er Ra r
    have e2349 : I2344 (ad g 0) 3 = w2131 := by rw [g2348 3 (by decide)]; exact ew2131
    have e2350 : I2344 (ad g 0) 7 = w2132 := by rw [g2348 7 (by decide)]; exact ew2132
    have e2351 : I2344 (ad g 0) 15 = w2135 := by rw [g2348 15 (by decide)]; exact ew2135
    have fI2352 : FC g [0, 14, 15, 16, 17, 27, 30, 31, 32, 33] I I2344 := FC_tr fI0 (FC_mono g2346 (by decide))
    have fJ2353 : FC g [4] J J2345 := FC_tr fJ0 (FC_mono g2347 (by decide))
    have fQ2354 : FQ g [3, 4, 5, 6, 7, 8, 9, 15] I I2344 := FQ_tr fQ0 (FQ_mono g2348 (by decide))
    obtain ⟨w2355, ew2355⟩ : ∃ w : Int32, I2344 (ad g 0) 8 = w := ⟨_, rfl⟩
    obtain ⟨w2356, ew2356⟩ : ∃ w : Int32, I2344 (ad g 0) 9 = w := ⟨_, rfl⟩
    try simp only [e2349, e2350, ew2355, ew2356, e2351, ew2131, ew2132, ew2133, ew2134, ew2135] at p2342
    obtain ⟨z0, z8, z9⟩ := p2342
    try simp only [ew2131] at z9
    exact WP_zret dX11_readSort_13 rfl (nar_z (by omega)) ⟨rfl, fI2352, fJ2353, fQ2354, v2343, rfl, by
      try simp only [e2349, e2350, e2351, ew2355, ew2356, ew2131, ew2132, ew2133, ew2134, ew2135]
      refine Or.inl ⟨by omega, 4, tF B n p, ?_, ?_⟩
      · have hz : ahd 1 S = 4 := by unfold ahd; rw [if_pos (by omega)]
        unfold clu
        rw [hz, if_pos (by decide)]
      · unfold ERM
        try simp only [ew2355, ew2356]
        exact ⟨by rw [z8]; omega, by rw [z9]; omega⟩⟩
set_option maxHeartbeats 4000000 in
set_option maxRecDepth 100000 in
theorem em_readThing {g : GG} {I : pI} {J : pJ} {R : pR} (hy : Ly g) (hr : Rf g R) {B : Nat → Int} {n p : Nat} {S : TwS}  (hT : TPM g B n I) (hC : CUM g B n p I) (hn : n ≤ 900) (hB : ∀ q, -128 ≤ B q ∧ B q ≤ 127) (hp : p ≤ n) (hR : RTM g S I J) (hPI : PI S) (hSB : SBn S) (hPJ : PJ S) : SP g mX11_readThingOf [.ref (ad g 0)] I J R (fun r I' J' R' => R' = R ∧ FC g [0, 18, 19, 28, 29, 34] I I' ∧ FC g [5] J J' ∧ FQ g [3, 4, 5, 6, 7, 8, 9, 16] I I' ∧ ∃ v : Int32, r = some (.int v) ∧ ((v.toInt = 0 ∧ ERR g (clu B n 2 p S) I') ∨ (v.toInt = 1 ∧ ∃ S2 P2 p2, clu B n 2 p S = .ok (S2, P2, p2) ∧ RTM g (tel 2 P2 S2) I' J' ∧ TPM g B n I' ∧ CUM g B n p2 I' ∧ NOF g I I'))) := by
  refine SP_of ⟨by decide, rfl⟩ (Nat.le_of_ble_eq_true rfl) ?_
  have fI0 : FC g [0, 18, 19, 28, 29, 34] I I := FC_rf
  have fJ0 : FC g [5] J J := FC_rf
  have fQ0 : FQ g [3, 4, 5, 6, 7, 8, 9, 16] I I := FQ_rf
  obtain ⟨w2357, ew2357⟩ : ∃ w : Int32, I (ad g 0) 3 = w := ⟨_, rfl⟩
  obtain ⟨w2358, ew2358⟩ : ∃ w : Int32, I (ad g 0) 7 = w := ⟨_, rfl⟩
  obtain ⟨w2359, ew2359⟩ : ∃ w : Int32, I (ad g 0) 8 = w := ⟨_, rfl⟩
  obtain ⟨w2360, ew2360⟩ : ∃ w : Int32, I (ad g 0) 9 = w := ⟨_, rfl⟩
  obtain ⟨w2361, ew2361⟩ : ∃ w : Int32, I (ad g 0) 16 = w := ⟨_, rfl⟩
  have nf0 : NOF g I I := NOF_rf
  have E0 : prts B n 2 (SHP 2) 0 (tT B n p) S (fun _ => 0) = prts B n 2 ((SHP 2).drop 0) 0 (tT B n p) S (fun _ => 0) := rfl
  have hbb := hSB
  unfold SBn at hbb
  have hsl := hR.1.2.1
  simp only [ew2361] at hsl
  have c3z := hC.1
  simp only [ew2357] at c3z
  obtain ⟨s, hs⟩ : ∃ s : Nat, S.1 0 2 = (s : Int) := ⟨(S.1 0 2).toNat, by omega⟩
  refine WP_aload_n dX11_readThingOf_0 rfl ?_
  refine WQ_getim dX11_readThingOf_1 fX11_126 rfl (ly_is hy 0 11 rfl) ew2361 ?_
  refine WQ_iconst (3) (3) dX11_readThingOf_4 rfl rfl (fun v2362 hv2362 => ?_)
  refine WQ_icmp_ne 14 dX11_readThingOf_5 rfl (fun c2362 => ?_) (fun c2362 => ?_)
  · have ha : ahd 2 S = 0 := by
      unfold ahd
      rw [if_neg (by omega), if_neg (by rintro ⟨z, -⟩; omega)]
    refine WP_aload_n dX11_readThingOf_14 rfl ?_
    refine WP_callV0 (k := 11) dX11_readThingOf_15 ⟨⟨⟨by decide, by decide⟩, zX11_scan⟩, lX11_63, by decide, rfl, vX11_scan.1, vX11_scan.2⟩ (ly_is hy 0 11 rfl) (em_scan hy hr   hT hn hB hC.2.1 (tT_le B hp).2) (Nat.le_of_ble_eq_true rfl) ?_
    intro r I2365 J2366 Ra hq
    obtain ⟨ec, g2367, g2368, g2369, er, p2364⟩ := hq
    rw [ec, er]
    clear ec er Ra r
    have e2370 : I2365 (ad g 0) 7 = w2358 := by rw [g2369 7 (by decide)]; exact ew2358
    have e2371 : I2365 (ad g 0) 8 = w2359 := by rw [g2369 8 (by decide)]; exact ew2359
    have e2372 : I2365 (ad g 0) 9 = w2360 := by rw [g2369 9 (by decide)]; exact ew2360
    have e2373 : I2365 (ad g 0) 16 = w2361 := by rw [g2369 16 (by decide)]; exact ew2361
    have fI2374 : FC g [0, 18, 19, 28, 29, 34] I I2365 := FC_tr fI0 (FC_mono g2367 (by decide))
    have fJ2375 : FC g [5] J J2366 := FC_tr fJ0 (FC_mono g2368 (by decide))
    have fQ2376 : FQ g [3, 4, 5, 6, 7, 8, 9, 16] I I2365 := FQ_tr fQ0 (FQ_mono g2369 (by decide))
    obtain ⟨w2377, ew2377⟩ : ∃ w : Int32, I2365 (ad g 0) 3 = w := ⟨_, rfl⟩
    try simp only [ew2377, e2370, e2371, e2372, e2373, ew2357, ew2358, ew2359, ew2360, ew2361] at p2364
    obtain ⟨hT1, hC1⟩ := p2364
    have hR1 := RTM_fr hy hR g2367 g2368 g2369 (by decide) (by decide) (by decide)
    have nf1 := NOF_tr nf0 (NOF_fq g2369 (by decide))
    have hq1 := (tT_le B hp).2
    refine WP_aload_n dX11_readThingOf_18 rfl ?_
    refine WQ_getim dX11_readThingOf_19 fX11_126 rfl (ly_is hy 0 11 rfl) e2373 ?_
    refine WP_istore_n (ls' := [(0, _), (1, _)]) dX11_readThingOf_22 (by decide) rfl ?_
    refine WP_aload_n dX11_readThingOf_23 rfl ?_
    refine WP_aload_n dX11_readThingOf_24 rfl ?_
    refine WP_getr dX11_readThingOf_25 fX11_129 rfl (ly_is hy 0 11 rfl) (rf hr 0 23 5 (by decide)) ?_
    refine WP_iload_n dX11_readThingOf_28 rfl ?_
    refine WP_callV2 (k := 11) dX11_readThingOf_29 ⟨⟨⟨by decide, by decide⟩, zX11_fresh⟩, lX11_95, by decide, rfl, vX11_fresh.1, vX11_fresh.2⟩ (ly_is hy 0 11 rfl) (em_freshb hy hr _  (c := 2) (i := 0) (S := S) (P := fun _ => 0) hT1 hC1 hn hB hq1 hR1.2.2.2.2.2.2.2 hSB (by omega) (by omega)) (Nat.le_of_ble_eq_true rfl) ?_
    intro r I2380 J2381 Ra hq
    obtain ⟨ec, g2382, g2383, g2384, v2379, er, p2378⟩ := hq
    rw [ec, er]
    clear ec er Ra r
    have e2385 : I2380 (ad g 0) 16 = w2361 := by rw [g2384 16 (by decide)]; exact e2373
    have fI2386 : FC g [0, 18, 19, 28, 29, 34] I I2380 := FC_tr fI2374 (FC_mono g2382 (by decide))
    have fJ2387 : FC g [5] J J2381 := FC_tr fJ2375 (FC_mono g2383 (by decide))
    have fQ2388 : FQ g [3, 4, 5, 6, 7, 8, 9, 16] I I2380 := FQ_tr fQ2376 (FQ_mono g2384 (by decide))
    obtain ⟨w2389, ew2389⟩ : ∃ w : Int32, I2380 (ad g 0) 3 = w := ⟨_, rfl⟩
    obtain ⟨w2390, ew2390⟩ : ∃ w : Int32, I2380 (ad g 0) 7 = w := ⟨_, rfl⟩
    obtain ⟨w2391, ew2391⟩ : ∃ w : Int32, I2380 (ad g 0) 8 = w := ⟨_, rfl⟩
    obtain ⟨w2392, ew2392⟩ : ∃ w : Int32, I2380 (ad g 0) 9 = w := ⟨_, rfl⟩
    try simp only [ew2389, ew2390, ew2391, ew2392, e2385, ew2357, ew2358, ew2359, ew2360, ew2361] at p2378
    refine WQ_if_eq 46 dX11_readThingOf_32 rfl (fun c2392 => ?_) (fun c2392 => ?_)
    · refine WQ_iconst (0) (0) dX11_readThingOf_46 rfl rfl (fun v2394 hv2394 => ?_)
      exact WP_zret dX11_readThingOf_47 rfl (nar_z (by omega)) ⟨rfl, fI2386, fJ2387, fQ2388, v2394, rfl, by
        try simp only [e2385, ew2389, ew2390, ew2391, ew2392, ew2357, ew2358, ew2359, ew2360, ew2361]
        rcases p2378 with ⟨-, e⟩ | ⟨z, -⟩
        · exact Or.inl ⟨by omega, ERR_to e (fun er h => clu_er ha E0 (by decide) rfl h)⟩
        · exact absurd z (by omega)⟩
    · obtain ⟨-, kz, nJ, mJ, okw, hT2, hC2, nz⟩ := Or.resolve_left p2378 (by rintro ⟨z, -⟩; omega)
      clear p2378
      have nf2 := NOF_tr nf1 nz
      have hq2 := (tT_le B hq1).2
      clear nz
      obtain ⟨Sz, eSz⟩ : ∃ Z : TwS, Z = (pp S.1 14 (4 + (S.1 0 2).toNat) (tW B n (tT B n p)), S.2) := ⟨_, rfl⟩
      rw [← eSz] at kz
      have E1 := clu_go E0 (by decide) rfl kz
      refine WP_aload_n dX11_readThingOf_35 rfl ?_
      refine WQ_iconst (0) (0) dX11_readThingOf_36 rfl rfl (fun v2395 hv2395 => ?_)
      refine WQ_sipush (1000) (1000) dX11_readThingOf_37 rfl rfl (fun v2396 hv2396 => ?_)
      refine WP_callV2 (k := 11) dX11_readThingOf_40 ⟨⟨⟨by decide, by decide⟩, zX11_number⟩, lX11_81, by decide, rfl, vX11_number.1, vX11_number.2⟩ (ly_is hy 0 11 rfl) (em_num hy hr _ _  (c := 2) (i := 1) (ch := 72) (S := Sz) (P := (fun _ => 0)) hT2 hC2 hn hB hq2 (by decide) (by decide) (by rw [show loB 72 = 0 from rfl]; omega) (by rw [show hiB 72 = 1000 from rfl]; omega)) (Nat.le_of_ble_eq_true rfl) ?_
      intro r I2399 J2400 Ra hq
      obtain ⟨ec, g2401, g2402, g2403, v2398, er, p2397⟩ := hq
      rw [ec, er]
      clear ec er Ra r
      have e2404 : I2399 (ad g 0) 16 = w2361 := by rw [g2403 16 (by decide)]; exact e2385
      have fI2405 : FC g [0, 18, 19, 28, 29, 34] I I2399 := FC_tr fI2386 (FC_mono g2401 (by decide))
      have fJ2406 : FC g [5] J J2400 := FC_tr fJ2387 (FC_mono g2402 (by decide))
      have fQ2407 : FQ g [3, 4, 5, 6, 7, 8, 9, 16] I I2399 := FQ_tr fQ2388 (FQ_mono g2403 (by decide))
      obtain ⟨w2408, ew2408⟩ : ∃ w : Int32, I2399 (ad g 0) 3 = w := ⟨_, rfl⟩
      obtain ⟨w2409, ew2409⟩ : ∃ w : Int32, I2399 (ad g 0) 7 = w := ⟨_, rfl⟩
      obtain ⟨w2410, ew2410⟩ : ∃ w : Int32, I2399 (ad g 0) 8 = w := ⟨_, rfl⟩
      obtain ⟨w2411, ew2411⟩ : ∃ w : Int32, I2399 (ad g 0) 9 = w := ⟨_, rfl⟩
      try simp only [ew2408, ew2409, ew2410, ew2411, e2404, ew2357, ew2358, ew2359, ew2360, ew2361] at p2397
      refine WQ_if_ne 48 dX11_readThingOf_43 rfl (fun c2411 => ?_) (fun c2411 => ?_)
      · obtain ⟨-, kz, lb3, ub3, gt3, hT3, hC3, nz⟩ := Or.resolve_left p2397 (by rintro ⟨z, -⟩; omega)
        clear p2397
        have nf3 := NOF_tr nf2 nz
        have hq3 := (tT_le B hq2).2
        clear nz
        obtain ⟨P2, hPa2, hPb2, k2⟩ : ∃ P9 : Nat → Int, P9 1 = tV B n (tT B n (tT B n p)) ∧ (∀ j, j ≠ 1 → P9 j = (fun _ => 0) j) ∧ prt B n 2 1 72 (tT B n (tT B n p)) Sz (fun _ => 0) = .ok (Sz, P9) := ⟨fun j => if j = 1 then tV B n (tT B n (tT B n p)) else (fun _ => 0) j, if_pos rfl, fun j hj => if_neg hj, kz⟩
        have E2 := clu_go E1 (by decide) rfl k2
        clear kz
        refine WP_aload_n dX11_readThingOf_48 rfl ?_
        refine WP_getr dX11_readThingOf_49 fX11_132 rfl (ly_is hy 0 11 rfl) (rf hr 0 36 18 (by decide)) ?_
        refine WP_iload_n dX11_readThingOf_52 rfl ?_
        refine WP_aload_n dX11_readThingOf_53 rfl ?_
        refine WQ_getim dX11_readThingOf_54 fX11_56 rfl (ly_is hy 0 11 rfl) ew2409 ?_
        refine WE_is dX11_readThingOf_57 (ly_is hy 18 13 rfl) (ly_n hy 18 3 rfl) (by omega) (by omega) (fun I2413 eI2413 => ?_)
        have e2414 : I2413 (ad g 0) 16 = w2361 := by rw [eI2413, pp_ne _ _ (Or.inl (ly_ne hy (by decide) (by decide) (by decide)))]; exact e2404
        have e2415 : I2413 (ad g 0) 3 = w2408 := by rw [eI2413, pp_ne _ _ (Or.inl (ly_ne hy (by decide) (by decide) (by decide)))]; exact ew2408
        have e2416 : I2413 (ad g 0) 7 = w2409 := by rw [eI2413, pp_ne _ _ (Or.inl (ly_ne hy (by decide) (by decide) (by decide)))]; exact ew2409
        have e2417 : I2413 (ad g 0) 8 = w2410 := by rw [eI2413, pp_ne _ _ (Or.inl (ly_ne hy (by decide) (by decide) (by decide)))]; exact ew2410
        have e2418 : I2413 (ad g 0) 9 = w2411 := by rw [eI2413, pp_ne _ _ (Or.inl (ly_ne hy (by decide) (by decide) (by decide)))]; exact ew2411
        have fI2419 : FC g [0, 18, 19, 28, 29, 34] I I2413 := by rw [eI2413]; exact FC_pp fI2405 (by decide)
        have fQ2420 : FQ g [3, 4, 5, 6, 7, 8, 9, 16] I I2413 := by rw [eI2413]; exact FQ_ppn (ly_ne hy (by decide) (by decide) (by decide)) fQ2407
        rw [show w2361.toInt.toNat = s by omega] at eI2413
        have hT4 : TPM g B n I2413 := by rw [eI2413]; exact tpm_pp hy hT3 (by decide)
        have hC4 : CUM g B n (tT B n (tT B n (tT B n p))) I2413 := by rw [eI2413]; exact cum_pp hy hC3 (by decide)
        have nf4 : NOF g I I2413 := by rw [eI2413]; exact NOF_tr nf3 (NOF_pp hy (by decide))
        refine WP_aload_n dX11_readThingOf_58 rfl ?_
        refine WQ_iconst (0) (0) dX11_readThingOf_59 rfl rfl (fun v2421 hv2421 => ?_)
        refine WQ_bipush (9) (9) dX11_readThingOf_60 rfl rfl (fun v2422 hv2422 => ?_)
        refine WP_callV2 (k := 11) dX11_readThingOf_62 ⟨⟨⟨by decide, by decide⟩, zX11_number⟩, lX11_81, by decide, rfl, vX11_number.1, vX11_number.2⟩ (ly_is hy 0 11 rfl) (em_num hy hr _ _  (c := 2) (i := 2) (ch := 71) (S := Sz) (P := P2) hT4 hC4 hn hB hq3 (by decide) (by decide) (by rw [show loB 71 = 0 from rfl]; omega) (by rw [show hiB 71 = 9 from rfl]; omega)) (Nat.le_of_ble_eq_true rfl) ?_
        intro r I2425 J2426 Ra hq
        obtain ⟨ec, g2427, g2428, g2429, v2424, er, p2423⟩ := hq
        rw [ec, er]
        clear ec er Ra r
        have e2430 : I2425 (ad g 0) 16 = w2361 := by rw [g2429 16 (by decide)]; exact e2414
        have fI2431 : FC g [0, 18, 19, 28, 29, 34] I I2425 := FC_tr fI2419 (FC_mono g2427 (by decide))
        have fJ2432 : FC g [5] J J2426 := FC_tr fJ2406 (FC_mono g2428 (by decide))
        have fQ2433 : FQ g [3, 4, 5, 6, 7, 8, 9, 16] I I2425 := FQ_tr fQ2420 (FQ_mono g2429 (by decide))
        obtain ⟨w2434, ew2434⟩ : ∃ w : Int32, I2425 (ad g 0) 3 = w := ⟨_, rfl⟩
        obtain ⟨w2435, ew2435⟩ : ∃ w : Int32, I2425 (ad g 0) 7 = w := ⟨_, rfl⟩
        obtain ⟨w2436, ew2436⟩ : ∃ w : Int32, I2425 (ad g 0) 8 = w := ⟨_, rfl⟩
        obtain ⟨w2437, ew2437⟩ : ∃ w : Int32, I2425 (ad g 0) 9 = w := ⟨_, rfl⟩
        try simp only [ew2434, ew2435, ew2436, ew2437, e2430, ew2357, ew2358, ew2359, ew2360, ew2361] at p2423
        refine WQ_if_ne 70 dX11_readThingOf_65 rfl (fun c2437 => ?_) (fun c2437 => ?_)
        · obtain ⟨-, kz, lb5, ub5, gt5, hT5, hC5, nz⟩ := Or.resolve_left p2423 (by rintro ⟨z, -⟩; omega)
          clear p2423
          have nf5 := NOF_tr nf4 nz
          have hq5 := (tT_le B hq3).2
          clear nz
          obtain ⟨P3, hPa3, hPb3, k3⟩ : ∃ P9 : Nat → Int, P9 2 = tV B n (tT B n (tT B n (tT B n p))) ∧ (∀ j, j ≠ 2 → P9 j = P2 j) ∧ prt B n 2 2 71 (tT B n (tT B n (tT B n p))) Sz P2 = .ok (Sz, P9) := ⟨fun j => if j = 2 then tV B n (tT B n (tT B n (tT B n p))) else P2 j, if_pos rfl, fun j hj => if_neg hj, kz⟩
          have E3 := clu_go E2 (by decide) rfl k3
          clear kz
          refine WP_aload_n dX11_readThingOf_70 rfl ?_
          refine WP_getr dX11_readThingOf_71 fX11_135 rfl (ly_is hy 0 11 rfl) (rf hr 0 37 19 (by decide)) ?_
          refine WP_iload_n dX11_readThingOf_74 rfl ?_
          refine WP_aload_n dX11_readThingOf_75 rfl ?_
          refine WQ_getim dX11_readThingOf_76 fX11_56 rfl (ly_is hy 0 11 rfl) ew2435 ?_
          refine WE_is dX11_readThingOf_79 (ly_is hy 19 13 rfl) (ly_n hy 19 3 rfl) (by omega) (by omega) (fun I2439 eI2439 => ?_)
          have e2440 : I2439 (ad g 0) 16 = w2361 := by rw [eI2439, pp_ne _ _ (Or.inl (ly_ne hy (by decide) (by decide) (by decide)))]; exact e2430
          have e2441 : I2439 (ad g 0) 3 = w2434 := by rw [eI2439, pp_ne _ _ (Or.inl (ly_ne hy (by decide) (by decide) (by decide)))]; exact ew2434
          have e2442 : I2439 (ad g 0) 7 = w2435 := by rw [eI2439, pp_ne _ _ (Or.inl (ly_ne hy (by decide) (by decide) (by decide)))]; exact ew2435
          have e2443 : I2439 (ad g 0) 8 = w2436 := by rw [eI2439, pp_ne _ _ (Or.inl (ly_ne hy (by decide) (by decide) (by decide)))]; exact ew2436
          have e2444 : I2439 (ad g 0) 9 = w2437 := by rw [eI2439, pp_ne _ _ (Or.inl (ly_ne hy (by decide) (by decide) (by decide)))]; exact ew2437
          have fI2445 : FC g [0, 18, 19, 28, 29, 34] I I2439 := by rw [eI2439]; exact FC_pp fI2431 (by decide)
          have fQ2446 : FQ g [3, 4, 5, 6, 7, 8, 9, 16] I I2439 := by rw [eI2439]; exact FQ_ppn (ly_ne hy (by decide) (by decide) (by decide)) fQ2433
          rw [show w2361.toInt.toNat = s by omega] at eI2439
          have hT6 : TPM g B n I2439 := by rw [eI2439]; exact tpm_pp hy hT5 (by decide)
          have hC6 : CUM g B n (tT B n (tT B n (tT B n (tT B n p)))) I2439 := by rw [eI2439]; exact cum_pp hy hC5 (by decide)
          have nf6 : NOF g I I2439 := by rw [eI2439]; exact NOF_tr nf5 (NOF_pp hy (by decide))
          refine WP_aload_n dX11_readThingOf_80 rfl ?_
          refine WP_getr dX11_readThingOf_81 fX11_138 rfl (ly_is hy 0 11 rfl) (rf hr 0 53 34 (by decide)) ?_
          refine WP_iload_n dX11_readThingOf_84 rfl ?_
          refine WQ_iconst (0) (0) dX11_readThingOf_85 rfl rfl (fun v2447 hv2447 => ?_)
          refine WE_is dX11_readThingOf_86 (ly_is hy 34 13 rfl) (ly_n hy 34 3 rfl) (by omega) (by omega) (fun I2448 eI2448 => ?_)
          have e2449 : I2448 (ad g 0) 16 = w2361 := by rw [eI2448, pp_ne _ _ (Or.inl (ly_ne hy (by decide) (by decide) (by decide)))]; exact e2440
          have e2450 : I2448 (ad g 0) 3 = w2434 := by rw [eI2448, pp_ne _ _ (Or.inl (ly_ne hy (by decide) (by decide) (by decide)))]; exact e2441
          have e2451 : I2448 (ad g 0) 7 = w2435 := by rw [eI2448, pp_ne _ _ (Or.inl (ly_ne hy (by decide) (by decide) (by decide)))]; exact e2442
          have e2452 : I2448 (ad g 0) 8 = w2436 := by rw [eI2448, pp_ne _ _ (Or.inl (ly_ne hy (by decide) (by decide) (by decide)))]; exact e2443
          have e2453 : I2448 (ad g 0) 9 = w2437 := by rw [eI2448, pp_ne _ _ (Or.inl (ly_ne hy (by decide) (by decide) (by decide)))]; exact e2444
          have fI2454 : FC g [0, 18, 19, 28, 29, 34] I I2448 := by rw [eI2448]; exact FC_pp fI2445 (by decide)
          have fQ2455 : FQ g [3, 4, 5, 6, 7, 8, 9, 16] I I2448 := by rw [eI2448]; exact FQ_ppn (ly_ne hy (by decide) (by decide) (by decide)) fQ2446
          rw [show w2361.toInt.toNat = s by omega] at eI2448
          have hT7 : TPM g B n I2448 := by rw [eI2448]; exact tpm_pp hy hT6 (by decide)
          have hC7 : CUM g B n (tT B n (tT B n (tT B n (tT B n p)))) I2448 := by rw [eI2448]; exact cum_pp hy hC6 (by decide)
          have nf7 : NOF g I I2448 := by rw [eI2448]; exact NOF_tr nf6 (NOF_pp hy (by decide))
          refine WQ_iconst (0) (0) dX11_readThingOf_87 rfl rfl (fun v2456 hv2456 => ?_)
          refine WP_istore_n (ls' := [(0, _), (1, _), (2, _)]) dX11_readThingOf_88 (by decide) rfl ?_
          have hp15 : (I2448 (ad g 0) 16).toInt = (s : Int) := by rw [e2449]; omega
          have lp2461 : ∀ (mz : Nat) (i2457 : Int32) (I2458 : pI), FC g [0, 18, 19, 28, 29, 34] I I2458 → FQ g [3, 4, 5, 6, 7, 8, 9, 16] I I2458 → (∃ d : Nat, i2457.toInt = (d : Int) ∧ d ≤ 7 ∧ FC g [28, 29] I2448 I2458 ∧ (∀ q, q < 7 * s → I2458 (ad g 28) q = I2448 (ad g 28) q) ∧ (∀ e, e < d → (I2458 (ad g 28) (7 * s + e)).toInt = 5) ∧ (∀ q, q < 7 * s → I2458 (ad g 29) q = I2448 (ad g 29) q) ∧ (∀ e, e < d → (I2458 (ad g 29) (7 * s + e)).toInt = -1)) → (8 - i2457.toInt.toNat) < mz → WP g mX11_readThingOf 89 [(0, .ref (ad g 0)), (1, .int w2361), (2, .int i2457)] [] I2458 J2426 R (fun r I' J' R' => R' = R ∧ FC g [0, 18, 19, 28, 29, 34] I I' ∧ FC g [5] J J' ∧ FQ g [3, 4, 5, 6, 7, 8, 9, 16] I I' ∧ ∃ v : Int32, r = some (.int v) ∧ ((v.toInt = 0 ∧ ERR g (clu B n 2 p S) I') ∨ (v.toInt = 1 ∧ ∃ S2 P2 p2, clu B n 2 p S = .ok (S2, P2, p2) ∧ RTM g (tel 2 P2 S2) I' J' ∧ TPM g B n I' ∧ CUM g B n p2 I' ∧ NOF g I I'))) := by
            intro mz
            induction mz with
            | zero =>
              intro i2457 I2458 fI2459 fQ2460 hvlp2461 hmlp2461
              exact absurd hmlp2461 (Nat.not_lt_zero _)
            | succ mz ihlp2461 =>
              intro i2457 I2458 fI2459 fQ2460 hvlp2461 hmlp2461
              obtain ⟨w2462, ew2462⟩ : ∃ w : Int32, I2458 (ad g 0) 3 = w := ⟨_, rfl⟩
              obtain ⟨w2463, ew2463⟩ : ∃ w : Int32, I2458 (ad g 0) 7 = w := ⟨_, rfl⟩
              obtain ⟨w2464, ew2464⟩ : ∃ w : Int32, I2458 (ad g 0) 8 = w := ⟨_, rfl⟩
              obtain ⟨w2465, ew2465⟩ : ∃ w : Int32, I2458 (ad g 0) 9 = w := ⟨_, rfl⟩
              obtain ⟨w2466, ew2466⟩ : ∃ w : Int32, I2458 (ad g 0) 16 = w := ⟨_, rfl⟩
              try simp only [ew2462, ew2463, ew2464, ew2465, ew2466, ew2357, ew2358, ew2359, ew2360, ew2361] at hvlp2461 hmlp2461
              obtain ⟨d, id, id7, iF, i28, j28, i29, j29⟩ := hvlp2461
              have z0 := FC_at hy iF 0 (by decide) (by decide)
              have hsl2 : w2466.toInt = (s : Int) := by rw [← ew2466, z0]; exact hp15
              refine WP_iload_n dX11_readThingOf_89 rfl ?_
              refine WQ_bipush (7) (7) dX11_readThingOf_90 rfl rfl (fun v2467 hv2467 => ?_)
              refine WQ_icmp_ge 125 dX11_readThingOf_92 rfl (fun c2467 => ?_) (fun c2467 => ?_)
              · refine WP_aload_n dX11_readThingOf_125 rfl ?_
                refine WP_dup dX11_readThingOf_126 rfl ?_
                refine WQ_getim dX11_readThingOf_127 fX11_126 rfl (ly_is hy 0 11 rfl) ew2466 ?_
                refine WQ_iconst (1) (1) dX11_readThingOf_130 rfl rfl (fun v2469 hv2469 => ?_)
                refine WQ_iadd dX11_readThingOf_131 (by omega) (by omega) (fun v2470 hv2470 => ?_)
                refine WQ_puti dX11_readThingOf_132 fX11_126 rfl rfl (ly_is hy 0 11 rfl) (fun I2471 eI2471 => ?_)
                have e2472 : I2471 (ad g 0) 3 = w2462 := by rw [eI2471, pp_ne _ _ (Or.inr (by decide))]; exact ew2462
                have e2473 : I2471 (ad g 0) 7 = w2463 := by rw [eI2471, pp_ne _ _ (Or.inr (by decide))]; exact ew2463
                have e2474 : I2471 (ad g 0) 8 = w2464 := by rw [eI2471, pp_ne _ _ (Or.inr (by decide))]; exact ew2464
                have e2475 : I2471 (ad g 0) 9 = w2465 := by rw [eI2471, pp_ne _ _ (Or.inr (by decide))]; exact ew2465
                have e2476 : I2471 (ad g 0) 16 = v2470 := by rw [eI2471, pp_self]
                have fI2477 : FC g [0, 18, 19, 28, 29, 34] I I2471 := by rw [eI2471]; exact FC_pp fI2459 (by decide)
                have fQ2478 : FQ g [3, 4, 5, 6, 7, 8, 9, 16] I I2471 := by rw [eI2471]; exact FQ_pp0 fQ2460 (by decide)
                refine WQ_iconst (1) (1) dX11_readThingOf_135 rfl rfl (fun v2479 hv2479 => ?_)
                exact WP_zret dX11_readThingOf_136 rfl (nar_z (by omega)) ⟨rfl, fI2477, fJ2432, fQ2478, v2479, rfl, by
                  try simp only [e2472, e2473, e2474, e2475, e2476, ew2357, ew2358, ew2359, ew2360, ew2361]
                  have hTf : TPM g B n I2471 := by rw [eI2471]; exact tpm_p0 hy (TPM_fr hy hT7 iF (by decide)) (by decide)
                  have hCf : CUM g B n (tT B n (tT B n (tT B n (tT B n p)))) I2471 := by rw [eI2471]; exact cum_p0 (CUM_fr hy hC7 iF (by decide)) (by decide)
                  have nff : NOF g I I2471 := by rw [eI2471]; exact NOF_tr (NOF_tr nf7 (NOF_fr hy iF (by decide))) (NOF_p0 (by decide))
                  refine Or.inr ⟨by omega, Sz, P3, (tT B n (tT B n (tT B n (tT B n p)))), clu_ok ha E3, ?_, hTf, hCf, nff⟩
                  rw [eSz]
                  refine RTM_thg (s := s) (w := (tW B n (tT B n p))) hs (by omega) (by omega) hR hPI hPJ (by rw [e2476]; omega) ?_ ?_ (fun q hq => ?_) ?_ (fun q hq => ?_) ?_ (fun q hq => ?_) ?_ (fun q hq => ?_) (fun d9 hd9 => ?_) (fun q hq => ?_) (fun d9 hd9 => ?_) (fun q hq => ?_) ?_ okw ?_
                  · intro q hq; exact fQ2478 q (by revert hq; revert q; decide)
                  · intro c9 hc9
                    have key : ∀ c ∈ [7, 14, 15, 16, 17, 27, 30, 31, 32, 33], ∀ i ∈ [0, 18, 19, 28, 29, 34], c ≠ i := by decide
                    exact fI2477 (ad g c9) (fun i hi => ly_ne hy (key c9 hc9 i hi) ((by decide : ∀ c ∈ [7, 14, 15, 16, 17, 27, 30, 31, 32, 33], c < 49) c9 hc9) ((by decide : ∀ i ∈ [0, 18, 19, 28, 29, 34], i < 49) i hi))
                  · rw [eI2471, pp_off _ _ (ly_ne hy (by decide) (by decide) (by decide)), FC_at hy iF 18 (by decide) (by decide), eI2448, pp_off _ _ (ly_ne hy (by decide) (by decide) (by decide)), eI2439, pp_off _ _ (ly_ne hy (by decide) (by decide) (by decide)), FC_at hy g2427 18 (by decide) (by decide), eI2413, pp_ne _ _ (Or.inr hq), FC_at hy g2401 18 (by decide) (by decide), FC_at hy g2382 18 (by decide) (by decide), FC_at hy g2367 18 (by decide) (by decide)]
                  · rw [eI2471, pp_off _ _ (ly_ne hy (by decide) (by decide) (by decide)), FC_at hy iF 18 (by decide) (by decide), eI2448, pp_off _ _ (ly_ne hy (by decide) (by decide) (by decide)), eI2439, pp_off _ _ (ly_ne hy (by decide) (by decide) (by decide)), FC_at hy g2427 18 (by decide) (by decide), eI2413, pp_self]
                    rw [hPb3 1 (by decide), hPa2]; omega
                  · rw [eI2471, pp_off _ _ (ly_ne hy (by decide) (by decide) (by decide)), FC_at hy iF 19 (by decide) (by decide), eI2448, pp_off _ _ (ly_ne hy (by decide) (by decide) (by decide)), eI2439, pp_ne _ _ (Or.inr hq), FC_at hy g2427 19 (by decide) (by decide), eI2413, pp_off _ _ (ly_ne hy (by decide) (by decide) (by decide)), FC_at hy g2401 19 (by decide) (by decide), FC_at hy g2382 19 (by decide) (by decide), FC_at hy g2367 19 (by decide) (by decide)]
                  · rw [eI2471, pp_off _ _ (ly_ne hy (by decide) (by decide) (by decide)), FC_at hy iF 19 (by decide) (by decide), eI2448, pp_off _ _ (ly_ne hy (by decide) (by decide) (by decide)), eI2439, pp_self]
                    rw [hPa3]; omega
                  · rw [eI2471, pp_off _ _ (ly_ne hy (by decide) (by decide) (by decide)), FC_at hy iF 34 (by decide) (by decide), eI2448, pp_ne _ _ (Or.inr hq), eI2439, pp_off _ _ (ly_ne hy (by decide) (by decide) (by decide)), FC_at hy g2427 34 (by decide) (by decide), eI2413, pp_off _ _ (ly_ne hy (by decide) (by decide) (by decide)), FC_at hy g2401 34 (by decide) (by decide), FC_at hy g2382 34 (by decide) (by decide), FC_at hy g2367 34 (by decide) (by decide)]
                  · rw [eI2471, pp_off _ _ (ly_ne hy (by decide) (by decide) (by decide)), FC_at hy iF 34 (by decide) (by decide), eI2448, pp_self]
                    omega
                  · rw [eI2471, pp_off _ _ (ly_ne hy (by decide) (by decide) (by decide)), i28 q hq, eI2448, pp_off _ _ (ly_ne hy (by decide) (by decide) (by decide)), eI2439, pp_off _ _ (ly_ne hy (by decide) (by decide) (by decide)), FC_at hy g2427 28 (by decide) (by decide), eI2413, pp_off _ _ (ly_ne hy (by decide) (by decide) (by decide)), FC_at hy g2401 28 (by decide) (by decide), FC_at hy g2382 28 (by decide) (by decide), FC_at hy g2367 28 (by decide) (by decide)]
                  · rw [eI2471, pp_off _ _ (ly_ne hy (by decide) (by decide) (by decide))]; exact j28 d9 (by omega)
                  · rw [eI2471, pp_off _ _ (ly_ne hy (by decide) (by decide) (by decide)), i29 q hq, eI2448, pp_off _ _ (ly_ne hy (by decide) (by decide) (by decide)), eI2439, pp_off _ _ (ly_ne hy (by decide) (by decide) (by decide)), FC_at hy g2427 29 (by decide) (by decide), eI2413, pp_off _ _ (ly_ne hy (by decide) (by decide) (by decide)), FC_at hy g2401 29 (by decide) (by decide), FC_at hy g2382 29 (by decide) (by decide), FC_at hy g2367 29 (by decide) (by decide)]
                  · rw [eI2471, pp_off _ _ (ly_ne hy (by decide) (by decide) (by decide))]; exact j29 d9 (by omega)
                  · rw [FC_at hy g2428 5 (by decide) (by decide), FC_at hy g2402 5 (by decide) (by decide), nJ q (by omega), FC_at hy g2368 5 (by decide) (by decide)]
                  · rw [FC_at hy g2428 5 (by decide) (by decide), FC_at hy g2402 5 (by decide) (by decide), ← show (S.1 0 2).toNat = s by omega]; exact mJ
                  · exact FC_at hy fJ2432 4 (by decide) (by decide)⟩
              · refine WP_aload_n dX11_readThingOf_95 rfl ?_
                refine WP_getr dX11_readThingOf_96 fX11_141 rfl (ly_is hy 0 11 rfl) (rf hr 0 46 28 (by decide)) ?_
                refine WQ_bipush (7) (7) dX11_readThingOf_99 rfl rfl (fun v2480 hv2480 => ?_)
                refine WP_iload_n dX11_readThingOf_101 rfl ?_
                refine WQ_imulK (7) dX11_readThingOf_102 hv2480 (by omega) (by omega) (fun v2481 hv2481 => ?_)
                refine WP_iload_n dX11_readThingOf_103 rfl ?_
                refine WQ_iadd dX11_readThingOf_104 (by omega) (by omega) (fun v2482 hv2482 => ?_)
                refine WQ_iconst (5) (5) dX11_readThingOf_105 rfl rfl (fun v2483 hv2483 => ?_)
                refine WE_is dX11_readThingOf_106 (ly_is hy 28 13 rfl) (ly_n hy 28 21 rfl) (by omega) (by omega) (fun I2484 eI2484 => ?_)
                have e2485 : I2484 (ad g 0) 3 = w2462 := by rw [eI2484, pp_ne _ _ (Or.inl (ly_ne hy (by decide) (by decide) (by decide)))]; exact ew2462
                have e2486 : I2484 (ad g 0) 7 = w2463 := by rw [eI2484, pp_ne _ _ (Or.inl (ly_ne hy (by decide) (by decide) (by decide)))]; exact ew2463
                have e2487 : I2484 (ad g 0) 8 = w2464 := by rw [eI2484, pp_ne _ _ (Or.inl (ly_ne hy (by decide) (by decide) (by decide)))]; exact ew2464
                have e2488 : I2484 (ad g 0) 9 = w2465 := by rw [eI2484, pp_ne _ _ (Or.inl (ly_ne hy (by decide) (by decide) (by decide)))]; exact ew2465
                have e2489 : I2484 (ad g 0) 16 = w2466 := by rw [eI2484, pp_ne _ _ (Or.inl (ly_ne hy (by decide) (by decide) (by decide)))]; exact ew2466
                have fI2490 : FC g [0, 18, 19, 28, 29, 34] I I2484 := by rw [eI2484]; exact FC_pp fI2459 (by decide)
                have fQ2491 : FQ g [3, 4, 5, 6, 7, 8, 9, 16] I I2484 := by rw [eI2484]; exact FQ_ppn (ly_ne hy (by decide) (by decide) (by decide)) fQ2460
                rw [show v2482.toInt.toNat = 7 * s + d by omega] at eI2484
                refine WP_aload_n dX11_readThingOf_107 rfl ?_
                refine WP_getr dX11_readThingOf_108 fX11_144 rfl (ly_is hy 0 11 rfl) (rf hr 0 47 29 (by decide)) ?_
                refine WQ_bipush (7) (7) dX11_readThingOf_111 rfl rfl (fun v2492 hv2492 => ?_)
                refine WP_iload_n dX11_readThingOf_113 rfl ?_
                refine WQ_imulK (7) dX11_readThingOf_114 hv2492 (by omega) (by omega) (fun v2493 hv2493 => ?_)
                refine WP_iload_n dX11_readThingOf_115 rfl ?_
                refine WQ_iadd dX11_readThingOf_116 (by omega) (by omega) (fun v2494 hv2494 => ?_)
                refine WQ_iconst (-1) (-1) dX11_readThingOf_117 rfl rfl (fun v2495 hv2495 => ?_)
                refine WE_is dX11_readThingOf_118 (ly_is hy 29 13 rfl) (ly_n hy 29 21 rfl) (by omega) (by omega) (fun I2496 eI2496 => ?_)
                have e2497 : I2496 (ad g 0) 3 = w2462 := by rw [eI2496, pp_ne _ _ (Or.inl (ly_ne hy (by decide) (by decide) (by decide)))]; exact e2485
                have e2498 : I2496 (ad g 0) 7 = w2463 := by rw [eI2496, pp_ne _ _ (Or.inl (ly_ne hy (by decide) (by decide) (by decide)))]; exact e2486
                have e2499 : I2496 (ad g 0) 8 = w2464 := by rw [eI2496, pp_ne _ _ (Or.inl (ly_ne hy (by decide) (by decide) (by decide)))]; exact e2487
                have e2500 : I2496 (ad g 0) 9 = w2465 := by rw [eI2496, pp_ne _ _ (Or.inl (ly_ne hy (by decide) (by decide) (by decide)))]; exact e2488
                have e2501 : I2496 (ad g 0) 16 = w2466 := by rw [eI2496, pp_ne _ _ (Or.inl (ly_ne hy (by decide) (by decide) (by decide)))]; exact e2489
                have fI2502 : FC g [0, 18, 19, 28, 29, 34] I I2496 := by rw [eI2496]; exact FC_pp fI2490 (by decide)
                have fQ2503 : FQ g [3, 4, 5, 6, 7, 8, 9, 16] I I2496 := by rw [eI2496]; exact FQ_ppn (ly_ne hy (by decide) (by decide) (by decide)) fQ2491
                rw [show v2494.toInt.toNat = 7 * s + d by omega] at eI2496
                refine WP_iinc (ls' := [(0, _), (1, _), (2, _)]) dX11_readThingOf_119 rfl (by decide) rfl ?_
                have hv2504 : (i2457 + Int32.ofInt (1)).toInt = i2457.toInt + (1) := ia_n rfl (by omega) (by omega)
                generalize i2457 + Int32.ofInt (1) = v2504 at hv2504 ⊢
                refine WP_goto 89 dX11_readThingOf_122 rfl ?_
                refine WP_sub (fc rfl (fc rfl (fc rfl fn))) (ihlp2461 v2504 I2496 fI2502 fQ2503 ?_ ?_)
                · try simp only [e2497, e2498, e2499, e2500, e2501, ew2357, ew2358, ew2359, ew2360, ew2361]
                  refine ⟨d + 1, by omega, by omega, ?_, ?_, ?_, ?_, ?_⟩
                  · rw [eI2496, eI2484]; exact (FC_pp (FC_pp iF (by decide)) (by decide))
                  · intro q hq
                    rw [eI2496, pp_off _ _ (ly_ne hy (by decide) (by decide) (by decide)), eI2484, pp_at, if_neg (by omega)]; exact i28 q hq
                  · intro e he
                    rw [eI2496, pp_off _ _ (ly_ne hy (by decide) (by decide) (by decide)), eI2484, pp_at]
                    by_cases e9 : e = d
                    · rw [if_pos (by omega)]; omega
                    · rw [if_neg (by omega)]; exact j28 e (by omega)
                  · intro q hq
                    rw [eI2496, pp_at, eI2484, pp_off _ _ (ly_ne hy (by decide) (by decide) (by decide)), if_neg (by omega)]; exact i29 q hq
                  · intro e he
                    rw [eI2496, pp_at, eI2484, pp_off _ _ (ly_ne hy (by decide) (by decide) (by decide))]
                    by_cases e9 : e = d
                    · rw [if_pos (by omega)]; omega
                    · rw [if_neg (by omega)]; exact j29 e (by omega)
                · try simp only [e2497, e2498, e2499, e2500, e2501, ew2357, ew2358, ew2359, ew2360, ew2361]
                  omega
          refine WP_sub (fc rfl (fc rfl (fc rfl fn))) (lp2461 _ v2456 I2448 fI2454 fQ2455 ?_ (Nat.lt_succ_self _))
          · try simp only [e2450, e2451, e2452, e2453, e2449, ew2357, ew2358, ew2359, ew2360, ew2361]
            refine ⟨0, by omega, by omega, FC_rf, fun q hq => by first | rfl | trivial, fun e he => absurd he (Nat.not_lt_zero _), fun q hq => by first | rfl | trivial, fun e he => absurd he (Nat.not_lt_zero _)⟩
        · refine WQ_iconst (0) (0) dX11_readThingOf_68 rfl rfl (fun v2505 hv2505 => ?_)
          exact WP_zret dX11_readThingOf_69 rfl (nar_z (by omega)) ⟨rfl, fI2431, fJ2432, fQ2433, v2505, rfl, by
            try simp only [e2430, ew2434, ew2435, ew2436, ew2437, ew2357, ew2358, ew2359, ew2360, ew2361]
            rcases p2423 with ⟨-, e⟩ | ⟨z, -⟩
            · exact Or.inl ⟨by omega, ERR_to e (fun er h => clu_er ha E2 (by decide) rfl h)⟩
            · exact absurd z (by omega)⟩
      · refine WQ_iconst (0) (0) dX11_readThingOf_46 rfl rfl (fun v2506 hv2506 => ?_)
        exact WP_zret dX11_readThingOf_47 rfl (nar_z (by omega)) ⟨rfl, fI2405, fJ2406, fQ2407, v2506, rfl, by
          try simp only [e2404, ew2408, ew2409, ew2410, ew2411, ew2357, ew2358, ew2359, ew2360, ew2361]
          rcases p2397 with ⟨-, e⟩ | ⟨z, -⟩
          · exact Or.inl ⟨by omega, ERR_to e (fun er h => clu_er ha E1 (by decide) rfl h)⟩
          · exact absurd z (by omega)⟩
  · refine WP_aload_n dX11_readThingOf_8 rfl ?_
    refine WQ_iconst (4) (4) dX11_readThingOf_9 rfl rfl (fun v2507 hv2507 => ?_)
    refine WP_callV1 (k := 11) dX11_readThingOf_10 ⟨⟨⟨by decide, by decide⟩, zX11_bad⟩, lX11_49, by decide, rfl, vX11_bad.1, vX11_bad.2⟩ (ly_is hy 0 11 rfl) (em_bad hy hr _  ) (Nat.le_of_ble_eq_true rfl) ?_
    intro r I2510 J2511 Ra hq
    obtain ⟨ec, g2512, g2513, g2514, v2509, er, p2508⟩ := hq
    rw [ec, er]
    clear ec er Ra r
    have e2515 : I2510 (ad g 0) 3 = w2357 := by rw [g2514 3 (by decide)]; exact ew2357
    have e2516 : I2510 (ad g 0) 7 = w2358 := by rw [g2514 7 (by decide)]; exact ew2358
    have e2517 : I2510 (ad g 0) 16 = w2361 := by rw [g2514 16 (by decide)]; exact ew2361
    have fI2518 : FC g [0, 18, 19, 28, 29, 34] I I2510 := FC_tr fI0 (FC_mono g2512 (by decide))
    have fJ2519 : FC g [5] J J2511 := FC_tr fJ0 (FC_mono g2513 (by decide))
    have fQ2520 : FQ g [3, 4, 5, 6, 7, 8, 9, 16] I I2510 := FQ_tr fQ0 (FQ_mono g2514 (by decide))
    obtain ⟨w2521, ew2521⟩ : ∃ w : Int32, I2510 (ad g 0) 8 = w := ⟨_, rfl⟩
    obtain ⟨w2522, ew2522⟩ : ∃ w : Int32, I2510 (ad g 0) 9 = w := ⟨_, rfl⟩
    try simp only [e2515, e2516, ew2521, ew2522, e2517, ew2357, ew2358, ew2359, ew2360, ew2361] at p2508
    obtain ⟨z0, z8, z9⟩ := p2508
    try simp only [ew2357] at z9
    exact WP_zret dX11_readThingOf_13 rfl (nar_z (by omega)) ⟨rfl, fI2518, fJ2519, fQ2520, v2509, rfl, by
      try simp only [e2515, e2516, e2517, ew2521, ew2522, ew2357, ew2358, ew2359, ew2360, ew2361]
      refine Or.inl ⟨by omega, 4, tF B n p, ?_, ?_⟩
      · have hz : ahd 2 S = 4 := by unfold ahd; rw [if_pos (by omega)]
        unfold clu
        rw [hz, if_pos (by decide)]
      · unfold ERM
        try simp only [ew2521, ew2522]
        exact ⟨by rw [z8]; omega, by rw [z9]; omega⟩⟩
