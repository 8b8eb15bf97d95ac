theorem SHP_5 : ∀ c, c < 12 → (SHP c).length ≤ 5 := by decide
set_option maxHeartbeats 4000000 in
set_option maxRecDepth 100000 in
theorem ex_fipa {g : GG} {I : pI} {J : pJ} {R : pR} (hy : LyX g) (hr : RfX g R) {aK aV : Nat → Nat} {fo : Option Nat} (hz : HZ g aK aV fo) {B : Nat → Int} {n p c : Nat} {S : TwS} (cl : Int32) (hcl : cl.toInt = (c : Int)) (hc12 : c < 12) (hn : n ≤ 900) (hp : p ≤ n) (hT : TPX g B n I) (hC : CUX g B n p I J) (hR : RTX g 6 S I J) (hB : SBn S) (hr1 : c = 1 → S.1 0 1 < 4) (hr2 : c = 2 → S.1 0 2 < 3) : SP g mX3_faultInParts [.ref (ad g 3), .int cl, .ref (ad g 6)] I J R (fun r I' J' R' => R' = R ∧ FC g [1, 4] I I' ∧ FC g [1, 20] J J' ∧ ∃ v : Int32, r = some (.int v) ∧ ((∃ k pl : Nat, v.toInt = (k : Int) ∧ k ≠ 0 ∧ clz B n c p S = .error (k, pl) ∧ (I' (ad g 1) 3).toInt = (pl : Int) ∧ TPX g B n I') ∨ (v.toInt = 0 ∧ ∃ S2 P2 p2, clz B n c p S = .ok (S2, P2, p2) ∧ RTX g 6 S2 I' J' ∧ PRX g P2 (loP c) (SHP c).length I' ∧ TPX g B n I' ∧ CUX g B n p2 I' J'))) := by
  refine SP_of ⟨by decide, rfl⟩ (Nat.le_of_ble_eq_true rfl) ?_
  have fI0 : FC g [1, 4] I I := FC_rf
  have fJ0 : FC g [1, 20] J J := FC_rf
  obtain ⟨w2040, ew2040⟩ : ∃ w : Int32, I (ad g 1) 2 = w := ⟨_, rfl⟩
  obtain ⟨w2041, ew2041⟩ : ∃ w : Int32, I (ad g 1) 3 = w := ⟨_, rfl⟩
  have hln := (LB_s c hc12).1
  have hl5 := SHP_5 c hc12
  refine WP_iload_n dX3_faultInParts_0 rfl ?_
  refine WP_callS1 dX3_faultInParts_1 ⟨⟨⟨by decide, by decide⟩, zX3_shapeOf⟩, lX3_84, tX3_shapeOf⟩ (ex_shapeOf hy hr hz _  hcl hc12) (Nat.le_of_ble_eq_true rfl) ?_
  intro r Ia Ja Ra hq
  obtain ⟨⟨ea, eb, ec⟩, er, p2042⟩ := hq
  rw [ea, eb, ec, er]
  clear ea eb ec er Ia Ja Ra r
  refine WP_astore_n (ls' := [(0, _), (1, _), (2, _), (3, _)]) dX3_faultInParts_4 (by decide) rfl ?_
  refine WQ_iconst (0) (0) dX3_faultInParts_5 rfl rfl (fun v2043 hv2043 => ?_)
  refine WP_istore (ls' := [(0, _), (1, _), (2, _), (3, _), (4, _)]) dX3_faultInParts_6 (by decide) rfl ?_
  have lp2050 : ∀ (mz : Nat) (i2044 : Int32) (I2045 : pI) (J2048 : pJ), FC g [1, 4] I I2045 → FC g [1, 20] J J2048 → (∃ (i p1 : Nat) (S1 : TwS) (P1 : Nat → Int), i2044.toInt = (i : Int) ∧ i ≤ (SHP c).length ∧ p1 ≤ n ∧ TPX g B n I2045 ∧ CUX g B n p1 I2045 J2048 ∧ RTX g 6 S1 I2045 J2048 ∧ SBn S1 ∧ PRX g P1 (loP c) i I2045 ∧ prts B n c ((SHP c).drop i) i p1 S1 P1 = prts B n c (SHP c) 0 p S (fun _ => 0) ∧ S1.1 0 1 = S.1 0 1 ∧ S1.1 0 2 = S.1 0 2 ∧ ((c = 3 ∨ c = 4 ∨ c = 5 ∨ c = 6 ∨ c = 10) → 1 ≤ i → 0 ≤ P1 0 ∧ P1 0 < 4)) → (6 - i2044.toInt.toNat) < mz → WP g mX3_faultInParts 8 [(0, .ref (ad g 3)), (1, .int cl), (2, .ref (ad g 6)), (3, .ref (aK (10 + c))), (4, .int i2044)] [] I2045 J2048 R (fun r I' J' R' => R' = R ∧ FC g [1, 4] I I' ∧ FC g [1, 20] J J' ∧ ∃ v : Int32, r = some (.int v) ∧ ((∃ k pl : Nat, v.toInt = (k : Int) ∧ k ≠ 0 ∧ clz B n c p S = .error (k, pl) ∧ (I' (ad g 1) 3).toInt = (pl : Int) ∧ TPX g B n I') ∨ (v.toInt = 0 ∧ ∃ S2 P2 p2, clz B n c p S = .ok (S2, P2, p2) ∧ RTX g 6 S2 I' J' ∧ PRX g P2 (loP c) (SHP c).length I' ∧ TPX g B n I' ∧ CUX g B n p2 I' J'))) := by
    intro mz
    induction mz with
    | zero =>
      intro i2044 I2045 J2048 fI2046 fJ2049 hvlp2050 hmlp2050
      exact absurd hmlp2050 (Nat.not_lt_zero _)
    | succ mz ihlp2050 =>
      intro i2044 I2045 J2048 fI2046 fJ2049 hvlp2050 hmlp2050
      obtain ⟨w2051, ew2051⟩ : ∃ w : Int32, I2045 (ad g 1) 2 = w := ⟨_, rfl⟩
      obtain ⟨w2052, ew2052⟩ : ∃ w : Int32, I2045 (ad g 1) 3 = w := ⟨_, rfl⟩
      try simp only [ew2051, ew2052, ew2040, ew2041] at hvlp2050 hmlp2050
      obtain ⟨i, p1, S1, P1, ii, il, ip, iT, iC, iR, iB, iP, iE, i1, i2, i0⟩ := hvlp2050
      have c2 := iC.2.2.1
      have c3 := iC.1
      try simp only [ew2051] at c2
      try simp only [ew2052] at c3
      refine WP_iload dX3_faultInParts_8 rfl ?_
      refine WP_aload_n dX3_faultInParts_10 rfl ?_
      refine WS_call hz (i := 10 + c) (by omega) dX3_faultInParts_11 ⟨⟨by decide, by decide⟩, zJ0_length_8abf5⟩ lX3_87 vJ0_length_8abf5 (As := []) (rest := [.int i2044]) (j_length hz (i := 10 + c) (by omega)) rfl rfl (Nat.le_of_ble_eq_true rfl) ?_
      intro r Ia Ja Ra hq
      obtain ⟨⟨ea, eb, ec⟩, v2053, rfl, cv2053⟩ := hq
      show WP _ _ _ _ (.int _ :: _) _ _ _ _
      rw [ea, eb, ec]
      clear ea eb ec Ia Ja Ra
      have lv2053 := (li_len (10 + c) (by omega)).2.2
      refine WQ_icmp_ge 125 dX3_faultInParts_14 rfl (fun c2053 => ?_) (fun c2053 => ?_)
      · refine WP_aload_n dX3_faultInParts_125 rfl ?_
        refine WP_getr dX3_faultInParts_126 fX3_15 rfl (lyx_is hy 3 3 rfl) (rfx hr 3 2 1 (by decide)) ?_
        refine WQ_getim dX3_faultInParts_129 fX3_43 rfl (lyx_is hy 1 5 rfl) ew2051 ?_
        refine WQ_iconst (3) (3) dX3_faultInParts_132 rfl rfl (fun v2055 hv2055 => ?_)
        refine WQ_icmp_ne 140 dX3_faultInParts_133 rfl (fun c2055 => ?_) (fun c2055 => ?_)
        · refine WQ_iconst (1) (1) dX3_faultInParts_140 rfl rfl (fun v2057 hv2057 => ?_)
          exact WP_iret dX3_faultInParts_141 rfl ⟨rfl, fI2046, fJ2049, v2057, rfl, by
            try simp only [ew2051, ew2052, ew2040, ew2041]
            have hz9 := clz_go (B := B) (n := n) (cl := c) (p := p) (S := S) (S2 := S1) (P2 := P1) (p2 := p1) (by rw [← iE]; exact prts_nil (by omega))
            first
            | (refine Or.inr ⟨by omega, S1, P1, p1, ?_, iR, (by rw [show (SHP c).length = i by omega]; exact iP), iT, iC⟩; rw [hz9, if_neg (by omega)])
            | (refine Or.inl ⟨1, tF B n p1, by omega, by decide, ?_, by omega, iT⟩; rw [hz9, if_pos (by omega)])⟩
        · refine WQ_iconst (0) (0) dX3_faultInParts_136 rfl rfl (fun v2058 hv2058 => ?_)
          refine WP_goto 141 dX3_faultInParts_137 rfl ?_
          exact WP_iret dX3_faultInParts_141 rfl ⟨rfl, fI2046, fJ2049, v2058, rfl, by
            try simp only [ew2051, ew2052, ew2040, ew2041]
            have hz9 := clz_go (B := B) (n := n) (cl := c) (p := p) (S := S) (S2 := S1) (P2 := P1) (p2 := p1) (by rw [← iE]; exact prts_nil (by omega))
            first
            | (refine Or.inr ⟨by omega, S1, P1, p1, ?_, iR, (by rw [show (SHP c).length = i by omega]; exact iP), iT, iC⟩; rw [hz9, if_neg (by omega)])
            | (refine Or.inl ⟨1, tF B n p1, by omega, by decide, ?_, by omega, iT⟩; rw [hz9, if_pos (by omega)])⟩
      · refine WP_iload dX3_faultInParts_17 rfl ?_
        refine WQ_iconst (5) (5) dX3_faultInParts_19 rfl rfl (fun v2059 hv2059 => ?_)
        refine WQ_icmp_ge 125 dX3_faultInParts_20 rfl (fun c2059 => ?_) (fun c2059 => ?_)
        · refine WP_aload_n dX3_faultInParts_125 rfl ?_
          refine WP_getr dX3_faultInParts_126 fX3_15 rfl (lyx_is hy 3 3 rfl) (rfx hr 3 2 1 (by decide)) ?_
          refine WQ_getim dX3_faultInParts_129 fX3_43 rfl (lyx_is hy 1 5 rfl) ew2051 ?_
          refine WQ_iconst (3) (3) dX3_faultInParts_132 rfl rfl (fun v2061 hv2061 => ?_)
          refine WQ_icmp_ne 140 dX3_faultInParts_133 rfl (fun c2061 => ?_) (fun c2061 => ?_)
          · refine WQ_iconst (1) (1) dX3_faultInParts_140 rfl rfl (fun v2063 hv2063 => ?_)
            exact WP_iret dX3_faultInParts_141 rfl ⟨rfl, fI2046, fJ2049, v2063, rfl, by
              try simp only [ew2051, ew2052, ew2040, ew2041]
              have hz9 := clz_go (B := B) (n := n) (cl := c) (p := p) (S := S) (S2 := S1) (P2 := P1) (p2 := p1) (by rw [← iE]; exact prts_nil (by omega))
              first
              | (refine Or.inr ⟨by omega, S1, P1, p1, ?_, iR, (by rw [show (SHP c).length = i by omega]; exact iP), iT, iC⟩; rw [hz9, if_neg (by omega)])
              | (refine Or.inl ⟨1, tF B n p1, by omega, by decide, ?_, by omega, iT⟩; rw [hz9, if_pos (by omega)])⟩
          · refine WQ_iconst (0) (0) dX3_faultInParts_136 rfl rfl (fun v2064 hv2064 => ?_)
            refine WP_goto 141 dX3_faultInParts_137 rfl ?_
            exact WP_iret dX3_faultInParts_141 rfl ⟨rfl, fI2046, fJ2049, v2064, rfl, by
              try simp only [ew2051, ew2052, ew2040, ew2041]
              have hz9 := clz_go (B := B) (n := n) (cl := c) (p := p) (S := S) (S2 := S1) (P2 := P1) (p2 := p1) (by rw [← iE]; exact prts_nil (by omega))
              first
              | (refine Or.inr ⟨by omega, S1, P1, p1, ?_, iR, (by rw [show (SHP c).length = i by omega]; exact iP), iT, iC⟩; rw [hz9, if_neg (by omega)])
              | (refine Or.inl ⟨1, tF B n p1, by omega, by decide, ?_, by omega, iT⟩; rw [hz9, if_pos (by omega)])⟩
        · refine WP_aload_n dX3_faultInParts_23 rfl ?_
          refine WP_iload dX3_faultInParts_24 rfl ?_
          refine WS_call hz (i := 10 + c) (by omega) dX3_faultInParts_26 ⟨⟨by decide, by decide⟩, zJ0_charAt_5068e⟩ lX3_92 vJ0_charAt_5068e (As := [.int i2044]) (rest := []) (j_charAt hz (i := 10 + c) (k := i2044) (by omega) (by omega) (by omega)) rfl rfl (Nat.le_of_ble_eq_true rfl) ?_
          intro r Ia Ja Ra hq
          obtain ⟨⟨ea, eb, ec⟩, v2065, rfl, cv2065⟩ := hq
          show WP _ _ _ _ (.int _ :: _) _ _ _ _
          rw [ea, eb, ec]
          clear ea eb ec Ia Ja Ra
          refine WP_istore (ls' := [(0, _), (1, _), (2, _), (3, _), (4, _), (5, _)]) dX3_faultInParts_29 (by decide) rfl ?_
          obtain ⟨ch, ech⟩ : ∃ ch, (SHP c).getD i 0 = ch := ⟨_, rfl⟩
          have tbl := SHP_t hc12 (i := i) (by omega) ech
          have tb1 := tbl.1
          have hch : v2065.toInt = (ch : Int) := by
            have z := (LB_s c hc12).2 i (by omega)
            rw [ech] at z
            rw [← z, cv2065, show i2044.toInt.toNat = i by omega]
            rfl
          refine WP_iload dX3_faultInParts_31 rfl ?_
          refine WQ_bipush (97) (97) dX3_faultInParts_33 rfl rfl (fun v2066 hv2066 => ?_)
          refine WQ_icmp_lt 49 dX3_faultInParts_35 rfl (fun c2066 => ?_) (fun c2066 => ?_)
          · refine WQ_iconst (0) (0) dX3_faultInParts_49 rfl rfl (fun v2068 hv2068 => ?_)
            refine WP_istore (ls' := [(0, _), (1, _), (2, _), (3, _), (4, _), (5, _), (6, _)]) dX3_faultInParts_50 (by decide) rfl ?_
            refine WP_aload_n dX3_faultInParts_52 rfl ?_
            refine WP_getr dX3_faultInParts_53 fX3_15 rfl (lyx_is hy 3 3 rfl) (rfx hr 3 2 1 (by decide)) ?_
            refine WQ_getim dX3_faultInParts_56 fX3_43 rfl (lyx_is hy 1 5 rfl) ew2051 ?_
            refine WP_iload dX3_faultInParts_59 rfl ?_
            refine WQ_if_eq 68 dX3_faultInParts_61 rfl (fun c2068 => ?_) (fun c2068 => False.elim (by omega))
            refine WQ_iconst (2) (2) dX3_faultInParts_68 rfl rfl (fun v2070 hv2070 => ?_)
            refine WQ_icmp_eq 74 dX3_faultInParts_69 rfl (fun c2070 => ?_) (fun c2070 => ?_)
            · refine WP_iload dX3_faultInParts_74 rfl ?_
              refine WQ_if_eq 92 dX3_faultInParts_76 rfl (fun c2071 => ?_) (fun c2071 => False.elim (by omega))
              refine WP_aload_n dX3_faultInParts_92 rfl ?_
              refine WP_iload dX3_faultInParts_93 rfl ?_
              refine WP_iload_n dX3_faultInParts_95 rfl ?_
              refine WP_iload dX3_faultInParts_96 rfl ?_
              refine WP_aload_n dX3_faultInParts_98 rfl ?_
              refine WP_callV4 (k := 3) dX3_faultInParts_99 ⟨⟨⟨by decide, by decide⟩, zX3_faultOfNumber⟩, lX3_100, by decide, rfl, vX3_faultOfNumber.1, vX3_faultOfNumber.2⟩ (lyx_is hy 3 3 rfl) (ex_fnua hy hr _ _ _  (B := B) (n := n) (p := p1) (c := c) (i := i) (ch := ch) (S := S1) (P := P1) hch hcl hc12 (by omega) (by omega) iC iR iB iP (by omega) (by omega) (by intro z1 z2; have z3 := tbl.2.2.2.2.2.1 z1 z2; exact ⟨z3.1, (by unfold loP; rw [if_neg (by omega)]), i0 z3.2 z3.1⟩)) (Nat.le_of_ble_eq_true rfl) ?_
              intro r I2075 J2076 Ra hq
              obtain ⟨ec, g2077, g2078, v2074, er, p2073⟩ := hq
              rw [ec, er]
              clear ec er Ra r
              have e2080 : I2075 (ad g 1) 2 = w2051 := by rw [FCx_at hy g2077 1 (by decide) (by decide)]; exact ew2051
              have e2081 : I2075 (ad g 1) 3 = w2052 := by rw [FCx_at hy g2077 1 (by decide) (by decide)]; exact ew2052
              have fI2082 : FC g [1, 4] I I2075 := FC_tr fI2046 (FC_mono g2077 (by decide))
              have fJ2083 : FC g [1, 20] J J2076 := FC_tr fJ2049 (FC_mono g2078 (by decide))
              try simp only [e2080, e2081, ew2040, ew2041] at p2073
              refine WP_istore (ls' := [(0, _), (1, _), (2, _), (3, _), (4, _), (5, _), (6, _), (7, _)]) dX3_faultInParts_102 (by decide) rfl ?_
              have hT2 := TPX_fr hy iT g2077 (by decide)
              have hC2 := CUX_fr hy iC g2077 g2078 (by decide) (by decide)
              refine WP_iload dX3_faultInParts_104 rfl ?_
              refine WQ_if_eq 112 dX3_faultInParts_106 rfl (fun c2083 => ?_) (fun c2083 => ?_)
              · have hok := Or.resolve_left p2073 (by rintro ⟨k, z1, z2, -⟩; omega)
                obtain ⟨-, S2, P2, hp2, hR2, hP2⟩ := hok
                have kk := prt_ok iB (by rw [← ech]; exact (SHP_ch c hc12 _ (by rw [List.getD_eq_getElem?_getD, List.getElem?_eq_getElem (by omega)]; exact List.getElem_mem _))) hp2
                have hi1 := tT_le B ip
                have hgo := prts_go (B := B) (n := n) (cl := c) (p := p1) (S := S1) (P := P1) (S2 := S2) (P2 := P2) (l := SHP c) (i := i) (by omega) (by rw [ech]; exact hp2)
                refine WP_aload_n dX3_faultInParts_112 rfl ?_
                refine WP_getr dX3_faultInParts_113 fX3_15 rfl (lyx_is hy 3 3 rfl) (rfx hr 3 2 1 (by decide)) ?_
                refine WP_callV0 (k := 5) dX3_faultInParts_116 ⟨⟨⟨by decide, by decide⟩, zX5_next⟩, lX3_40, by decide, rfl, vX5_next.1, vX5_next.2⟩ (lyx_is hy 1 5 rfl) (ex_next hy hr   hT2 hn (hC2.2.1) hi1.2) (Nat.le_of_ble_eq_true rfl) ?_
                intro r I2086 J2087 Ra hq
                obtain ⟨ec, g2088, g2089, er, p2085⟩ := hq
                rw [ec, er]
                clear ec er Ra r
                have fI2091 : FC g [1, 4] I I2086 := FC_tr fI2082 (FC_mono g2088 (by decide))
                have fJ2092 : FC g [1, 20] J J2087 := FC_tr fJ2083 (FC_mono g2089 (by decide))
                obtain ⟨w2093, ew2093⟩ : ∃ w : Int32, I2086 (ad g 1) 2 = w := ⟨_, rfl⟩
                obtain ⟨w2094, ew2094⟩ : ∃ w : Int32, I2086 (ad g 1) 3 = w := ⟨_, rfl⟩
                try simp only [ew2093, ew2094, ew2040, ew2041] at p2085
                refine WP_iinc (ls' := [(0, _), (1, _), (2, _), (3, _), (4, _), (5, _), (6, _), (7, _)]) dX3_faultInParts_119 rfl (by decide) rfl ?_
                have hv2095 : (i2044 + Int32.ofInt (1)).toInt = i2044.toInt + (1) := ia_n rfl (by omega) (by omega)
                generalize i2044 + Int32.ofInt (1) = v2095 at hv2095 ⊢
                refine WP_goto 8 dX3_faultInParts_122 rfl ?_
                refine WP_sub (fc rfl (fc rfl (fc rfl (fc rfl (fc rfl fn))))) (ihlp2050 v2095 I2086 J2087 fI2091 fJ2092 ?_ ?_)
                · try simp only [ew2093, ew2094, ew2040, ew2041]
                  have hf1 := p2085.1
                  have hbz : SBn S2 := by unfold SBn; rw [kk.1 1, kk.1 2]; exact iB
                  refine ⟨i + 1, tT B n p1, S2, P2, by omega, by omega, hi1.2, p2085.1, p2085.2, ?_, hbz, ?_, ?_, ?_, ?_, ?_⟩
                  · exact RTX_fr hy (by decide) hR2 g2088 g2089 (by decide) (by decide)
                  · exact PRX_fr hy hP2 g2088 (by decide)
                  · rw [← hgo]; exact iE
                  · rw [kk.1 1]; exact i1
                  · rw [kk.1 2]; exact i2
                  · intro h1 h2
                    by_cases e : i = 0
                    · subst e
                      have hg := kk.2.2.2.2
                      unfold gdP at hg
                      unfold SBn at iB
                      rcases tbl.2.2.2.2.2.2 rfl h1 with e1 | e1
                      · have := hg.1 e1; omega
                      · have := hg.2.1 e1; omega
                    · rw [kk.2.2.2.1 0 (by omega)]; exact i0 h1 (by omega)
                · try simp only [ew2093, ew2094, ew2040, ew2041]
                  omega
              · refine WP_iload dX3_faultInParts_109 rfl ?_
                exact WP_iret dX3_faultInParts_111 rfl ⟨rfl, fI2082, fJ2083, v2074, rfl, by
                  try simp only [e2080, e2081, ew2040, ew2041]
                  rcases p2073 with ⟨k, z1, z2, z3⟩ | ⟨z1, -⟩
                  · refine Or.inl ⟨k, tF B n p1, by omega, z2, ?_, ?_, hT2⟩
                    · apply clz_er
                      rw [← iE]
                      exact prts_er (by omega) (by rw [ech]; exact z3)
                    · exact c3
                  · exact absurd z1 (by omega)⟩
            · refine WQ_iconst (1) (1) dX3_faultInParts_72 rfl rfl (fun v2096 hv2096 => ?_)
              exact WP_iret dX3_faultInParts_73 rfl ⟨rfl, fI2046, fJ2049, v2096, rfl, by
                try simp only [ew2051, ew2052, ew2040, ew2041]
                refine Or.inl ⟨1, tF B n p1, by omega, by decide, ?_, by omega, iT⟩
                apply clz_er
                rw [← iE]
                exact prts_er (by omega) (by rw [ech]; exact prt_x (by omega))⟩
          · refine WP_iload dX3_faultInParts_38 rfl ?_
            refine WQ_bipush (122) (122) dX3_faultInParts_40 rfl rfl (fun v2097 hv2097 => ?_)
            refine WQ_icmp_gt 49 dX3_faultInParts_42 rfl (fun c2097 => ?_) (fun c2097 => ?_)
            · refine WQ_iconst (0) (0) dX3_faultInParts_49 rfl rfl (fun v2099 hv2099 => ?_)
              refine WP_istore (ls' := [(0, _), (1, _), (2, _), (3, _), (4, _), (5, _), (6, _)]) dX3_faultInParts_50 (by decide) rfl ?_
              refine WP_aload_n dX3_faultInParts_52 rfl ?_
              refine WP_getr dX3_faultInParts_53 fX3_15 rfl (lyx_is hy 3 3 rfl) (rfx hr 3 2 1 (by decide)) ?_
              refine WQ_getim dX3_faultInParts_56 fX3_43 rfl (lyx_is hy 1 5 rfl) ew2051 ?_
              refine WP_iload dX3_faultInParts_59 rfl ?_
              refine WQ_if_eq 68 dX3_faultInParts_61 rfl (fun c2099 => ?_) (fun c2099 => False.elim (by omega))
              refine WQ_iconst (2) (2) dX3_faultInParts_68 rfl rfl (fun v2101 hv2101 => ?_)
              refine WQ_icmp_eq 74 dX3_faultInParts_69 rfl (fun c2101 => ?_) (fun c2101 => ?_)
              · refine WP_iload dX3_faultInParts_74 rfl ?_
                refine WQ_if_eq 92 dX3_faultInParts_76 rfl (fun c2102 => ?_) (fun c2102 => False.elim (by omega))
                refine WP_aload_n dX3_faultInParts_92 rfl ?_
                refine WP_iload dX3_faultInParts_93 rfl ?_
                refine WP_iload_n dX3_faultInParts_95 rfl ?_
                refine WP_iload dX3_faultInParts_96 rfl ?_
                refine WP_aload_n dX3_faultInParts_98 rfl ?_
                refine WP_callV4 (k := 3) dX3_faultInParts_99 ⟨⟨⟨by decide, by decide⟩, zX3_faultOfNumber⟩, lX3_100, by decide, rfl, vX3_faultOfNumber.1, vX3_faultOfNumber.2⟩ (lyx_is hy 3 3 rfl) (ex_fnua hy hr _ _ _  (B := B) (n := n) (p := p1) (c := c) (i := i) (ch := ch) (S := S1) (P := P1) hch hcl hc12 (by omega) (by omega) iC iR iB iP (by omega) (by omega) (by intro z1 z2; have z3 := tbl.2.2.2.2.2.1 z1 z2; exact ⟨z3.1, (by unfold loP; rw [if_neg (by omega)]), i0 z3.2 z3.1⟩)) (Nat.le_of_ble_eq_true rfl) ?_
                intro r I2106 J2107 Ra hq
                obtain ⟨ec, g2108, g2109, v2105, er, p2104⟩ := hq
                rw [ec, er]
                clear ec er Ra r
                have e2111 : I2106 (ad g 1) 2 = w2051 := by rw [FCx_at hy g2108 1 (by decide) (by decide)]; exact ew2051
                have e2112 : I2106 (ad g 1) 3 = w2052 := by rw [FCx_at hy g2108 1 (by decide) (by decide)]; exact ew2052
                have fI2113 : FC g [1, 4] I I2106 := FC_tr fI2046 (FC_mono g2108 (by decide))
                have fJ2114 : FC g [1, 20] J J2107 := FC_tr fJ2049 (FC_mono g2109 (by decide))
                try simp only [e2111, e2112, ew2040, ew2041] at p2104
                refine WP_istore (ls' := [(0, _), (1, _), (2, _), (3, _), (4, _), (5, _), (6, _), (7, _)]) dX3_faultInParts_102 (by decide) rfl ?_
                have hT2 := TPX_fr hy iT g2108 (by decide)
                have hC2 := CUX_fr hy iC g2108 g2109 (by decide) (by decide)
                refine WP_iload dX3_faultInParts_104 rfl ?_
                refine WQ_if_eq 112 dX3_faultInParts_106 rfl (fun c2114 => ?_) (fun c2114 => ?_)
                · have hok := Or.resolve_left p2104 (by rintro ⟨k, z1, z2, -⟩; omega)
                  obtain ⟨-, S2, P2, hp2, hR2, hP2⟩ := hok
                  have kk := prt_ok iB (by rw [← ech]; exact (SHP_ch c hc12 _ (by rw [List.getD_eq_getElem?_getD, List.getElem?_eq_getElem (by omega)]; exact List.getElem_mem _))) hp2
                  have hi1 := tT_le B ip
                  have hgo := prts_go (B := B) (n := n) (cl := c) (p := p1) (S := S1) (P := P1) (S2 := S2) (P2 := P2) (l := SHP c) (i := i) (by omega) (by rw [ech]; exact hp2)
                  refine WP_aload_n dX3_faultInParts_112 rfl ?_
                  refine WP_getr dX3_faultInParts_113 fX3_15 rfl (lyx_is hy 3 3 rfl) (rfx hr 3 2 1 (by decide)) ?_
                  refine WP_callV0 (k := 5) dX3_faultInParts_116 ⟨⟨⟨by decide, by decide⟩, zX5_next⟩, lX3_40, by decide, rfl, vX5_next.1, vX5_next.2⟩ (lyx_is hy 1 5 rfl) (ex_next hy hr   hT2 hn (hC2.2.1) hi1.2) (Nat.le_of_ble_eq_true rfl) ?_
                  intro r I2117 J2118 Ra hq
                  obtain ⟨ec, g2119, g2120, er, p2116⟩ := hq
                  rw [ec, er]
                  clear ec er Ra r
                  have fI2122 : FC g [1, 4] I I2117 := FC_tr fI2113 (FC_mono g2119 (by decide))
                  have fJ2123 : FC g [1, 20] J J2118 := FC_tr fJ2114 (FC_mono g2120 (by decide))
                  obtain ⟨w2124, ew2124⟩ : ∃ w : Int32, I2117 (ad g 1) 2 = w := ⟨_, rfl⟩
                  obtain ⟨w2125, ew2125⟩ : ∃ w : Int32, I2117 (ad g 1) 3 = w := ⟨_, rfl⟩
                  try simp only [ew2124, ew2125, ew2040, ew2041] at p2116
                  refine WP_iinc (ls' := [(0, _), (1, _), (2, _), (3, _), (4, _), (5, _), (6, _), (7, _)]) dX3_faultInParts_119 rfl (by decide) rfl ?_
                  have hv2126 : (i2044 + Int32.ofInt (1)).toInt = i2044.toInt + (1) := ia_n rfl (by omega) (by omega)
                  generalize i2044 + Int32.ofInt (1) = v2126 at hv2126 ⊢
                  refine WP_goto 8 dX3_faultInParts_122 rfl ?_
                  refine WP_sub (fc rfl (fc rfl (fc rfl (fc rfl (fc rfl fn))))) (ihlp2050 v2126 I2117 J2118 fI2122 fJ2123 ?_ ?_)
                  · try simp only [ew2124, ew2125, ew2040, ew2041]
                    have hf1 := p2116.1
                    have hbz : SBn S2 := by unfold SBn; rw [kk.1 1, kk.1 2]; exact iB
                    refine ⟨i + 1, tT B n p1, S2, P2, by omega, by omega, hi1.2, p2116.1, p2116.2, ?_, hbz, ?_, ?_, ?_, ?_, ?_⟩
                    · exact RTX_fr hy (by decide) hR2 g2119 g2120 (by decide) (by decide)
                    · exact PRX_fr hy hP2 g2119 (by decide)
                    · rw [← hgo]; exact iE
                    · rw [kk.1 1]; exact i1
                    · rw [kk.1 2]; exact i2
                    · intro h1 h2
                      by_cases e : i = 0
                      · subst e
                        have hg := kk.2.2.2.2
                        unfold gdP at hg
                        unfold SBn at iB
                        rcases tbl.2.2.2.2.2.2 rfl h1 with e1 | e1
                        · have := hg.1 e1; omega
                        · have := hg.2.1 e1; omega
                      · rw [kk.2.2.2.1 0 (by omega)]; exact i0 h1 (by omega)
                  · try simp only [ew2124, ew2125, ew2040, ew2041]
                    omega
                · refine WP_iload dX3_faultInParts_109 rfl ?_
                  exact WP_iret dX3_faultInParts_111 rfl ⟨rfl, fI2113, fJ2114, v2105, rfl, by
                    try simp only [e2111, e2112, ew2040, ew2041]
                    rcases p2104 with ⟨k, z1, z2, z3⟩ | ⟨z1, -⟩
                    · refine Or.inl ⟨k, tF B n p1, by omega, z2, ?_, ?_, hT2⟩
                      · apply clz_er
                        rw [← iE]
                        exact prts_er (by omega) (by rw [ech]; exact z3)
                      · exact c3
                    · exact absurd z1 (by omega)⟩
              · refine WQ_iconst (1) (1) dX3_faultInParts_72 rfl rfl (fun v2127 hv2127 => ?_)
                exact WP_iret dX3_faultInParts_73 rfl ⟨rfl, fI2046, fJ2049, v2127, rfl, by
                  try simp only [ew2051, ew2052, ew2040, ew2041]
                  refine Or.inl ⟨1, tF B n p1, by omega, by decide, ?_, by omega, iT⟩
                  apply clz_er
                  rw [← iE]
                  exact prts_er (by omega) (by rw [ech]; exact prt_x (by omega))⟩
            · refine WQ_iconst (1) (1) dX3_faultInParts_45 rfl rfl (fun v2128 hv2128 => ?_)
              refine WP_goto 50 dX3_faultInParts_46 rfl ?_
              refine WP_istore (ls' := [(0, _), (1, _), (2, _), (3, _), (4, _), (5, _), (6, _)]) dX3_faultInParts_50 (by decide) rfl ?_
              refine WP_aload_n dX3_faultInParts_52 rfl ?_
              refine WP_getr dX3_faultInParts_53 fX3_15 rfl (lyx_is hy 3 3 rfl) (rfx hr 3 2 1 (by decide)) ?_
              refine WQ_getim dX3_faultInParts_56 fX3_43 rfl (lyx_is hy 1 5 rfl) ew2051 ?_
              refine WP_iload dX3_faultInParts_59 rfl ?_
              refine WQ_if_eq 68 dX3_faultInParts_61 rfl (fun c2128 => False.elim (by omega)) (fun c2128 => ?_)
              refine WQ_iconst (1) (1) dX3_faultInParts_64 rfl rfl (fun v2130 hv2130 => ?_)
              refine WP_goto 69 dX3_faultInParts_65 rfl ?_
              refine WQ_icmp_eq 74 dX3_faultInParts_69 rfl (fun c2130 => ?_) (fun c2130 => ?_)
              · refine WP_iload dX3_faultInParts_74 rfl ?_
                refine WQ_if_eq 92 dX3_faultInParts_76 rfl (fun c2131 => False.elim (by omega)) (fun c2131 => ?_)
                refine WP_aload_n dX3_faultInParts_79 rfl ?_
                refine WP_iload dX3_faultInParts_80 rfl ?_
                refine WP_iload_n dX3_faultInParts_82 rfl ?_
                refine WP_iload dX3_faultInParts_83 rfl ?_
                refine WP_aload_n dX3_faultInParts_85 rfl ?_
                refine WP_callV4 (k := 3) dX3_faultInParts_86 ⟨⟨⟨by decide, by decide⟩, zX3_faultOfName⟩, lX3_96, by decide, rfl, vX3_faultOfName.1, vX3_faultOfName.2⟩ (lyx_is hy 3 3 rfl) (ex_fona hy hr _ _ _  (B := B) (n := n) (p := p1) (c := c) (i := i) (ch := ch) (S := S1) (P := P1) hch hcl hc12 (by omega) (by omega) iC iR iB iP (by omega) (by omega) (by intro z; rw [i1]; exact hr1 (tbl.2.2.1 z)) (by intro z; rw [i2]; exact hr2 (tbl.2.2.2.1 z)) tbl.2.1 tbl.2.2.2.2.1) (Nat.le_of_ble_eq_true rfl) ?_
                intro r I2135 J2136 Ra hq
                obtain ⟨ec, g2137, g2138, v2134, er, p2133⟩ := hq
                rw [ec, er]
                clear ec er Ra r
                have e2140 : I2135 (ad g 1) 2 = w2051 := by rw [FCx_at hy g2137 1 (by decide) (by decide)]; exact ew2051
                have e2141 : I2135 (ad g 1) 3 = w2052 := by rw [FCx_at hy g2137 1 (by decide) (by decide)]; exact ew2052
                have fI2142 : FC g [1, 4] I I2135 := FC_tr fI2046 (FC_mono g2137 (by decide))
                have fJ2143 : FC g [1, 20] J J2136 := FC_tr fJ2049 (FC_mono g2138 (by decide))
                try simp only [e2140, e2141, ew2040, ew2041] at p2133
                refine WP_goto 102 dX3_faultInParts_89 rfl ?_
                refine WP_istore (ls' := [(0, _), (1, _), (2, _), (3, _), (4, _), (5, _), (6, _), (7, _)]) dX3_faultInParts_102 (by decide) rfl ?_
                have hT2 := TPX_fr hy iT g2137 (by decide)
                have hC2 := CUX_fr hy iC g2137 g2138 (by decide) (by decide)
                refine WP_iload dX3_faultInParts_104 rfl ?_
                refine WQ_if_eq 112 dX3_faultInParts_106 rfl (fun c2143 => ?_) (fun c2143 => ?_)
                · have hok := Or.resolve_left p2133 (by rintro ⟨k, z1, z2, -⟩; omega)
                  obtain ⟨-, S2, P2, hp2, hR2, hP2⟩ := hok
                  have kk := prt_ok iB (by rw [← ech]; exact (SHP_ch c hc12 _ (by rw [List.getD_eq_getElem?_getD, List.getElem?_eq_getElem (by omega)]; exact List.getElem_mem _))) hp2
                  have hi1 := tT_le B ip
                  have hgo := prts_go (B := B) (n := n) (cl := c) (p := p1) (S := S1) (P := P1) (S2 := S2) (P2 := P2) (l := SHP c) (i := i) (by omega) (by rw [ech]; exact hp2)
                  refine WP_aload_n dX3_faultInParts_112 rfl ?_
                  refine WP_getr dX3_faultInParts_113 fX3_15 rfl (lyx_is hy 3 3 rfl) (rfx hr 3 2 1 (by decide)) ?_
                  refine WP_callV0 (k := 5) dX3_faultInParts_116 ⟨⟨⟨by decide, by decide⟩, zX5_next⟩, lX3_40, by decide, rfl, vX5_next.1, vX5_next.2⟩ (lyx_is hy 1 5 rfl) (ex_next hy hr   hT2 hn (hC2.2.1) hi1.2) (Nat.le_of_ble_eq_true rfl) ?_
                  intro r I2146 J2147 Ra hq
                  obtain ⟨ec, g2148, g2149, er, p2145⟩ := hq
                  rw [ec, er]
                  clear ec er Ra r
                  have fI2151 : FC g [1, 4] I I2146 := FC_tr fI2142 (FC_mono g2148 (by decide))
                  have fJ2152 : FC g [1, 20] J J2147 := FC_tr fJ2143 (FC_mono g2149 (by decide))
                  obtain ⟨w2153, ew2153⟩ : ∃ w : Int32, I2146 (ad g 1) 2 = w := ⟨_, rfl⟩
                  obtain ⟨w2154, ew2154⟩ : ∃ w : Int32, I2146 (ad g 1) 3 = w := ⟨_, rfl⟩
                  try simp only [ew2153, ew2154, ew2040, ew2041] at p2145
                  refine WP_iinc (ls' := [(0, _), (1, _), (2, _), (3, _), (4, _), (5, _), (6, _), (7, _)]) dX3_faultInParts_119 rfl (by decide) rfl ?_
                  have hv2155 : (i2044 + Int32.ofInt (1)).toInt = i2044.toInt + (1) := ia_n rfl (by omega) (by omega)
                  generalize i2044 + Int32.ofInt (1) = v2155 at hv2155 ⊢
                  refine WP_goto 8 dX3_faultInParts_122 rfl ?_
                  refine WP_sub (fc rfl (fc rfl (fc rfl (fc rfl (fc rfl fn))))) (ihlp2050 v2155 I2146 J2147 fI2151 fJ2152 ?_ ?_)
                  · try simp only [ew2153, ew2154, ew2040, ew2041]
                    have hf1 := p2145.1
                    have hbz : SBn S2 := by unfold SBn; rw [kk.1 1, kk.1 2]; exact iB
                    refine ⟨i + 1, tT B n p1, S2, P2, by omega, by omega, hi1.2, p2145.1, p2145.2, ?_, hbz, ?_, ?_, ?_, ?_, ?_⟩
                    · exact RTX_fr hy (by decide) hR2 g2148 g2149 (by decide) (by decide)
                    · exact PRX_fr hy hP2 g2148 (by decide)
                    · rw [← hgo]; exact iE
                    · rw [kk.1 1]; exact i1
                    · rw [kk.1 2]; exact i2
                    · intro h1 h2
                      by_cases e : i = 0
                      · subst e
                        have hg := kk.2.2.2.2
                        unfold gdP at hg
                        unfold SBn at iB
                        rcases tbl.2.2.2.2.2.2 rfl h1 with e1 | e1
                        · have := hg.1 e1; omega
                        · have := hg.2.1 e1; omega
                      · rw [kk.2.2.2.1 0 (by omega)]; exact i0 h1 (by omega)
                  · try simp only [ew2153, ew2154, ew2040, ew2041]
                    omega
                · refine WP_iload dX3_faultInParts_109 rfl ?_
                  exact WP_iret dX3_faultInParts_111 rfl ⟨rfl, fI2142, fJ2143, v2134, rfl, by
                    try simp only [e2140, e2141, ew2040, ew2041]
                    rcases p2133 with ⟨k, z1, z2, z3⟩ | ⟨z1, -⟩
                    · refine Or.inl ⟨k, tF B n p1, by omega, z2, ?_, ?_, hT2⟩
                      · apply clz_er
                        rw [← iE]
                        exact prts_er (by omega) (by rw [ech]; exact z3)
                      · exact c3
                    · exact absurd z1 (by omega)⟩
              · refine WQ_iconst (1) (1) dX3_faultInParts_72 rfl rfl (fun v2156 hv2156 => ?_)
                exact WP_iret dX3_faultInParts_73 rfl ⟨rfl, fI2046, fJ2049, v2156, rfl, by
                  try simp only [ew2051, ew2052, ew2040, ew2041]
                  refine Or.inl ⟨1, tF B n p1, by omega, by decide, ?_, by omega, iT⟩
                  apply clz_er
                  rw [← iE]
                  exact prts_er (by omega) (by rw [ech]; exact prt_x (by omega))⟩
  refine WP_sub (fc rfl (fc rfl (fc rfl (fc rfl (fc rfl fn))))) (lp2050 _ v2043 I J fI0 fJ0 ?_ (Nat.lt_succ_self _))
  · try simp only [ew2040, ew2041]
    refine ⟨0, p, S, fun _ => 0, by omega, by omega, hp, ?_, ?_, ?_, hB, fun j h1 h2 => absurd h2 (by omega), rfl, rfl, rfl, fun _ h => absurd h (by omega)⟩
    · exact hT
    · exact hC
    · exact hR
set_option maxHeartbeats 4000000 in
set_option maxRecDepth 100000 in
theorem ex_fipb {g : GG} {I : pI} {J : pJ} {R : pR} (hy : LyX g) (hr : RfX g R) {aK aV : Nat → Nat} {fo : Option Nat} (hz : HZ g aK aV fo) {B : Nat → Int} {n p c : Nat} {S : TwS} (cl : Int32) (hcl : cl.toInt = (c : Int)) (hc12 : c < 12) (hn : n ≤ 900) (hp : p ≤ n) (hT : TPX g B n I) (hC : CUX g B n p I J) (hR : RTX g 27 S I J) (hB : SBn S) (hr1 : c = 1 → S.1 0 1 < 4) (hr2 : c = 2 → S.1 0 2 < 3) : SP g mX3_faultInParts [.ref (ad g 3), .int cl, .ref (ad g 27)] I J R (fun r I' J' R' => R' = R ∧ FC g [1, 4] I I' ∧ FC g [1, 41] J J' ∧ ∃ v : Int32, r = some (.int v) ∧ ((∃ k pl : Nat, v.toInt = (k : Int) ∧ k ≠ 0 ∧ clz B n c p S = .error (k, pl) ∧ (I' (ad g 1) 3).toInt = (pl : Int) ∧ TPX g B n I') ∨ (v.toInt = 0 ∧ ∃ S2 P2 p2, clz B n c p S = .ok (S2, P2, p2) ∧ RTX g 27 S2 I' J' ∧ PRX g P2 (loP c) (SHP c).length I' ∧ TPX g B n I' ∧ CUX g B n p2 I' J'))) := by
  refine SP_of ⟨by decide, rfl⟩ (Nat.le_of_ble_eq_true rfl) ?_
  have fI0 : FC g [1, 4] I I := FC_rf
  have fJ0 : FC g [1, 41] J J := FC_rf
  obtain ⟨w2157, ew2157⟩ : ∃ w : Int32, I (ad g 1) 2 = w := ⟨_, rfl⟩
  obtain ⟨w2158, ew2158⟩ : ∃ w : Int32, I (ad g 1) 3 = w := ⟨_, rfl⟩
  have hln := (LB_s c hc12).1
  have hl5 := SHP_5 c hc12
  refine WP_iload_n dX3_faultInParts_0 rfl ?_
  refine WP_callS1 dX3_faultInParts_1 ⟨⟨⟨by decide, by decide⟩, zX3_shapeOf⟩, lX3_84, tX3_shapeOf⟩ (ex_shapeOf hy hr hz _  hcl hc12) (Nat.le_of_ble_eq_true rfl) ?_
  intro r Ia Ja Ra hq
  obtain ⟨⟨ea, eb, ec⟩, er, p2159⟩ := hq
  rw [ea, eb, ec, er]
  clear ea eb ec er Ia Ja Ra r
  refine WP_astore_n (ls' := [(0, _), (1, _), (2, _), (3, _)]) dX3_faultInParts_4 (by decide) rfl ?_
  refine WQ_iconst (0) (0) dX3_faultInParts_5 rfl rfl (fun v2160 hv2160 => ?_)
  refine WP_istore (ls' := [(0, _), (1, _), (2, _), (3, _), (4, _)]) dX3_faultInParts_6 (by decide) rfl ?_
  have lp2167 : ∀ (mz : Nat) (i2161 : Int32) (I2162 : pI) (J2165 : pJ), FC g [1, 4] I I2162 → FC g [1, 41] J J2165 → (∃ (i p1 : Nat) (S1 : TwS) (P1 : Nat → Int), i2161.toInt = (i : Int) ∧ i ≤ (SHP c).length ∧ p1 ≤ n ∧ TPX g B n I2162 ∧ CUX g B n p1 I2162 J2165 ∧ RTX g 27 S1 I2162 J2165 ∧ SBn S1 ∧ PRX g P1 (loP c) i I2162 ∧ prts B n c ((SHP c).drop i) i p1 S1 P1 = prts B n c (SHP c) 0 p S (fun _ => 0) ∧ S1.1 0 1 = S.1 0 1 ∧ S1.1 0 2 = S.1 0 2 ∧ ((c = 3 ∨ c = 4 ∨ c = 5 ∨ c = 6 ∨ c = 10) → 1 ≤ i → 0 ≤ P1 0 ∧ P1 0 < 4)) → (6 - i2161.toInt.toNat) < mz → WP g mX3_faultInParts 8 [(0, .ref (ad g 3)), (1, .int cl), (2, .ref (ad g 27)), (3, .ref (aK (10 + c))), (4, .int i2161)] [] I2162 J2165 R (fun r I' J' R' => R' = R ∧ FC g [1, 4] I I' ∧ FC g [1, 41] J J' ∧ ∃ v : Int32, r = some (.int v) ∧ ((∃ k pl : Nat, v.toInt = (k : Int) ∧ k ≠ 0 ∧ clz B n c p S = .error (k, pl) ∧ (I' (ad g 1) 3).toInt = (pl : Int) ∧ TPX g B n I') ∨ (v.toInt = 0 ∧ ∃ S2 P2 p2, clz B n c p S = .ok (S2, P2, p2) ∧ RTX g 27 S2 I' J' ∧ PRX g P2 (loP c) (SHP c).length I' ∧ TPX g B n I' ∧ CUX g B n p2 I' J'))) := by
    intro mz
    induction mz with
    | zero =>
      intro i2161 I2162 J2165 fI2163 fJ2166 hvlp2167 hmlp2167
      exact absurd hmlp2167 (Nat.not_lt_zero _)
    | succ mz ihlp2167 =>
      intro i2161 I2162 J2165 fI2163 fJ2166 hvlp2167 hmlp2167
      obtain ⟨w2168, ew2168⟩ : ∃ w : Int32, I2162 (ad g 1) 2 = w := ⟨_, rfl⟩
      obtain ⟨w2169, ew2169⟩ : ∃ w : Int32, I2162 (ad g 1) 3 = w := ⟨_, rfl⟩
      try simp only [ew2168, ew2169, ew2157, ew2158] at hvlp2167 hmlp2167
      obtain ⟨i, p1, S1, P1, ii, il, ip, iT, iC, iR, iB, iP, iE, i1, i2, i0⟩ := hvlp2167
      have c2 := iC.2.2.1
      have c3 := iC.1
      try simp only [ew2168] at c2
      try simp only [ew2169] at c3
      refine WP_iload dX3_faultInParts_8 rfl ?_
      refine WP_aload_n dX3_faultInParts_10 rfl ?_
      refine WS_call hz (i := 10 + c) (by omega) dX3_faultInParts_11 ⟨⟨by decide, by decide⟩, zJ0_length_8abf5⟩ lX3_87 vJ0_length_8abf5 (As := []) (rest := [.int i2161]) (j_length hz (i := 10 + c) (by omega)) rfl rfl (Nat.le_of_ble_eq_true rfl) ?_
      intro r Ia Ja Ra hq
      obtain ⟨⟨ea, eb, ec⟩, v2170, rfl, cv2170⟩ := hq
      show WP _ _ _ _ (.int _ :: _) _ _ _ _
      rw [ea, eb, ec]
      clear ea eb ec Ia Ja Ra
      have lv2170 := (li_len (10 + c) (by omega)).2.2
      refine WQ_icmp_ge 125 dX3_faultInParts_14 rfl (fun c2170 => ?_) (fun c2170 => ?_)
      · refine WP_aload_n dX3_faultInParts_125 rfl ?_
        refine WP_getr dX3_faultInParts_126 fX3_15 rfl (lyx_is hy 3 3 rfl) (rfx hr 3 2 1 (by decide)) ?_
        refine WQ_getim dX3_faultInParts_129 fX3_43 rfl (lyx_is hy 1 5 rfl) ew2168 ?_
        refine WQ_iconst (3) (3) dX3_faultInParts_132 rfl rfl (fun v2172 hv2172 => ?_)
        refine WQ_icmp_ne 140 dX3_faultInParts_133 rfl (fun c2172 => ?_) (fun c2172 => ?_)
        · refine WQ_iconst (1) (1) dX3_faultInParts_140 rfl rfl (fun v2174 hv2174 => ?_)
          exact WP_iret dX3_faultInParts_141 rfl ⟨rfl, fI2163, fJ2166, v2174, rfl, by
            try simp only [ew2168, ew2169, ew2157, ew2158]
            have hz9 := clz_go (B := B) (n := n) (cl := c) (p := p) (S := S) (S2 := S1) (P2 := P1) (p2 := p1) (by rw [← iE]; exact prts_nil (by omega))
            first
            | (refine Or.inr ⟨by omega, S1, P1, p1, ?_, iR, (by rw [show (SHP c).length = i by omega]; exact iP), iT, iC⟩; rw [hz9, if_neg (by omega)])
            | (refine Or.inl ⟨1, tF B n p1, by omega, by decide, ?_, by omega, iT⟩; rw [hz9, if_pos (by omega)])⟩
        · refine WQ_iconst (0) (0) dX3_faultInParts_136 rfl rfl (fun v2175 hv2175 => ?_)
          refine WP_goto 141 dX3_faultInParts_137 rfl ?_
          exact WP_iret dX3_faultInParts_141 rfl ⟨rfl, fI2163, fJ2166, v2175, rfl, by
            try simp only [ew2168, ew2169, ew2157, ew2158]
            have hz9 := clz_go (B := B) (n := n) (cl := c) (p := p) (S := S) (S2 := S1) (P2 := P1) (p2 := p1) (by rw [← iE]; exact prts_nil (by omega))
            first
            | (refine Or.inr ⟨by omega, S1, P1, p1, ?_, iR, (by rw [show (SHP c).length = i by omega]; exact iP), iT, iC⟩; rw [hz9, if_neg (by omega)])
            | (refine Or.inl ⟨1, tF B n p1, by omega, by decide, ?_, by omega, iT⟩; rw [hz9, if_pos (by omega)])⟩
      · refine WP_iload dX3_faultInParts_17 rfl ?_
        refine WQ_iconst (5) (5) dX3_faultInParts_19 rfl rfl (fun v2176 hv2176 => ?_)
        refine WQ_icmp_ge 125 dX3_faultInParts_20 rfl (fun c2176 => ?_) (fun c2176 => ?_)
        · refine WP_aload_n dX3_faultInParts_125 rfl ?_
          refine WP_getr dX3_faultInParts_126 fX3_15 rfl (lyx_is hy 3 3 rfl) (rfx hr 3 2 1 (by decide)) ?_
          refine WQ_getim dX3_faultInParts_129 fX3_43 rfl (lyx_is hy 1 5 rfl) ew2168 ?_
          refine WQ_iconst (3) (3) dX3_faultInParts_132 rfl rfl (fun v2178 hv2178 => ?_)
          refine WQ_icmp_ne 140 dX3_faultInParts_133 rfl (fun c2178 => ?_) (fun c2178 => ?_)
          · refine WQ_iconst (1) (1) dX3_faultInParts_140 rfl rfl (fun v2180 hv2180 => ?_)
            exact WP_iret dX3_faultInParts_141 rfl ⟨rfl, fI2163, fJ2166, v2180, rfl, by
              try simp only [ew2168, ew2169, ew2157, ew2158]
              have hz9 := clz_go (B := B) (n := n) (cl := c) (p := p) (S := S) (S2 := S1) (P2 := P1) (p2 := p1) (by rw [← iE]; exact prts_nil (by omega))
              first
              | (refine Or.inr ⟨by omega, S1, P1, p1, ?_, iR, (by rw [show (SHP c).length = i by omega]; exact iP), iT, iC⟩; rw [hz9, if_neg (by omega)])
              | (refine Or.inl ⟨1, tF B n p1, by omega, by decide, ?_, by omega, iT⟩; rw [hz9, if_pos (by omega)])⟩
          · refine WQ_iconst (0) (0) dX3_faultInParts_136 rfl rfl (fun v2181 hv2181 => ?_)
            refine WP_goto 141 dX3_faultInParts_137 rfl ?_
            exact WP_iret dX3_faultInParts_141 rfl ⟨rfl, fI2163, fJ2166, v2181, rfl, by
              try simp only [ew2168, ew2169, ew2157, ew2158]
              have hz9 := clz_go (B := B) (n := n) (cl := c) (p := p) (S := S) (S2 := S1) (P2 := P1) (p2 := p1) (by rw [← iE]; exact prts_nil (by omega))
              first
              | (refine Or.inr ⟨by omega, S1, P1, p1, ?_, iR, (by rw [show (SHP c).length = i by omega]; exact iP), iT, iC⟩; rw [hz9, if_neg (by omega)])
              | (refine Or.inl ⟨1, tF B n p1, by omega, by decide, ?_, by omega, iT⟩; rw [hz9, if_pos (by omega)])⟩
        · refine WP_aload_n dX3_faultInParts_23 rfl ?_
          refine WP_iload dX3_faultInParts_24 rfl ?_
          refine WS_call hz (i := 10 + c) (by omega) dX3_faultInParts_26 ⟨⟨by decide, by decide⟩, zJ0_charAt_5068e⟩ lX3_92 vJ0_charAt_5068e (As := [.int i2161]) (rest := []) (j_charAt hz (i := 10 + c) (k := i2161) (by omega) (by omega) (by omega)) rfl rfl (Nat.le_of_ble_eq_true rfl) ?_
          intro r Ia Ja Ra hq
          obtain ⟨⟨ea, eb, ec⟩, v2182, rfl, cv2182⟩ := hq
          show WP _ _ _ _ (.int _ :: _) _ _ _ _
          rw [ea, eb, ec]
          clear ea eb ec Ia Ja Ra
          refine WP_istore (ls' := [(0, _), (1, _), (2, _), (3, _), (4, _), (5, _)]) dX3_faultInParts_29 (by decide) rfl ?_
          obtain ⟨ch, ech⟩ : ∃ ch, (SHP c).getD i 0 = ch := ⟨_, rfl⟩
          have tbl := SHP_t hc12 (i := i) (by omega) ech
          have tb1 := tbl.1
          have hch : v2182.toInt = (ch : Int) := by
            have z := (LB_s c hc12).2 i (by omega)
            rw [ech] at z
            rw [← z, cv2182, show i2161.toInt.toNat = i by omega]
            rfl
          refine WP_iload dX3_faultInParts_31 rfl ?_
          refine WQ_bipush (97) (97) dX3_faultInParts_33 rfl rfl (fun v2183 hv2183 => ?_)
          refine WQ_icmp_lt 49 dX3_faultInParts_35 rfl (fun c2183 => ?_) (fun c2183 => ?_)
          · refine WQ_iconst (0) (0) dX3_faultInParts_49 rfl rfl (fun v2185 hv2185 => ?_)
            refine WP_istore (ls' := [(0, _), (1, _), (2, _), (3, _), (4, _), (5, _), (6, _)]) dX3_faultInParts_50 (by decide) rfl ?_
            refine WP_aload_n dX3_faultInParts_52 rfl ?_
            refine WP_getr dX3_faultInParts_53 fX3_15 rfl (lyx_is hy 3 3 rfl) (rfx hr 3 2 1 (by decide)) ?_
            refine WQ_getim dX3_faultInParts_56 fX3_43 rfl (lyx_is hy 1 5 rfl) ew2168 ?_
            refine WP_iload dX3_faultInParts_59 rfl ?_
            refine WQ_if_eq 68 dX3_faultInParts_61 rfl (fun c2185 => ?_) (fun c2185 => False.elim (by omega))
            refine WQ_iconst (2) (2) dX3_faultInParts_68 rfl rfl (fun v2187 hv2187 => ?_)
            refine WQ_icmp_eq 74 dX3_faultInParts_69 rfl (fun c2187 => ?_) (fun c2187 => ?_)
            · refine WP_iload dX3_faultInParts_74 rfl ?_
              refine WQ_if_eq 92 dX3_faultInParts_76 rfl (fun c2188 => ?_) (fun c2188 => False.elim (by omega))
              refine WP_aload_n dX3_faultInParts_92 rfl ?_
              refine WP_iload dX3_faultInParts_93 rfl ?_
              refine WP_iload_n dX3_faultInParts_95 rfl ?_
              refine WP_iload dX3_faultInParts_96 rfl ?_
              refine WP_aload_n dX3_faultInParts_98 rfl ?_
              refine WP_callV4 (k := 3) dX3_faultInParts_99 ⟨⟨⟨by decide, by decide⟩, zX3_faultOfNumber⟩, lX3_100, by decide, rfl, vX3_faultOfNumber.1, vX3_faultOfNumber.2⟩ (lyx_is hy 3 3 rfl) (ex_fnub hy hr _ _ _  (B := B) (n := n) (p := p1) (c := c) (i := i) (ch := ch) (S := S1) (P := P1) hch hcl hc12 (by omega) (by omega) iC iR iB iP (by omega) (by omega) (by intro z1 z2; have z3 := tbl.2.2.2.2.2.1 z1 z2; exact ⟨z3.1, (by unfold loP; rw [if_neg (by omega)]), i0 z3.2 z3.1⟩)) (Nat.le_of_ble_eq_true rfl) ?_
              intro r I2192 J2193 Ra hq
              obtain ⟨ec, g2194, g2195, v2191, er, p2190⟩ := hq
              rw [ec, er]
              clear ec er Ra r
              have e2197 : I2192 (ad g 1) 2 = w2168 := by rw [FCx_at hy g2194 1 (by decide) (by decide)]; exact ew2168
              have e2198 : I2192 (ad g 1) 3 = w2169 := by rw [FCx_at hy g2194 1 (by decide) (by decide)]; exact ew2169
              have fI2199 : FC g [1, 4] I I2192 := FC_tr fI2163 (FC_mono g2194 (by decide))
              have fJ2200 : FC g [1, 41] J J2193 := FC_tr fJ2166 (FC_mono g2195 (by decide))
              try simp only [e2197, e2198, ew2157, ew2158] at p2190
              refine WP_istore (ls' := [(0, _), (1, _), (2, _), (3, _), (4, _), (5, _), (6, _), (7, _)]) dX3_faultInParts_102 (by decide) rfl ?_
              have hT2 := TPX_fr hy iT g2194 (by decide)
              have hC2 := CUX_fr hy iC g2194 g2195 (by decide) (by decide)
              refine WP_iload dX3_faultInParts_104 rfl ?_
              refine WQ_if_eq 112 dX3_faultInParts_106 rfl (fun c2200 => ?_) (fun c2200 => ?_)
              · have hok := Or.resolve_left p2190 (by rintro ⟨k, z1, z2, -⟩; omega)
                obtain ⟨-, S2, P2, hp2, hR2, hP2⟩ := hok
                have kk := prt_ok iB (by rw [← ech]; exact (SHP_ch c hc12 _ (by rw [List.getD_eq_getElem?_getD, List.getElem?_eq_getElem (by omega)]; exact List.getElem_mem _))) hp2
                have hi1 := tT_le B ip
                have hgo := prts_go (B := B) (n := n) (cl := c) (p := p1) (S := S1) (P := P1) (S2 := S2) (P2 := P2) (l := SHP c) (i := i) (by omega) (by rw [ech]; exact hp2)
                refine WP_aload_n dX3_faultInParts_112 rfl ?_
                refine WP_getr dX3_faultInParts_113 fX3_15 rfl (lyx_is hy 3 3 rfl) (rfx hr 3 2 1 (by decide)) ?_
                refine WP_callV0 (k := 5) dX3_faultInParts_116 ⟨⟨⟨by decide, by decide⟩, zX5_next⟩, lX3_40, by decide, rfl, vX5_next.1, vX5_next.2⟩ (lyx_is hy 1 5 rfl) (ex_next hy hr   hT2 hn (hC2.2.1) hi1.2) (Nat.le_of_ble_eq_true rfl) ?_
                intro r I2203 J2204 Ra hq
                obtain ⟨ec, g2205, g2206, er, p2202⟩ := hq
                rw [ec, er]
                clear ec er Ra r
                have fI2208 : FC g [1, 4] I I2203 := FC_tr fI2199 (FC_mono g2205 (by decide))
                have fJ2209 : FC g [1, 41] J J2204 := FC_tr fJ2200 (FC_mono g2206 (by decide))
                obtain ⟨w2210, ew2210⟩ : ∃ w : Int32, I2203 (ad g 1) 2 = w := ⟨_, rfl⟩
                obtain ⟨w2211, ew2211⟩ : ∃ w : Int32, I2203 (ad g 1) 3 = w := ⟨_, rfl⟩
                try simp only [ew2210, ew2211, ew2157, ew2158] at p2202
                refine WP_iinc (ls' := [(0, _), (1, _), (2, _), (3, _), (4, _), (5, _), (6, _), (7, _)]) dX3_faultInParts_119 rfl (by decide) rfl ?_
                have hv2212 : (i2161 + Int32.ofInt (1)).toInt = i2161.toInt + (1) := ia_n rfl (by omega) (by omega)
                generalize i2161 + Int32.ofInt (1) = v2212 at hv2212 ⊢
                refine WP_goto 8 dX3_faultInParts_122 rfl ?_
                refine WP_sub (fc rfl (fc rfl (fc rfl (fc rfl (fc rfl fn))))) (ihlp2167 v2212 I2203 J2204 fI2208 fJ2209 ?_ ?_)
                · try simp only [ew2210, ew2211, ew2157, ew2158]
                  have hf1 := p2202.1
                  have hbz : SBn S2 := by unfold SBn; rw [kk.1 1, kk.1 2]; exact iB
                  refine ⟨i + 1, tT B n p1, S2, P2, by omega, by omega, hi1.2, p2202.1, p2202.2, ?_, hbz, ?_, ?_, ?_, ?_, ?_⟩
                  · exact RTX_fr hy (by decide) hR2 g2205 g2206 (by decide) (by decide)
                  · exact PRX_fr hy hP2 g2205 (by decide)
                  · rw [← hgo]; exact iE
                  · rw [kk.1 1]; exact i1
                  · rw [kk.1 2]; exact i2
                  · intro h1 h2
                    by_cases e : i = 0
                    · subst e
                      have hg := kk.2.2.2.2
                      unfold gdP at hg
                      unfold SBn at iB
                      rcases tbl.2.2.2.2.2.2 rfl h1 with e1 | e1
                      · have := hg.1 e1; omega
                      · have := hg.2.1 e1; omega
                    · rw [kk.2.2.2.1 0 (by omega)]; exact i0 h1 (by omega)
                · try simp only [ew2210, ew2211, ew2157, ew2158]
                  omega
              · refine WP_iload dX3_faultInParts_109 rfl ?_
                exact WP_iret dX3_faultInParts_111 rfl ⟨rfl, fI2199, fJ2200, v2191, rfl, by
                  try simp only [e2197, e2198, ew2157, ew2158]
                  rcases p2190 with ⟨k, z1, z2, z3⟩ | ⟨z1, -⟩
                  · refine Or.inl ⟨k, tF B n p1, by omega, z2, ?_, ?_, hT2⟩
                    · apply clz_er
                      rw [← iE]
                      exact prts_er (by omega) (by rw [ech]; exact z3)
                    · exact c3
                  · exact absurd z1 (by omega)⟩
            · refine WQ_iconst (1) (1) dX3_faultInParts_72 rfl rfl (fun v2213 hv2213 => ?_)
              exact WP_iret dX3_faultInParts_73 rfl ⟨rfl, fI2163, fJ2166, v2213, rfl, by
                try simp only [ew2168, ew2169, ew2157, ew2158]
                refine Or.inl ⟨1, tF B n p1, by omega, by decide, ?_, by omega, iT⟩
                apply clz_er
                rw [← iE]
                exact prts_er (by omega) (by rw [ech]; exact prt_x (by omega))⟩
          · refine WP_iload dX3_faultInParts_38 rfl ?_
            refine WQ_bipush (122) (122) dX3_faultInParts_40 rfl rfl (fun v2214 hv2214 => ?_)
            refine WQ_icmp_gt 49 dX3_faultInParts_42 rfl (fun c2214 => ?_) (fun c2214 => ?_)
            · refine WQ_iconst (0) (0) dX3_faultInParts_49 rfl rfl (fun v2216 hv2216 => ?_)
              refine WP_istore (ls' := [(0, _), (1, _), (2, _), (3, _), (4, _), (5, _), (6, _)]) dX3_faultInParts_50 (by decide) rfl ?_
              refine WP_aload_n dX3_faultInParts_52 rfl ?_
              refine WP_getr dX3_faultInParts_53 fX3_15 rfl (lyx_is hy 3 3 rfl) (rfx hr 3 2 1 (by decide)) ?_
              refine WQ_getim dX3_faultInParts_56 fX3_43 rfl (lyx_is hy 1 5 rfl) ew2168 ?_
              refine WP_iload dX3_faultInParts_59 rfl ?_
              refine WQ_if_eq 68 dX3_faultInParts_61 rfl (fun c2216 => ?_) (fun c2216 => False.elim (by omega))
              refine WQ_iconst (2) (2) dX3_faultInParts_68 rfl rfl (fun v2218 hv2218 => ?_)
              refine WQ_icmp_eq 74 dX3_faultInParts_69 rfl (fun c2218 => ?_) (fun c2218 => ?_)
              · refine WP_iload dX3_faultInParts_74 rfl ?_
                refine WQ_if_eq 92 dX3_faultInParts_76 rfl (fun c2219 => ?_) (fun c2219 => False.elim (by omega))
                refine WP_aload_n dX3_faultInParts_92 rfl ?_
                refine WP_iload dX3_faultInParts_93 rfl ?_
                refine WP_iload_n dX3_faultInParts_95 rfl ?_
                refine WP_iload dX3_faultInParts_96 rfl ?_
                refine WP_aload_n dX3_faultInParts_98 rfl ?_
                refine WP_callV4 (k := 3) dX3_faultInParts_99 ⟨⟨⟨by decide, by decide⟩, zX3_faultOfNumber⟩, lX3_100, by decide, rfl, vX3_faultOfNumber.1, vX3_faultOfNumber.2⟩ (lyx_is hy 3 3 rfl) (ex_fnub hy hr _ _ _  (B := B) (n := n) (p := p1) (c := c) (i := i) (ch := ch) (S := S1) (P := P1) hch hcl hc12 (by omega) (by omega) iC iR iB iP (by omega) (by omega) (by intro z1 z2; have z3 := tbl.2.2.2.2.2.1 z1 z2; exact ⟨z3.1, (by unfold loP; rw [if_neg (by omega)]), i0 z3.2 z3.1⟩)) (Nat.le_of_ble_eq_true rfl) ?_
                intro r I2223 J2224 Ra hq
                obtain ⟨ec, g2225, g2226, v2222, er, p2221⟩ := hq
                rw [ec, er]
                clear ec er Ra r
                have e2228 : I2223 (ad g 1) 2 = w2168 := by rw [FCx_at hy g2225 1 (by decide) (by decide)]; exact ew2168
                have e2229 : I2223 (ad g 1) 3 = w2169 := by rw [FCx_at hy g2225 1 (by decide) (by decide)]; exact ew2169
                have fI2230 : FC g [1, 4] I I2223 := FC_tr fI2163 (FC_mono g2225 (by decide))
                have fJ2231 : FC g [1, 41] J J2224 := FC_tr fJ2166 (FC_mono g2226 (by decide))
                try simp only [e2228, e2229, ew2157, ew2158] at p2221
                refine WP_istore (ls' := [(0, _), (1, _), (2, _), (3, _), (4, _), (5, _), (6, _), (7, _)]) dX3_faultInParts_102 (by decide) rfl ?_
                have hT2 := TPX_fr hy iT g2225 (by decide)
                have hC2 := CUX_fr hy iC g2225 g2226 (by decide) (by decide)
                refine WP_iload dX3_faultInParts_104 rfl ?_
                refine WQ_if_eq 112 dX3_faultInParts_106 rfl (fun c2231 => ?_) (fun c2231 => ?_)
                · have hok := Or.resolve_left p2221 (by rintro ⟨k, z1, z2, -⟩; omega)
                  obtain ⟨-, S2, P2, hp2, hR2, hP2⟩ := hok
                  have kk := prt_ok iB (by rw [← ech]; exact (SHP_ch c hc12 _ (by rw [List.getD_eq_getElem?_getD, List.getElem?_eq_getElem (by omega)]; exact List.getElem_mem _))) hp2
                  have hi1 := tT_le B ip
                  have hgo := prts_go (B := B) (n := n) (cl := c) (p := p1) (S := S1) (P := P1) (S2 := S2) (P2 := P2) (l := SHP c) (i := i) (by omega) (by rw [ech]; exact hp2)
                  refine WP_aload_n dX3_faultInParts_112 rfl ?_
                  refine WP_getr dX3_faultInParts_113 fX3_15 rfl (lyx_is hy 3 3 rfl) (rfx hr 3 2 1 (by decide)) ?_
                  refine WP_callV0 (k := 5) dX3_faultInParts_116 ⟨⟨⟨by decide, by decide⟩, zX5_next⟩, lX3_40, by decide, rfl, vX5_next.1, vX5_next.2⟩ (lyx_is hy 1 5 rfl) (ex_next hy hr   hT2 hn (hC2.2.1) hi1.2) (Nat.le_of_ble_eq_true rfl) ?_
                  intro r I2234 J2235 Ra hq
                  obtain ⟨ec, g2236, g2237, er, p2233⟩ := hq
                  rw [ec, er]
                  clear ec er Ra r
                  have fI2239 : FC g [1, 4] I I2234 := FC_tr fI2230 (FC_mono g2236 (by decide))
                  have fJ2240 : FC g [1, 41] J J2235 := FC_tr fJ2231 (FC_mono g2237 (by decide))
                  obtain ⟨w2241, ew2241⟩ : ∃ w : Int32, I2234 (ad g 1) 2 = w := ⟨_, rfl⟩
                  obtain ⟨w2242, ew2242⟩ : ∃ w : Int32, I2234 (ad g 1) 3 = w := ⟨_, rfl⟩
                  try simp only [ew2241, ew2242, ew2157, ew2158] at p2233
                  refine WP_iinc (ls' := [(0, _), (1, _), (2, _), (3, _), (4, _), (5, _), (6, _), (7, _)]) dX3_faultInParts_119 rfl (by decide) rfl ?_
                  have hv2243 : (i2161 + Int32.ofInt (1)).toInt = i2161.toInt + (1) := ia_n rfl (by omega) (by omega)
                  generalize i2161 + Int32.ofInt (1) = v2243 at hv2243 ⊢
                  refine WP_goto 8 dX3_faultInParts_122 rfl ?_
                  refine WP_sub (fc rfl (fc rfl (fc rfl (fc rfl (fc rfl fn))))) (ihlp2167 v2243 I2234 J2235 fI2239 fJ2240 ?_ ?_)
                  · try simp only [ew2241, ew2242, ew2157, ew2158]
                    have hf1 := p2233.1
                    have hbz : SBn S2 := by unfold SBn; rw [kk.1 1, kk.1 2]; exact iB
                    refine ⟨i + 1, tT B n p1, S2, P2, by omega, by omega, hi1.2, p2233.1, p2233.2, ?_, hbz, ?_, ?_, ?_, ?_, ?_⟩
                    · exact RTX_fr hy (by decide) hR2 g2236 g2237 (by decide) (by decide)
                    · exact PRX_fr hy hP2 g2236 (by decide)
                    · rw [← hgo]; exact iE
                    · rw [kk.1 1]; exact i1
                    · rw [kk.1 2]; exact i2
                    · intro h1 h2
                      by_cases e : i = 0
                      · subst e
                        have hg := kk.2.2.2.2
                        unfold gdP at hg
                        unfold SBn at iB
                        rcases tbl.2.2.2.2.2.2 rfl h1 with e1 | e1
                        · have := hg.1 e1; omega
                        · have := hg.2.1 e1; omega
                      · rw [kk.2.2.2.1 0 (by omega)]; exact i0 h1 (by omega)
                  · try simp only [ew2241, ew2242, ew2157, ew2158]
                    omega
                · refine WP_iload dX3_faultInParts_109 rfl ?_
                  exact WP_iret dX3_faultInParts_111 rfl ⟨rfl, fI2230, fJ2231, v2222, rfl, by
                    try simp only [e2228, e2229, ew2157, ew2158]
                    rcases p2221 with ⟨k, z1, z2, z3⟩ | ⟨z1, -⟩
                    · refine Or.inl ⟨k, tF B n p1, by omega, z2, ?_, ?_, hT2⟩
                      · apply clz_er
                        rw [← iE]
                        exact prts_er (by omega) (by rw [ech]; exact z3)
                      · exact c3
                    · exact absurd z1 (by omega)⟩
              · refine WQ_iconst (1) (1) dX3_faultInParts_72 rfl rfl (fun v2244 hv2244 => ?_)
                exact WP_iret dX3_faultInParts_73 rfl ⟨rfl, fI2163, fJ2166, v2244, rfl, by
                  try simp only [ew2168, ew2169, ew2157, ew2158]
                  refine Or.inl ⟨1, tF B n p1, by omega, by decide, ?_, by omega, iT⟩
                  apply clz_er
                  rw [← iE]
                  exact prts_er (by omega) (by rw [ech]; exact prt_x (by omega))⟩
            · refine WQ_iconst (1) (1) dX3_faultInParts_45 rfl rfl (fun v2245 hv2245 => ?_)
              refine WP_goto 50 dX3_faultInParts_46 rfl ?_
              refine WP_istore (ls' := [(0, _), (1, _), (2, _), (3, _), (4, _), (5, _), (6, _)]) dX3_faultInParts_50 (by decide) rfl ?_
              refine WP_aload_n dX3_faultInParts_52 rfl ?_
              refine WP_getr dX3_faultInParts_53 fX3_15 rfl (lyx_is hy 3 3 rfl) (rfx hr 3 2 1 (by decide)) ?_
              refine WQ_getim dX3_faultInParts_56 fX3_43 rfl (lyx_is hy 1 5 rfl) ew2168 ?_
              refine WP_iload dX3_faultInParts_59 rfl ?_
              refine WQ_if_eq 68 dX3_faultInParts_61 rfl (fun c2245 => False.elim (by omega)) (fun c2245 => ?_)
              refine WQ_iconst (1) (1) dX3_faultInParts_64 rfl rfl (fun v2247 hv2247 => ?_)
              refine WP_goto 69 dX3_faultInParts_65 rfl ?_
              refine WQ_icmp_eq 74 dX3_faultInParts_69 rfl (fun c2247 => ?_) (fun c2247 => ?_)
              · refine WP_iload dX3_faultInParts_74 rfl ?_
                refine WQ_if_eq 92 dX3_faultInParts_76 rfl (fun c2248 => False.elim (by omega)) (fun c2248 => ?_)
                refine WP_aload_n dX3_faultInParts_79 rfl ?_
                refine WP_iload dX3_faultInParts_80 rfl ?_
                refine WP_iload_n dX3_faultInParts_82 rfl ?_
                refine WP_iload dX3_faultInParts_83 rfl ?_
                refine WP_aload_n dX3_faultInParts_85 rfl ?_
                refine WP_callV4 (k := 3) dX3_faultInParts_86 ⟨⟨⟨by decide, by decide⟩, zX3_faultOfName⟩, lX3_96, by decide, rfl, vX3_faultOfName.1, vX3_faultOfName.2⟩ (lyx_is hy 3 3 rfl) (ex_fonb hy hr _ _ _  (B := B) (n := n) (p := p1) (c := c) (i := i) (ch := ch) (S := S1) (P := P1) hch hcl hc12 (by omega) (by omega) iC iR iB iP (by omega) (by omega) (by intro z; rw [i1]; exact hr1 (tbl.2.2.1 z)) (by intro z; rw [i2]; exact hr2 (tbl.2.2.2.1 z)) tbl.2.1 tbl.2.2.2.2.1) (Nat.le_of_ble_eq_true rfl) ?_
                intro r I2252 J2253 Ra hq
                obtain ⟨ec, g2254, g2255, v2251, er, p2250⟩ := hq
                rw [ec, er]
                clear ec er Ra r
                have e2257 : I2252 (ad g 1) 2 = w2168 := by rw [FCx_at hy g2254 1 (by decide) (by decide)]; exact ew2168
                have e2258 : I2252 (ad g 1) 3 = w2169 := by rw [FCx_at hy g2254 1 (by decide) (by decide)]; exact ew2169
                have fI2259 : FC g [1, 4] I I2252 := FC_tr fI2163 (FC_mono g2254 (by decide))
                have fJ2260 : FC g [1, 41] J J2253 := FC_tr fJ2166 (FC_mono g2255 (by decide))
                try simp only [e2257, e2258, ew2157, ew2158] at p2250
                refine WP_goto 102 dX3_faultInParts_89 rfl ?_
                refine WP_istore (ls' := [(0, _), (1, _), (2, _), (3, _), (4, _), (5, _), (6, _), (7, _)]) dX3_faultInParts_102 (by decide) rfl ?_
                have hT2 := TPX_fr hy iT g2254 (by decide)
                have hC2 := CUX_fr hy iC g2254 g2255 (by decide) (by decide)
                refine WP_iload dX3_faultInParts_104 rfl ?_
                refine WQ_if_eq 112 dX3_faultInParts_106 rfl (fun c2260 => ?_) (fun c2260 => ?_)
                · have hok := Or.resolve_left p2250 (by rintro ⟨k, z1, z2, -⟩; omega)
                  obtain ⟨-, S2, P2, hp2, hR2, hP2⟩ := hok
                  have kk := prt_ok iB (by rw [← ech]; exact (SHP_ch c hc12 _ (by rw [List.getD_eq_getElem?_getD, List.getElem?_eq_getElem (by omega)]; exact List.getElem_mem _))) hp2
                  have hi1 := tT_le B ip
                  have hgo := prts_go (B := B) (n := n) (cl := c) (p := p1) (S := S1) (P := P1) (S2 := S2) (P2 := P2) (l := SHP c) (i := i) (by omega) (by rw [ech]; exact hp2)
                  refine WP_aload_n dX3_faultInParts_112 rfl ?_
                  refine WP_getr dX3_faultInParts_113 fX3_15 rfl (lyx_is hy 3 3 rfl) (rfx hr 3 2 1 (by decide)) ?_
                  refine WP_callV0 (k := 5) dX3_faultInParts_116 ⟨⟨⟨by decide, by decide⟩, zX5_next⟩, lX3_40, by decide, rfl, vX5_next.1, vX5_next.2⟩ (lyx_is hy 1 5 rfl) (ex_next hy hr   hT2 hn (hC2.2.1) hi1.2) (Nat.le_of_ble_eq_true rfl) ?_
                  intro r I2263 J2264 Ra hq
                  obtain ⟨ec, g2265, g2266, er, p2262⟩ := hq
                  rw [ec, er]
                  clear ec er Ra r
                  have fI2268 : FC g [1, 4] I I2263 := FC_tr fI2259 (FC_mono g2265 (by decide))
                  have fJ2269 : FC g [1, 41] J J2264 := FC_tr fJ2260 (FC_mono g2266 (by decide))
                  obtain ⟨w2270, ew2270⟩ : ∃ w : Int32, I2263 (ad g 1) 2 = w := ⟨_, rfl⟩
                  obtain ⟨w2271, ew2271⟩ : ∃ w : Int32, I2263 (ad g 1) 3 = w := ⟨_, rfl⟩
                  try simp only [ew2270, ew2271, ew2157, ew2158] at p2262
                  refine WP_iinc (ls' := [(0, _), (1, _), (2, _), (3, _), (4, _), (5, _), (6, _), (7, _)]) dX3_faultInParts_119 rfl (by decide) rfl ?_
                  have hv2272 : (i2161 + Int32.ofInt (1)).toInt = i2161.toInt + (1) := ia_n rfl (by omega) (by omega)
                  generalize i2161 + Int32.ofInt (1) = v2272 at hv2272 ⊢
                  refine WP_goto 8 dX3_faultInParts_122 rfl ?_
                  refine WP_sub (fc rfl (fc rfl (fc rfl (fc rfl (fc rfl fn))))) (ihlp2167 v2272 I2263 J2264 fI2268 fJ2269 ?_ ?_)
                  · try simp only [ew2270, ew2271, ew2157, ew2158]
                    have hf1 := p2262.1
                    have hbz : SBn S2 := by unfold SBn; rw [kk.1 1, kk.1 2]; exact iB
                    refine ⟨i + 1, tT B n p1, S2, P2, by omega, by omega, hi1.2, p2262.1, p2262.2, ?_, hbz, ?_, ?_, ?_, ?_, ?_⟩
                    · exact RTX_fr hy (by decide) hR2 g2265 g2266 (by decide) (by decide)
                    · exact PRX_fr hy hP2 g2265 (by decide)
                    · rw [← hgo]; exact iE
                    · rw [kk.1 1]; exact i1
                    · rw [kk.1 2]; exact i2
                    · intro h1 h2
                      by_cases e : i = 0
                      · subst e
                        have hg := kk.2.2.2.2
                        unfold gdP at hg
                        unfold SBn at iB
                        rcases tbl.2.2.2.2.2.2 rfl h1 with e1 | e1
                        · have := hg.1 e1; omega
                        · have := hg.2.1 e1; omega
                      · rw [kk.2.2.2.1 0 (by omega)]; exact i0 h1 (by omega)
                  · try simp only [ew2270, ew2271, ew2157, ew2158]
                    omega
                · refine WP_iload dX3_faultInParts_109 rfl ?_
                  exact WP_iret dX3_faultInParts_111 rfl ⟨rfl, fI2259, fJ2260, v2251, rfl, by
                    try simp only [e2257, e2258, ew2157, ew2158]
                    rcases p2250 with ⟨k, z1, z2, z3⟩ | ⟨z1, -⟩
                    · refine Or.inl ⟨k, tF B n p1, by omega, z2, ?_, ?_, hT2⟩
                      · apply clz_er
                        rw [← iE]
                        exact prts_er (by omega) (by rw [ech]; exact z3)
                      · exact c3
                    · exact absurd z1 (by omega)⟩
              · refine WQ_iconst (1) (1) dX3_faultInParts_72 rfl rfl (fun v2273 hv2273 => ?_)
                exact WP_iret dX3_faultInParts_73 rfl ⟨rfl, fI2163, fJ2166, v2273, rfl, by
                  try simp only [ew2168, ew2169, ew2157, ew2158]
                  refine Or.inl ⟨1, tF B n p1, by omega, by decide, ?_, by omega, iT⟩
                  apply clz_er
                  rw [← iE]
                  exact prts_er (by omega) (by rw [ech]; exact prt_x (by omega))⟩
  refine WP_sub (fc rfl (fc rfl (fc rfl (fc rfl (fc rfl fn))))) (lp2167 _ v2160 I J fI0 fJ0 ?_ (Nat.lt_succ_self _))
  · try simp only [ew2157, ew2158]
    refine ⟨0, p, S, fun _ => 0, by omega, by omega, hp, ?_, ?_, ?_, hB, fun j h1 h2 => absurd h2 (by omega), rfl, rfl, rfl, fun _ h => absurd h (by omega)⟩
    · exact hT
    · exact hC
    · exact hR
theorem rdT_0 {B : Nat → Int} {n p i : Nat} {S : TwS} (h : tK B n p = 0) : rdT B n (901 - i) p S = .ok S := by
  cases e : 901 - i with
  | zero => rfl
  | succ f => rw [rdT, if_pos h]
theorem rdT_f {B : Nat → Int} {n p i : Nat} {S : TwS} (h : 901 ≤ i) : rdT B n (901 - i) p S = .ok S := by
  rw [show 901 - i = 0 by omega, rdT]
theorem rdT_1 {B : Nat → Int} {n p i : Nat} {S : TwS} (hi : i < 901) (h : tK B n p ≠ 0) (hc : cls B n p = 99) : rdT B n (901 - i) p S = .error (1, tF B n p) := by
  rw [show 901 - i = (900 - i) + 1 by omega, rdT, if_neg h, if_pos hc]
theorem rdT_2 {B : Nat → Int} {n p i : Nat} {S : TwS} (hi : i < 901) (h : tK B n p ≠ 0) (hc : cls B n p < 10) (ha : ahd (cls B n p) S ≠ 0) : rdT B n (901 - i) p S = .error (ahd (cls B n p) S, tF B n p) := by
  rw [show 901 - i = (900 - i) + 1 by omega, rdT, if_neg h, if_neg (by omega), if_pos ha]
theorem rdT_3 {B : Nat → Int} {n p i : Nat} {S : TwS} {e : ER} (hi : i < 901) (h : tK B n p ≠ 0) (hc : cls B n p < 10) (ha : ahd (cls B n p) S = 0) (hz : clz B n (cls B n p) (tT B n p) S = .error e) : rdT B n (901 - i) p S = .error e := by
  rw [show 901 - i = (900 - i) + 1 by omega, rdT, if_neg h, if_neg (by omega), if_neg (by omega), hz]
theorem rdT_4 {B : Nat → Int} {n p i p2 : Nat} {S S2 : TwS} {P2 : Nat → Int} (hi : i < 901) (h : tK B n p ≠ 0) (hc : cls B n p < 10) (ha : ahd (cls B n p) S = 0) (hz : clz B n (cls B n p) (tT B n p) S = .ok (S2, P2, p2)) : rdT B n (901 - i) p S = rdT B n (901 - (i + 1)) (tT B n p2) (tel (cls B n p) P2 S2) := by
  rw [show 901 - i = (901 - (i + 1)) + 1 by omega, rdT, if_neg h, if_neg (by omega), if_neg (by omega), hz]
theorem ahd_0 {c : Nat} {S : TwS} (hb : SBn S) (h : ahd c S = 0) : (c = 1 → S.1 0 1 < 4) ∧ (c = 2 → S.1 0 2 < 3) := by
  unfold SBn at hb
  unfold ahd at h
  split at h
  · exact absurd h (by decide)
  · omega
theorem SHP_0 : ∀ c, c < 10 → (c = 0 → (SHP c).getD 0 0 = 68) ∧ (c ∈ [3, 6, 7] → (SHP c).getD 0 0 = 115) ∧ (c ∈ [4, 5] → (SHP c).getD 0 0 = 116) ∧ (c ∈ [3, 4, 5] → (SHP c).getD 1 0 = 68) ∧ (c = 6 → (SHP c).getD 2 0 = 68) := by decide
theorem SHP_9 : ∀ c, c < 10 → (c ≠ 1 ∧ c ≠ 2 → 0 < (SHP c).length) ∧ (c ∈ [3, 4, 5] → 1 < (SHP c).length) ∧ (c = 6 → 2 < (SHP c).length) := by decide
/-- bounds of what a clause has told -/
def PBND (c : Nat) (P : Nat → Int) : Prop := (c = 0 → 0 ≤ P 0 ∧ P 0 < 7) ∧ (c = 3 ∨ c = 6 ∨ c = 7 → 0 ≤ P 0 ∧ P 0 < 4) ∧ (c = 4 ∨ c = 5 → 0 ≤ P 0 ∧ P 0 < 3) ∧ (c = 3 ∨ c = 4 ∨ c = 5 → 0 ≤ P 1 ∧ P 1 < 7) ∧ (c = 6 → 0 ≤ P 2 ∧ P 2 < 7)
theorem S0_b (j : Nat → Nat → Int) : SBn (S0 j) ∧ (S0 j).1 0 0 = 0 := by simp [S0, SBn]
theorem clz_b {c : Nat} {P : Nat → Int} {S : TwS} (hb : SBn S) (hc : c < 10) (h : ∀ j, j < (SHP c).length → gdP ((SHP c).getD j 0) (P j) S) : PBND c P := by
  unfold SBn at hb
  have k := SHP_0 c hc
  have l := SHP_9 c hc
  have u : loB 68 = 0 ∧ hiB 68 = 6 := ⟨rfl, rfl⟩
  refine ⟨fun e => ?_, fun e => ?_, fun e => ?_, fun e => ?_, fun e => ?_⟩
  · have := h 0 (l.1 (by omega)); rw [k.1 e] at this; have := this.2.2 (by decide); omega
  · have := h 0 (l.1 (by omega)); rw [k.2.1 (by simp; omega)] at this; have := this.1 rfl; omega
  · have := h 0 (l.1 (by omega)); rw [k.2.2.1 (by simp; omega)] at this; have := this.2.1 rfl; omega
  · have := h 1 (l.2.1 (by simp; omega)); rw [k.2.2.2.1 (by simp; omega)] at this; have := this.2.2 (by decide); omega
  · have := h 2 (l.2.2 e); rw [k.2.2.2.2 e] at this; have := this.2.2 (by decide); omega
theorem tel_b {c : Nat} {P : Nat → Int} {S : TwS} (hb : SBn S) (hc : c < 10) (h1 : c = 1 → S.1 0 1 < 4) (h2 : c = 2 → S.1 0 2 < 3) : SBn (tel c P S) ∧ (tel c P S).1 0 0 = S.1 0 0 + 1 := by
  unfold SBn at hb ⊢
  rcases (show c = 0 ∨ c = 1 ∨ c = 2 ∨ c = 3 ∨ c = 4 ∨ c = 5 ∨ c = 6 ∨ c = 7 ∨ c = 8 ∨ c = 9 by omega) with rfl | rfl | rfl | rfl | rfl | rfl | rfl | rfl | rfl | rfl
  all_goals simp [tel, pp]
  all_goals (try split)
  all_goals (try simp [pp])
  all_goals (try omega)
set_option maxHeartbeats 4000000 in
set_option maxRecDepth 100000 in
theorem ex_readTowna {g : GG} {I : pI} {J : pJ} {R : pR} (hy : LyX g) (hr : RfX g R) {aK aV : Nat → Nat} {fo : Option Nat} (hz : HZ g aK aV fo) {B : Nat → Int} {n : Nat}  (hT : TPX g B n I) (hn : n ≤ 900) : SP g mX3_readTown [.ref (ad g 3), .ref (ad g 6)] I J R (fun r I' J' R' => R' = R ∧ FC g [1, 3, 4, 6, 7, 8, 9, 10, 11, 12, 13, 14, 15, 16, 17, 18, 19, 21] I I' ∧ FC g [1, 20] J J' ∧ ∃ v : Int32, r = some (.int v) ∧ ((v.toInt = 0 ∧ ∃ (j : Nat → Nat → Int) (k pl : Nat), town B n j = .error (k, pl) ∧ (I' (ad g 3) 0).toInt = (k : Int) ∧ (I' (ad g 3) 1).toInt = (pl : Int)) ∨ (v.toInt = 1 ∧ ∃ (j : Nat → Nat → Int) (S2 : TwS), town B n j = .ok S2 ∧ RTX g 6 S2 I' J' ∧ SBn S2 ∧ (I' (ad g 3) 0).toInt = 0 ∧ (I' (ad g 3) 1).toInt = -1))) := by
  refine SP_of ⟨by decide, rfl⟩ (Nat.le_of_ble_eq_true rfl) ?_
  have fI0 : FC g [1, 3, 4, 6, 7, 8, 9, 10, 11, 12, 13, 14, 15, 16, 17, 18, 19, 21] I I := FC_rf
  have fJ0 : FC g [1, 20] J J := FC_rf
  obtain ⟨w2274, ew2274⟩ : ∃ w : Int32, I (ad g 1) 2 = w := ⟨_, rfl⟩
  obtain ⟨w2275, ew2275⟩ : ∃ w : Int32, I (ad g 1) 3 = w := ⟨_, rfl⟩
  obtain ⟨w2276, ew2276⟩ : ∃ w : Int32, I (ad g 3) 0 = w := ⟨_, rfl⟩
  obtain ⟨w2277, ew2277⟩ : ∃ w : Int32, I (ad g 3) 1 = w := ⟨_, rfl⟩
  refine WP_aload_n dX3_readTown_0 rfl ?_
  refine WP_callV0 (k := 7) dX3_readTown_1 ⟨⟨⟨by decide, by decide⟩, zX7_forget⟩, lX3_26, by decide, rfl, vX7_forget.1, vX7_forget.2⟩ (lyx_is hy 6 7 rfl) (ex_forgeta hy hr   ) (Nat.le_of_ble_eq_true rfl) ?_
  intro r I2279 J2280 Ra hq
  obtain ⟨ec, g2281, g2282, er, p2278⟩ := hq
  rw [ec, er]
  clear ec er Ra r
  have e2284 : I2279 (ad g 1) 2 = w2274 := by rw [FCx_at hy g2281 1 (by decide) (by decide)]; exact ew2274
  have e2285 : I2279 (ad g 1) 3 = w2275 := by rw [FCx_at hy g2281 1 (by decide) (by decide)]; exact ew2275
  have e2286 : I2279 (ad g 3) 0 = w2276 := by rw [FCx_at hy g2281 3 (by decide) (by decide)]; exact ew2276
  have e2287 : I2279 (ad g 3) 1 = w2277 := by rw [FCx_at hy g2281 3 (by decide) (by decide)]; exact ew2277
  have fI2288 : FC g [1, 3, 4, 6, 7, 8, 9, 10, 11, 12, 13, 14, 15, 16, 17, 18, 19, 21] I I2279 := FC_tr fI0 (FC_mono g2281 (by decide))
  have fJ2289 : FC g [1, 20] J J2280 := FC_tr fJ0 (FC_mono g2282 (by decide))
  try simp only [e2284, e2285, e2286, e2287, ew2274, ew2275, ew2276, ew2277] at p2278
  obtain ⟨j, hj⟩ := p2278
  refine WP_aload_n dX3_readTown_4 rfl ?_
  refine WQ_iconst (0) (0) dX3_readTown_5 rfl rfl (fun v2290 hv2290 => ?_)
  refine WP_callV1 (k := 3) dX3_readTown_6 ⟨⟨⟨by decide, by decide⟩, zX3_note⟩, lX3_31, by decide, rfl, vX3_note.1, vX3_note.2⟩ (lyx_is hy 3 3 rfl) (ex_note hy hr _  ) (Nat.le_of_ble_eq_true rfl) ?_
  intro r I2292 J2293 Ra hq
  obtain ⟨ec, g2294, g2295, er, p2291⟩ := hq
  rw [ec, er]
  clear ec er Ra r
  have e2297 : I2292 (ad g 1) 2 = w2274 := by rw [FCx_at hy g2294 1 (by decide) (by decide)]; exact e2284
  have e2298 : I2292 (ad g 1) 3 = w2275 := by rw [FCx_at hy g2294 1 (by decide) (by decide)]; exact e2285
  have fI2299 : FC g [1, 3, 4, 6, 7, 8, 9, 10, 11, 12, 13, 14, 15, 16, 17, 18, 19, 21] I I2292 := FC_tr fI2288 (FC_mono g2294 (by decide))
  have fJ2300 : FC g [1, 20] J J2293 := FC_tr fJ2289 (FC_mono g2295 (by decide))
  obtain ⟨w2301, ew2301⟩ : ∃ w : Int32, I2292 (ad g 3) 0 = w := ⟨_, rfl⟩
  obtain ⟨w2302, ew2302⟩ : ∃ w : Int32, I2292 (ad g 3) 1 = w := ⟨_, rfl⟩
  try simp only [e2297, e2298, ew2301, ew2302, ew2274, ew2275, ew2276, ew2277] at p2291
  refine WP_aload_n dX3_readTown_9 rfl ?_
  refine WP_getr dX3_readTown_10 fX3_15 rfl (lyx_is hy 3 3 rfl) (rfx hr 3 2 1 (by decide)) ?_
  refine WP_callV0 (k := 5) dX3_readTown_13 ⟨⟨⟨by decide, by decide⟩, zX5_rewind⟩, lX3_35, by decide, rfl, vX5_rewind.1, vX5_rewind.2⟩ (lyx_is hy 1 5 rfl) (ex_rewind hy hr   (TPX_fr hy (TPX_fr hy hT g2281 (by decide)) g2294 (by decide))) (Nat.le_of_ble_eq_true rfl) ?_
  intro r I2304 J2305 Ra hq
  obtain ⟨ec, g2306, g2307, er, p2303⟩ := hq
  rw [ec, er]
  clear ec er Ra r
  have e2309 : I2304 (ad g 3) 0 = w2301 := by rw [FCx_at hy g2306 3 (by decide) (by decide)]; exact ew2301
  have e2310 : I2304 (ad g 3) 1 = w2302 := by rw [FCx_at hy g2306 3 (by decide) (by decide)]; exact ew2302
  have fI2311 : FC g [1, 3, 4, 6, 7, 8, 9, 10, 11, 12, 13, 14, 15, 16, 17, 18, 19, 21] I I2304 := FC_tr fI2299 (FC_mono g2306 (by decide))
  have fJ2312 : FC g [1, 20] J J2305 := FC_tr fJ2300 (FC_mono g2307 (by decide))
  obtain ⟨w2313, ew2313⟩ : ∃ w : Int32, I2304 (ad g 1) 2 = w := ⟨_, rfl⟩
  obtain ⟨w2314, ew2314⟩ : ∃ w : Int32, I2304 (ad g 1) 3 = w := ⟨_, rfl⟩
  try simp only [ew2313, ew2314, e2309, e2310, ew2274, ew2275, ew2276, ew2277] at p2303
  refine WQ_iconst (0) (0) dX3_readTown_16 rfl rfl (fun v2315 hv2315 => ?_)
  refine WP_istore_n (ls' := [(0, _), (1, _), (2, _)]) dX3_readTown_17 (by decide) rfl ?_
  have lp2322 : ∀ (mz : Nat) (i2316 : Int32) (I2317 : pI) (J2320 : pJ), FC g [1, 3, 4, 6, 7, 8, 9, 10, 11, 12, 13, 14, 15, 16, 17, 18, 19, 21] I I2317 → FC g [1, 20] J J2320 → (∃ (i p1 : Nat) (S1 : TwS), i2316.toInt = (i : Int) ∧ i ≤ 901 ∧ p1 ≤ n ∧ TPX g B n I2317 ∧ (I2317 (ad g 1) 6).toInt = (p1 : Int) ∧ RTX g 6 S1 I2317 J2320 ∧ SBn S1 ∧ 0 ≤ S1.1 0 0 ∧ S1.1 0 0 ≤ (i : Int) ∧ rdT B n (901 - i) p1 S1 = town B n j ∧ (I2317 (ad g 3) 0).toInt = 0 ∧ (I2317 (ad g 3) 1).toInt = -1) → (901 - i2316.toInt.toNat) < mz → WP g mX3_readTown 18 [(0, .ref (ad g 3)), (1, .ref (ad g 6)), (2, .int i2316)] [] I2317 J2320 R (fun r I' J' R' => R' = R ∧ FC g [1, 3, 4, 6, 7, 8, 9, 10, 11, 12, 13, 14, 15, 16, 17, 18, 19, 21] I I' ∧ FC g [1, 20] J J' ∧ ∃ v : Int32, r = some (.int v) ∧ ((v.toInt = 0 ∧ ∃ (j : Nat → Nat → Int) (k pl : Nat), town B n j = .error (k, pl) ∧ (I' (ad g 3) 0).toInt = (k : Int) ∧ (I' (ad g 3) 1).toInt = (pl : Int)) ∨ (v.toInt = 1 ∧ ∃ (j : Nat → Nat → Int) (S2 : TwS), town B n j = .ok S2 ∧ RTX g 6 S2 I' J' ∧ SBn S2 ∧ (I' (ad g 3) 0).toInt = 0 ∧ (I' (ad g 3) 1).toInt = -1))) := by
    intro mz
    induction mz with
    | zero =>
      intro i2316 I2317 J2320 fI2318 fJ2321 hvlp2322 hmlp2322
      exact absurd hmlp2322 (Nat.not_lt_zero _)
    | succ mz ihlp2322 =>
      intro i2316 I2317 J2320 fI2318 fJ2321 hvlp2322 hmlp2322
      obtain ⟨w2323, ew2323⟩ : ∃ w : Int32, I2317 (ad g 1) 2 = w := ⟨_, rfl⟩
      obtain ⟨w2324, ew2324⟩ : ∃ w : Int32, I2317 (ad g 1) 3 = w := ⟨_, rfl⟩
      obtain ⟨w2325, ew2325⟩ : ∃ w : Int32, I2317 (ad g 3) 0 = w := ⟨_, rfl⟩
      obtain ⟨w2326, ew2326⟩ : ∃ w : Int32, I2317 (ad g 3) 1 = w := ⟨_, rfl⟩
      try simp only [ew2323, ew2324, ew2325, ew2326, ew2274, ew2275, ew2276, ew2277] at hvlp2322 hmlp2322
      obtain ⟨i, p1, S1, ii, il, ip, iT, i6, iR, iB, i0, i00, iE, if0, if1⟩ := hvlp2322
      refine WP_iload_n dX3_readTown_18 rfl ?_
      refine WQ_sipush (900) (900) dX3_readTown_19 rfl rfl (fun v2327 hv2327 => ?_)
      refine WQ_icmp_gt 114 dX3_readTown_22 rfl (fun c2327 => ?_) (fun c2327 => ?_)
      · refine WQ_iconst (1) (1) dX3_readTown_114 rfl rfl (fun v2329 hv2329 => ?_)
        exact WP_zret dX3_readTown_115 rfl (nar_z (by omega)) ⟨rfl, fI2318, fJ2321, v2329, rfl, by
          try simp only [ew2323, ew2324, ew2325, ew2326, ew2274, ew2275, ew2276, ew2277]
          refine Or.inr ⟨by omega, j, S1, by rw [← iE]; exact rdT_f (by omega), iR, iB, by omega, by omega⟩⟩
      · refine WP_aload_n dX3_readTown_25 rfl ?_
        refine WP_getr dX3_readTown_26 fX3_15 rfl (lyx_is hy 3 3 rfl) (rfx hr 3 2 1 (by decide)) ?_
        refine WP_callV0 (k := 5) dX3_readTown_29 ⟨⟨⟨by decide, by decide⟩, zX5_next⟩, lX3_40, by decide, rfl, vX5_next.1, vX5_next.2⟩ (lyx_is hy 1 5 rfl) (ex_next hy hr   iT hn i6 ip) (Nat.le_of_ble_eq_true rfl) ?_
        intro r I2331 J2332 Ra hq
        obtain ⟨ec, g2333, g2334, er, p2330⟩ := hq
        rw [ec, er]
        clear ec er Ra r
        have e2336 : I2331 (ad g 3) 0 = w2325 := by rw [FCx_at hy g2333 3 (by decide) (by decide)]; exact ew2325
        have e2337 : I2331 (ad g 3) 1 = w2326 := by rw [FCx_at hy g2333 3 (by decide) (by decide)]; exact ew2326
        have fI2338 : FC g [1, 3, 4, 6, 7, 8, 9, 10, 11, 12, 13, 14, 15, 16, 17, 18, 19, 21] I I2331 := FC_tr fI2318 (FC_mono g2333 (by decide))
        have fJ2339 : FC g [1, 20] J J2332 := FC_tr fJ2321 (FC_mono g2334 (by decide))
        obtain ⟨w2340, ew2340⟩ : ∃ w : Int32, I2331 (ad g 1) 2 = w := ⟨_, rfl⟩
        obtain ⟨w2341, ew2341⟩ : ∃ w : Int32, I2331 (ad g 1) 3 = w := ⟨_, rfl⟩
        try simp only [ew2340, ew2341, e2336, e2337, ew2274, ew2275, ew2276, ew2277] at p2330
        obtain ⟨hT2, hC2⟩ := p2330
        have hR2 := RTX_fr hy (by decide) iR g2333 g2334 (by decide) (by decide)
        have c2 := hC2.2.2.1
        have c3 := hC2.1
        try simp only [ew2340] at c2
        try simp only [ew2341] at c3
        refine WP_aload_n dX3_readTown_32 rfl ?_
        refine WP_getr dX3_readTown_33 fX3_15 rfl (lyx_is hy 3 3 rfl) (rfx hr 3 2 1 (by decide)) ?_
        refine WQ_getim dX3_readTown_36 fX3_43 rfl (lyx_is hy 1 5 rfl) ew2340 ?_
        refine WQ_if_ne 45 dX3_readTown_39 rfl (fun c2341 => ?_) (fun c2341 => ?_)
        · refine WP_aload_n dX3_readTown_45 rfl ?_
          refine WP_callV0 (k := 3) dX3_readTown_46 ⟨⟨⟨by decide, by decide⟩, zX3_clauseAtHand⟩, lX3_46, by decide, rfl, vX3_clauseAtHand.1, vX3_clauseAtHand.2⟩ (lyx_is hy 3 3 rfl) (ex_clauseAtHand hy hr hz   hC2) (Nat.le_of_ble_eq_true rfl) ?_
          intro r Ia Ja Ra hq
          obtain ⟨⟨ea, eb, ec⟩, v2344, er, p2343⟩ := hq
          rw [ea, eb, ec, er]
          clear ea eb ec er Ia Ja Ra r
          refine WP_istore_n (ls' := [(0, _), (1, _), (2, _), (3, _)]) dX3_readTown_49 (by decide) rfl ?_
          refine WP_iload_n dX3_readTown_50 rfl ?_
          refine WQ_iconst (-1) (-1) dX3_readTown_51 rfl rfl (fun v2345 hv2345 => ?_)
          refine WQ_icmp_ne 59 dX3_readTown_52 rfl (fun c2345 => ?_) (fun c2345 => ?_)
          · refine WP_aload_n dX3_readTown_59 rfl ?_
            refine WP_iload_n dX3_readTown_60 rfl ?_
            refine WP_callV1 (k := 7) dX3_readTown_61 ⟨⟨⟨by decide, by decide⟩, zX7_faultAhead⟩, lX3_50, by decide, rfl, vX7_faultAhead.1, vX7_faultAhead.2⟩ (lyx_is hy 6 7 rfl) (ex_faultAheada hy hr _  (c := cls B n p1) hR2 (by omega) (by omega)) (Nat.le_of_ble_eq_true rfl) ?_
            intro r Ia Ja Ra hq
            obtain ⟨⟨ea, eb, ec⟩, v2348, er, p2347⟩ := hq
            rw [ea, eb, ec, er]
            clear ea eb ec er Ia Ja Ra r
            refine WP_istore (ls' := [(0, _), (1, _), (2, _), (3, _), (4, _)]) dX3_readTown_64 (by decide) rfl ?_
            refine WP_iload dX3_readTown_66 rfl ?_
            refine WQ_if_ne 86 dX3_readTown_68 rfl (fun c2348 => ?_) (fun c2348 => ?_)
            · refine WP_iload dX3_readTown_86 rfl ?_
              refine WQ_if_eq 99 dX3_readTown_88 rfl (fun c2349 => False.elim (by omega)) (fun c2349 => ?_)
              refine WP_aload_n dX3_readTown_91 rfl ?_
              refine WP_iload dX3_readTown_92 rfl ?_
              refine WP_callV1 (k := 3) dX3_readTown_94 ⟨⟨⟨by decide, by decide⟩, zX3_note⟩, lX3_31, by decide, rfl, vX3_note.1, vX3_note.2⟩ (lyx_is hy 3 3 rfl) (ex_note hy hr _  ) (Nat.le_of_ble_eq_true rfl) ?_
              intro r I2352 J2353 Ra hq
              obtain ⟨ec, g2354, g2355, er, p2351⟩ := hq
              rw [ec, er]
              clear ec er Ra r
              have e2357 : I2352 (ad g 1) 2 = w2340 := by rw [FCx_at hy g2354 1 (by decide) (by decide)]; exact ew2340
              have e2358 : I2352 (ad g 1) 3 = w2341 := by rw [FCx_at hy g2354 1 (by decide) (by decide)]; exact ew2341
              have fI2359 : FC g [1, 3, 4, 6, 7, 8, 9, 10, 11, 12, 13, 14, 15, 16, 17, 18, 19, 21] I I2352 := FC_tr fI2338 (FC_mono g2354 (by decide))
              have fJ2360 : FC g [1, 20] J J2353 := FC_tr fJ2339 (FC_mono g2355 (by decide))
              obtain ⟨w2361, ew2361⟩ : ∃ w : Int32, I2352 (ad g 3) 0 = w := ⟨_, rfl⟩
              obtain ⟨w2362, ew2362⟩ : ∃ w : Int32, I2352 (ad g 3) 1 = w := ⟨_, rfl⟩
              try simp only [e2357, e2358, ew2361, ew2362, ew2274, ew2275, ew2276, ew2277] at p2351
              simp only [ew2341] at p2351
              refine WQ_iconst (0) (0) dX3_readTown_97 rfl rfl (fun v2363 hv2363 => ?_)
              exact WP_zret dX3_readTown_98 rfl (nar_z (by omega)) ⟨rfl, fI2359, fJ2360, v2363, rfl, by
                try simp only [e2357, e2358, ew2361, ew2362, ew2274, ew2275, ew2276, ew2277]
                rcases p2343 with ⟨z1, z2⟩ | ⟨z1, z2⟩
                · first
                  | exact absurd z1 (by omega)
                  | exact Or.inl ⟨by omega, j, 1, tF B n p1, by rw [← iE]; exact rdT_1 (by omega) (by omega) z2, by rw [p2351.1]; omega, by rw [p2351.2.2 (by omega)]; omega⟩
                · first
                  | exact absurd z1 (by omega)
                  | exact Or.inl ⟨by omega, j, ahd (cls B n p1) S1, tF B n p1, by rw [← iE]; exact rdT_2 (by omega) (by omega) z2 (by omega), by rw [p2351.1]; omega, by rw [p2351.2.2 (by omega)]; omega⟩⟩
            · refine WP_aload_n dX3_readTown_71 rfl ?_
              refine WP_getr dX3_readTown_72 fX3_15 rfl (lyx_is hy 3 3 rfl) (rfx hr 3 2 1 (by decide)) ?_
              refine WP_callV0 (k := 5) dX3_readTown_75 ⟨⟨⟨by decide, by decide⟩, zX5_next⟩, lX3_40, by decide, rfl, vX5_next.1, vX5_next.2⟩ (lyx_is hy 1 5 rfl) (ex_next hy hr   hT2 hn hC2.2.1 (tT_le B ip).2) (Nat.le_of_ble_eq_true rfl) ?_
              intro r I2365 J2366 Ra hq
              obtain ⟨ec, g2367, g2368, er, p2364⟩ := hq
              rw [ec, er]
              clear ec er Ra r
              have e2370 : I2365 (ad g 3) 0 = w2325 := by rw [FCx_at hy g2367 3 (by decide) (by decide)]; exact e2336
              have e2371 : I2365 (ad g 3) 1 = w2326 := by rw [FCx_at hy g2367 3 (by decide) (by decide)]; exact e2337
              have fI2372 : FC g [1, 3, 4, 6, 7, 8, 9, 10, 11, 12, 13, 14, 15, 16, 17, 18, 19, 21] I I2365 := FC_tr fI2338 (FC_mono g2367 (by decide))
              have fJ2373 : FC g [1, 20] J J2366 := FC_tr fJ2339 (FC_mono g2368 (by decide))
              obtain ⟨w2374, ew2374⟩ : ∃ w : Int32, I2365 (ad g 1) 2 = w := ⟨_, rfl⟩
              obtain ⟨w2375, ew2375⟩ : ∃ w : Int32, I2365 (ad g 1) 3 = w := ⟨_, rfl⟩
              try simp only [ew2374, ew2375, e2370, e2371, ew2274, ew2275, ew2276, ew2277] at p2364
              obtain ⟨hT3, hC3⟩ := p2364
              have hR3 := RTX_fr hy (by decide) hR2 g2367 g2368 (by decide) (by decide)
              have hcl2 : cls B n p1 < 10 := by omega
              have ha0 : ahd (cls B n p1) S1 = 0 := by omega
              have hrm := ahd_0 iB ha0
              refine WP_aload_n dX3_readTown_78 rfl ?_
              refine WP_iload_n dX3_readTown_79 rfl ?_
              refine WP_aload_n dX3_readTown_80 rfl ?_
              refine WP_callV2 (k := 3) dX3_readTown_81 ⟨⟨⟨by decide, by decide⟩, zX3_faultInParts⟩, lX3_54, by decide, rfl, vX3_faultInParts.1, vX3_faultInParts.2⟩ (lyx_is hy 3 3 rfl) (ex_fipa hy hr hz _  (c := cls B n p1) (S := S1) (by omega) (by omega) hn (tT_le B ip).2 hT3 hC3 hR3 iB hrm.1 hrm.2) (Nat.le_of_ble_eq_true rfl) ?_
              intro r I2378 J2379 Ra hq
              obtain ⟨ec, g2380, g2381, v2377, er, p2376⟩ := hq
              rw [ec, er]
              clear ec er Ra r
              have e2383 : I2378 (ad g 3) 0 = w2325 := by rw [FCx_at hy g2380 3 (by decide) (by decide)]; exact e2370
              have e2384 : I2378 (ad g 3) 1 = w2326 := by rw [FCx_at hy g2380 3 (by decide) (by decide)]; exact e2371
              have fI2385 : FC g [1, 3, 4, 6, 7, 8, 9, 10, 11, 12, 13, 14, 15, 16, 17, 18, 19, 21] I I2378 := FC_tr fI2372 (FC_mono g2380 (by decide))
              have fJ2386 : FC g [1, 20] J J2379 := FC_tr fJ2373 (FC_mono g2381 (by decide))
              obtain ⟨w2387, ew2387⟩ : ∃ w : Int32, I2378 (ad g 1) 2 = w := ⟨_, rfl⟩
              obtain ⟨w2388, ew2388⟩ : ∃ w : Int32, I2378 (ad g 1) 3 = w := ⟨_, rfl⟩
              try simp only [ew2387, ew2388, e2383, e2384, ew2274, ew2275, ew2276, ew2277] at p2376
              refine WP_istore (ls' := [(0, _), (1, _), (2, _), (3, _), (4, _)]) dX3_readTown_84 (by decide) rfl ?_
              refine WP_iload dX3_readTown_86 rfl ?_
              refine WQ_if_eq 99 dX3_readTown_88 rfl (fun c2388 => ?_) (fun c2388 => ?_)
              · have hok := Or.resolve_left p2376 (by rintro ⟨k, pl, z1, z2, -⟩; omega)
                clear p2376
                obtain ⟨-, S2, P2, p2, hz, hR4, hP4, hT3, hC3⟩ := hok
                have kz := clz_ok iB (tT_le B ip).2 (by omega) hz
                have bb := clz_b iB hcl2 kz.2.2.2.1
                have hbz : SBn S2 := by unfold SBn; rw [kz.1 1, kz.1 2]; exact iB
                have tb2 := tel_b (c := cls B n p1) (P := P2) hbz hcl2 (by intro e; rw [kz.1 1]; exact hrm.1 e) (by intro e; rw [kz.1 2]; exact hrm.2 e)
                refine WP_aload_n dX3_readTown_99 rfl ?_
                refine WP_iload_n dX3_readTown_100 rfl ?_
                refine WP_aload_n dX3_readTown_101 rfl ?_
                refine WP_getr dX3_readTown_102 fX3_9 rfl (lyx_is hy 3 3 rfl) (rfx hr 3 3 4 (by decide)) ?_
                refine WP_callV2 (k := 7) dX3_readTown_105 ⟨⟨⟨by decide, by decide⟩, zX7_tell⟩, lX3_58, by decide, rfl, vX7_tell.1, vX7_tell.2⟩ (lyx_is hy 6 7 rfl) (ex_tella hy hr _  (S := S2) (P := P2) (c := cls B n p1) hR4 (by omega) hcl2 (by rw [kz.1 0]; omega) hP4 bb.1 bb.2.1 bb.2.2.1 bb.2.2.2.1 bb.2.2.2.2 (by intro e; rw [kz.1 1]; exact ⟨by unfold SBn at iB; omega, hrm.1 e⟩) (by intro e; rw [kz.1 2]; exact ⟨by unfold SBn at iB; omega, hrm.2 e⟩)) (Nat.le_of_ble_eq_true rfl) ?_
                intro r I2391 J2392 Ra hq
                obtain ⟨ec, g2393, g2394, er, p2390⟩ := hq
                rw [ec, er]
                clear ec er Ra r
                have e2396 : I2391 (ad g 3) 0 = w2325 := by rw [FCx_at hy g2393 3 (by decide) (by decide)]; exact e2383
                have e2397 : I2391 (ad g 3) 1 = w2326 := by rw [FCx_at hy g2393 3 (by decide) (by decide)]; exact e2384
                have e2398 : I2391 (ad g 1) 2 = w2387 := by rw [FCx_at hy g2393 1 (by decide) (by decide)]; exact ew2387
                have e2399 : I2391 (ad g 1) 3 = w2388 := by rw [FCx_at hy g2393 1 (by decide) (by decide)]; exact ew2388
                have fI2400 : FC g [1, 3, 4, 6, 7, 8, 9, 10, 11, 12, 13, 14, 15, 16, 17, 18, 19, 21] I I2391 := FC_tr fI2385 (FC_mono g2393 (by decide))
                have fJ2401 : FC g [1, 20] J J2392 := FC_tr fJ2386 (FC_mono g2394 (by decide))
                try simp only [e2398, e2399, e2396, e2397, ew2274, ew2275, ew2276, ew2277] at p2390
                refine WP_iinc (ls' := [(0, _), (1, _), (2, _), (3, _), (4, _)]) dX3_readTown_108 rfl (by decide) rfl ?_
                have hv2402 : (i2316 + Int32.ofInt (1)).toInt = i2316.toInt + (1) := ia_n rfl (by omega) (by omega)
                generalize i2316 + Int32.ofInt (1) = v2402 at hv2402 ⊢
                refine WP_goto 18 dX3_readTown_111 rfl ?_
                refine WP_sub (fc rfl (fc rfl (fc rfl fn))) (ihlp2322 v2402 I2391 J2392 fI2400 fJ2401 ?_ ?_)
                · try simp only [e2398, e2399, e2396, e2397, ew2274, ew2275, ew2276, ew2277]
                  refine ⟨i + 1, tT B n p2, tel (cls B n p1) P2 S2, by omega, by omega, (tT_le B kz.2.2.2.2.2.1).2, ?_, ?_, p2390, tb2.1, by rw [tb2.2, kz.1 0]; omega, by rw [tb2.2, kz.1 0]; omega, ?_, ?_, ?_⟩
                  · exact TPX_fr hy hT3 g2393 (by decide)
                  · have := FCx_at hy g2393 1 (by decide) (by decide)
                    rw [this]; exact hC3.2.1
                  · rw [← iE]; exact (rdT_4 (by omega) (by omega) hcl2 ha0 hz).symm
                  · omega
                  · omega
                · try simp only [e2398, e2399, e2396, e2397, ew2274, ew2275, ew2276, ew2277]
                  omega
              · refine WP_aload_n dX3_readTown_91 rfl ?_
                refine WP_iload dX3_readTown_92 rfl ?_
                refine WP_callV1 (k := 3) dX3_readTown_94 ⟨⟨⟨by decide, by decide⟩, zX3_note⟩, lX3_31, by decide, rfl, vX3_note.1, vX3_note.2⟩ (lyx_is hy 3 3 rfl) (ex_note hy hr _  ) (Nat.le_of_ble_eq_true rfl) ?_
                intro r I2404 J2405 Ra hq
                obtain ⟨ec, g2406, g2407, er, p2403⟩ := hq
                rw [ec, er]
                clear ec er Ra r
                have e2409 : I2404 (ad g 1) 2 = w2387 := by rw [FCx_at hy g2406 1 (by decide) (by decide)]; exact ew2387
                have e2410 : I2404 (ad g 1) 3 = w2388 := by rw [FCx_at hy g2406 1 (by decide) (by decide)]; exact ew2388
                have fI2411 : FC g [1, 3, 4, 6, 7, 8, 9, 10, 11, 12, 13, 14, 15, 16, 17, 18, 19, 21] I I2404 := FC_tr fI2385 (FC_mono g2406 (by decide))
                have fJ2412 : FC g [1, 20] J J2405 := FC_tr fJ2386 (FC_mono g2407 (by decide))
                obtain ⟨w2413, ew2413⟩ : ∃ w : Int32, I2404 (ad g 3) 0 = w := ⟨_, rfl⟩
                obtain ⟨w2414, ew2414⟩ : ∃ w : Int32, I2404 (ad g 3) 1 = w := ⟨_, rfl⟩
                try simp only [e2409, e2410, ew2413, ew2414, ew2274, ew2275, ew2276, ew2277] at p2403
                simp only [ew2388] at p2403
                refine WQ_iconst (0) (0) dX3_readTown_97 rfl rfl (fun v2415 hv2415 => ?_)
                exact WP_zret dX3_readTown_98 rfl (nar_z (by omega)) ⟨rfl, fI2411, fJ2412, v2415, rfl, by
                  try simp only [e2409, e2410, ew2413, ew2414, ew2274, ew2275, ew2276, ew2277]
                  rcases p2376 with ⟨k, pl, z1, z2, z3, z4, -⟩ | ⟨z1, -⟩
                  · exact Or.inl ⟨by omega, j, k, pl, by rw [← iE]; exact rdT_3 (by omega) (by omega) hcl2 ha0 z3, by rw [p2403.1]; omega, by rw [p2403.2.2 (by omega)]; exact z4⟩
                  · exact absurd z1 (by omega)⟩
          · refine WQ_iconst (1) (1) dX3_readTown_55 rfl rfl (fun v2416 hv2416 => ?_)
            refine WP_goto 64 dX3_readTown_56 rfl ?_
            refine WP_istore (ls' := [(0, _), (1, _), (2, _), (3, _), (4, _)]) dX3_readTown_64 (by decide) rfl ?_
            refine WP_iload dX3_readTown_66 rfl ?_
            refine WQ_if_ne 86 dX3_readTown_68 rfl (fun c2416 => ?_) (fun c2416 => False.elim (by omega))
            refine WP_iload dX3_readTown_86 rfl ?_
            refine WQ_if_eq 99 dX3_readTown_88 rfl (fun c2417 => False.elim (by omega)) (fun c2417 => ?_)
            refine WP_aload_n dX3_readTown_91 rfl ?_
            refine WP_iload dX3_readTown_92 rfl ?_
            refine WP_callV1 (k := 3) dX3_readTown_94 ⟨⟨⟨by decide, by decide⟩, zX3_note⟩, lX3_31, by decide, rfl, vX3_note.1, vX3_note.2⟩ (lyx_is hy 3 3 rfl) (ex_note hy hr _  ) (Nat.le_of_ble_eq_true rfl) ?_
            intro r I2420 J2421 Ra hq
            obtain ⟨ec, g2422, g2423, er, p2419⟩ := hq
            rw [ec, er]
            clear ec er Ra r
            have e2425 : I2420 (ad g 1) 2 = w2340 := by rw [FCx_at hy g2422 1 (by decide) (by decide)]; exact ew2340
            have e2426 : I2420 (ad g 1) 3 = w2341 := by rw [FCx_at hy g2422 1 (by decide) (by decide)]; exact ew2341
            have fI2427 : FC g [1, 3, 4, 6, 7, 8, 9, 10, 11, 12, 13, 14, 15, 16, 17, 18, 19, 21] I I2420 := FC_tr fI2338 (FC_mono g2422 (by decide))
            have fJ2428 : FC g [1, 20] J J2421 := FC_tr fJ2339 (FC_mono g2423 (by decide))
            obtain ⟨w2429, ew2429⟩ : ∃ w : Int32, I2420 (ad g 3) 0 = w := ⟨_, rfl⟩
            obtain ⟨w2430, ew2430⟩ : ∃ w : Int32, I2420 (ad g 3) 1 = w := ⟨_, rfl⟩
            try simp only [e2425, e2426, ew2429, ew2430, ew2274, ew2275, ew2276, ew2277] at p2419
            simp only [ew2341] at p2419
            refine WQ_iconst (0) (0) dX3_readTown_97 rfl rfl (fun v2431 hv2431 => ?_)
            exact WP_zret dX3_readTown_98 rfl (nar_z (by omega)) ⟨rfl, fI2427, fJ2428, v2431, rfl, by
              try simp only [e2425, e2426, ew2429, ew2430, ew2274, ew2275, ew2276, ew2277]
              rcases p2343 with ⟨z1, z2⟩ | ⟨z1, z2⟩
              · first
                | exact absurd z1 (by omega)
                | exact Or.inl ⟨by omega, j, 1, tF B n p1, by rw [← iE]; exact rdT_1 (by omega) (by omega) z2, by rw [p2419.1]; omega, by rw [p2419.2.2 (by omega)]; omega⟩
              · first
                | exact absurd z1 (by omega)
                | exact Or.inl ⟨by omega, j, ahd (cls B n p1) S1, tF B n p1, by rw [← iE]; exact rdT_2 (by omega) (by omega) z2 (by omega), by rw [p2419.1]; omega, by rw [p2419.2.2 (by omega)]; omega⟩⟩
        · refine WP_goto 114 dX3_readTown_42 rfl ?_
          refine WQ_iconst (1) (1) dX3_readTown_114 rfl rfl (fun v2432 hv2432 => ?_)
          exact WP_zret dX3_readTown_115 rfl (nar_z (by omega)) ⟨rfl, fI2338, fJ2339, v2432, rfl, by
            try simp only [e2336, e2337, ew2340, ew2341, ew2274, ew2275, ew2276, ew2277]
            refine Or.inr ⟨by omega, j, S1, by rw [← iE]; exact rdT_0 (by omega), hR2, iB, by omega, by omega⟩⟩
  refine WP_sub (fc rfl (fc rfl (fc rfl fn))) (lp2322 _ v2315 I2304 J2305 fI2311 fJ2312 ?_ (Nat.lt_succ_self _))
  · try simp only [ew2313, ew2314, e2309, e2310, ew2274, ew2275, ew2276, ew2277]
    refine ⟨0, 0, S0 j, by omega, by omega, by omega, p2303.1, p2303.2, ?_, (S0_b j).1, by rw [(S0_b j).2]; omega, by rw [(S0_b j).2]; omega, rfl, ?_, ?_⟩
    · exact RTX_fr hy (by decide) (RTX_fr hy (by decide) hj g2294 g2295 (by decide) (by decide)) g2306 g2307 (by decide) (by decide)
    · rw [p2291.1]; omega
    · exact p2291.2.1 (by omega)
set_option maxHeartbeats 4000000 in
set_option maxRecDepth 100000 in
theorem ex_readTownb {g : GG} {I : pI} {J : pJ} {R : pR} (hy : LyX g) (hr : RfX g R) {aK aV : Nat → Nat} {fo : Option Nat} (hz : HZ g aK aV fo) {B : Nat → Int} {n : Nat}  (hT : TPX g B n I) (hn : n ≤ 900) : SP g mX3_readTown [.ref (ad g 3), .ref (ad g 27)] I J R (fun r I' J' R' => R' = R ∧ FC g [1, 3, 4, 27, 28, 29, 30, 31, 32, 33, 34, 35, 36, 37, 38, 39, 40, 42] I I' ∧ FC g [1, 41] J J' ∧ ∃ v : Int32, r = some (.int v) ∧ ((v.toInt = 0 ∧ ∃ (j : Nat → Nat → Int) (k pl : Nat), town B n j = .error (k, pl) ∧ (I' (ad g 3) 0).toInt = (k : Int) ∧ (I' (ad g 3) 1).toInt = (pl : Int)) ∨ (v.toInt = 1 ∧ ∃ (j : Nat → Nat → Int) (S2 : TwS), town B n j = .ok S2 ∧ RTX g 27 S2 I' J' ∧ SBn S2 ∧ (I' (ad g 3) 0).toInt = 0 ∧ (I' (ad g 3) 1).toInt = -1))) := by
  refine SP_of ⟨by decide, rfl⟩ (Nat.le_of_ble_eq_true rfl) ?_
  have fI0 : FC g [1, 3, 4, 27, 28, 29, 30, 31, 32, 33, 34, 35, 36, 37, 38, 39, 40, 42] I I := FC_rf
  have fJ0 : FC g [1, 41] J J := FC_rf
  obtain ⟨w2433, ew2433⟩ : ∃ w : Int32, I (ad g 1) 2 = w := ⟨_, rfl⟩
  obtain ⟨w2434, ew2434⟩ : ∃ w : Int32, I (ad g 1) 3 = w := ⟨_, rfl⟩
  obtain ⟨w2435, ew2435⟩ : ∃ w : Int32, I (ad g 3) 0 = w := ⟨_, rfl⟩
  obtain ⟨w2436, ew2436⟩ : ∃ w : Int32, I (ad g 3) 1 = w := ⟨_, rfl⟩
  refine WP_aload_n dX3_readTown_0 rfl ?_
  refine WP_callV0 (k := 7) dX3_readTown_1 ⟨⟨⟨by decide, by decide⟩, zX7_forget⟩, lX3_26, by decide, rfl, vX7_forget.1, vX7_forget.2⟩ (lyx_is hy 27 7 rfl) (ex_forgetb hy hr   ) (Nat.le_of_ble_eq_true rfl) ?_
  intro r I2438 J2439 Ra hq
  obtain ⟨ec, g2440, g2441, er, p2437⟩ := hq
  rw [ec, er]
  clear ec er Ra r
  have e2443 : I2438 (ad g 1) 2 = w2433 := by rw [FCx_at hy g2440 1 (by decide) (by decide)]; exact ew2433
  have e2444 : I2438 (ad g 1) 3 = w2434 := by rw [FCx_at hy g2440 1 (by decide) (by decide)]; exact ew2434
  have e2445 : I2438 (ad g 3) 0 = w2435 := by rw [FCx_at hy g2440 3 (by decide) (by decide)]; exact ew2435
  have e2446 : I2438 (ad g 3) 1 = w2436 := by rw [FCx_at hy g2440 3 (by decide) (by decide)]; exact ew2436
  have fI2447 : FC g [1, 3, 4, 27, 28, 29, 30, 31, 32, 33, 34, 35, 36, 37, 38, 39, 40, 42] I I2438 := FC_tr fI0 (FC_mono g2440 (by decide))
  have fJ2448 : FC g [1, 41] J J2439 := FC_tr fJ0 (FC_mono g2441 (by decide))
  try simp only [e2443, e2444, e2445, e2446, ew2433, ew2434, ew2435, ew2436] at p2437
  obtain ⟨j, hj⟩ := p2437
  refine WP_aload_n dX3_readTown_4 rfl ?_
  refine WQ_iconst (0) (0) dX3_readTown_5 rfl rfl (fun v2449 hv2449 => ?_)
  refine WP_callV1 (k := 3) dX3_readTown_6 ⟨⟨⟨by decide, by decide⟩, zX3_note⟩, lX3_31, by decide, rfl, vX3_note.1, vX3_note.2⟩ (lyx_is hy 3 3 rfl) (ex_note hy hr _  ) (Nat.le_of_ble_eq_true rfl) ?_
  intro r I2451 J2452 Ra hq
  obtain ⟨ec, g2453, g2454, er, p2450⟩ := hq
  rw [ec, er]
  clear ec er Ra r
  have e2456 : I2451 (ad g 1) 2 = w2433 := by rw [FCx_at hy g2453 1 (by decide) (by decide)]; exact e2443
  have e2457 : I2451 (ad g 1) 3 = w2434 := by rw [FCx_at hy g2453 1 (by decide) (by decide)]; exact e2444
  have fI2458 : FC g [1, 3, 4, 27, 28, 29, 30, 31, 32, 33, 34, 35, 36, 37, 38, 39, 40, 42] I I2451 := FC_tr fI2447 (FC_mono g2453 (by decide))
  have fJ2459 : FC g [1, 41] J J2452 := FC_tr fJ2448 (FC_mono g2454 (by decide))
  obtain ⟨w2460, ew2460⟩ : ∃ w : Int32, I2451 (ad g 3) 0 = w := ⟨_, rfl⟩
  obtain ⟨w2461, ew2461⟩ : ∃ w : Int32, I2451 (ad g 3) 1 = w := ⟨_, rfl⟩
  try simp only [e2456, e2457, ew2460, ew2461, ew2433, ew2434, ew2435, ew2436] at p2450
  refine WP_aload_n dX3_readTown_9 rfl ?_
  refine WP_getr dX3_readTown_10 fX3_15 rfl (lyx_is hy 3 3 rfl) (rfx hr 3 2 1 (by decide)) ?_
  refine WP_callV0 (k := 5) dX3_readTown_13 ⟨⟨⟨by decide, by decide⟩, zX5_rewind⟩, lX3_35, by decide, rfl, vX5_rewind.1, vX5_rewind.2⟩ (lyx_is hy 1 5 rfl) (ex_rewind hy hr   (TPX_fr hy (TPX_fr hy hT g2440 (by decide)) g2453 (by decide))) (Nat.le_of_ble_eq_true rfl) ?_
  intro r I2463 J2464 Ra hq
  obtain ⟨ec, g2465, g2466, er, p2462⟩ := hq
  rw [ec, er]
  clear ec er Ra r
  have e2468 : I2463 (ad g 3) 0 = w2460 := by rw [FCx_at hy g2465 3 (by decide) (by decide)]; exact ew2460
  have e2469 : I2463 (ad g 3) 1 = w2461 := by rw [FCx_at hy g2465 3 (by decide) (by decide)]; exact ew2461
  have fI2470 : FC g [1, 3, 4, 27, 28, 29, 30, 31, 32, 33, 34, 35, 36, 37, 38, 39, 40, 42] I I2463 := FC_tr fI2458 (FC_mono g2465 (by decide))
  have fJ2471 : FC g [1, 41] J J2464 := FC_tr fJ2459 (FC_mono g2466 (by decide))
  obtain ⟨w2472, ew2472⟩ : ∃ w : Int32, I2463 (ad g 1) 2 = w := ⟨_, rfl⟩
  obtain ⟨w2473, ew2473⟩ : ∃ w : Int32, I2463 (ad g 1) 3 = w := ⟨_, rfl⟩
  try simp only [ew2472, ew2473, e2468, e2469, ew2433, ew2434, ew2435, ew2436] at p2462
  refine WQ_iconst (0) (0) dX3_readTown_16 rfl rfl (fun v2474 hv2474 => ?_)
  refine WP_istore_n (ls' := [(0, _), (1, _), (2, _)]) dX3_readTown_17 (by decide) rfl ?_
  have lp2481 : ∀ (mz : Nat) (i2475 : Int32) (I2476 : pI) (J2479 : pJ), FC g [1, 3, 4, 27, 28, 29, 30, 31, 32, 33, 34, 35, 36, 37, 38, 39, 40, 42] I I2476 → FC g [1, 41] J J2479 → (∃ (i p1 : Nat) (S1 : TwS), i2475.toInt = (i : Int) ∧ i ≤ 901 ∧ p1 ≤ n ∧ TPX g B n I2476 ∧ (I2476 (ad g 1) 6).toInt = (p1 : Int) ∧ RTX g 27 S1 I2476 J2479 ∧ SBn S1 ∧ 0 ≤ S1.1 0 0 ∧ S1.1 0 0 ≤ (i : Int) ∧ rdT B n (901 - i) p1 S1 = town B n j ∧ (I2476 (ad g 3) 0).toInt = 0 ∧ (I2476 (ad g 3) 1).toInt = -1) → (901 - i2475.toInt.toNat) < mz → WP g mX3_readTown 18 [(0, .ref (ad g 3)), (1, .ref (ad g 27)), (2, .int i2475)] [] I2476 J2479 R (fun r I' J' R' => R' = R ∧ FC g [1, 3, 4, 27, 28, 29, 30, 31, 32, 33, 34, 35, 36, 37, 38, 39, 40, 42] I I' ∧ FC g [1, 41] J J' ∧ ∃ v : Int32, r = some (.int v) ∧ ((v.toInt = 0 ∧ ∃ (j : Nat → Nat → Int) (k pl : Nat), town B n j = .error (k, pl) ∧ (I' (ad g 3) 0).toInt = (k : Int) ∧ (I' (ad g 3) 1).toInt = (pl : Int)) ∨ (v.toInt = 1 ∧ ∃ (j : Nat → Nat → Int) (S2 : TwS), town B n j = .ok S2 ∧ RTX g 27 S2 I' J' ∧ SBn S2 ∧ (I' (ad g 3) 0).toInt = 0 ∧ (I' (ad g 3) 1).toInt = -1))) := by
    intro mz
    induction mz with
    | zero =>
      intro i2475 I2476 J2479 fI2477 fJ2480 hvlp2481 hmlp2481
      exact absurd hmlp2481 (Nat.not_lt_zero _)
    | succ mz ihlp2481 =>
      intro i2475 I2476 J2479 fI2477 fJ2480 hvlp2481 hmlp2481
      obtain ⟨w2482, ew2482⟩ : ∃ w : Int32, I2476 (ad g 1) 2 = w := ⟨_, rfl⟩
      obtain ⟨w2483, ew2483⟩ : ∃ w : Int32, I2476 (ad g 1) 3 = w := ⟨_, rfl⟩
      obtain ⟨w2484, ew2484⟩ : ∃ w : Int32, I2476 (ad g 3) 0 = w := ⟨_, rfl⟩
      obtain ⟨w2485, ew2485⟩ : ∃ w : Int32, I2476 (ad g 3) 1 = w := ⟨_, rfl⟩
      try simp only [ew2482, ew2483, ew2484, ew2485, ew2433, ew2434, ew2435, ew2436] at hvlp2481 hmlp2481
      obtain ⟨i, p1, S1, ii, il, ip, iT, i6, iR, iB, i0, i00, iE, if0, if1⟩ := hvlp2481
      refine WP_iload_n dX3_readTown_18 rfl ?_
      refine WQ_sipush (900) (900) dX3_readTown_19 rfl rfl (fun v2486 hv2486 => ?_)
      refine WQ_icmp_gt 114 dX3_readTown_22 rfl (fun c2486 => ?_) (fun c2486 => ?_)
      · refine WQ_iconst (1) (1) dX3_readTown_114 rfl rfl (fun v2488 hv2488 => ?_)
        exact WP_zret dX3_readTown_115 rfl (nar_z (by omega)) ⟨rfl, fI2477, fJ2480, v2488, rfl, by
          try simp only [ew2482, ew2483, ew2484, ew2485, ew2433, ew2434, ew2435, ew2436]
          refine Or.inr ⟨by omega, j, S1, by rw [← iE]; exact rdT_f (by omega), iR, iB, by omega, by omega⟩⟩
      · refine WP_aload_n dX3_readTown_25 rfl ?_
        refine WP_getr dX3_readTown_26 fX3_15 rfl (lyx_is hy 3 3 rfl) (rfx hr 3 2 1 (by decide)) ?_
        refine WP_callV0 (k := 5) dX3_readTown_29 ⟨⟨⟨by decide, by decide⟩, zX5_next⟩, lX3_40, by decide, rfl, vX5_next.1, vX5_next.2⟩ (lyx_is hy 1 5 rfl) (ex_next hy hr   iT hn i6 ip) (Nat.le_of_ble_eq_true rfl) ?_
        intro r I2490 J2491 Ra hq
        obtain ⟨ec, g2492, g2493, er, p2489⟩ := hq
        rw [ec, er]
        clear ec er Ra r
        have e2495 : I2490 (ad g 3) 0 = w2484 := by rw [FCx_at hy g2492 3 (by decide) (by decide)]; exact ew2484
        have e2496 : I2490 (ad g 3) 1 = w2485 := by rw [FCx_at hy g2492 3 (by decide) (by decide)]; exact ew2485
        have fI2497 : FC g [1, 3, 4, 27, 28, 29, 30, 31, 32, 33, 34, 35, 36, 37, 38, 39, 40, 42] I I2490 := FC_tr fI2477 (FC_mono g2492 (by decide))
        have fJ2498 : FC g [1, 41] J J2491 := FC_tr fJ2480 (FC_mono g2493 (by decide))
        obtain ⟨w2499, ew2499⟩ : ∃ w : Int32, I2490 (ad g 1) 2 = w := ⟨_, rfl⟩
        obtain ⟨w2500, ew2500⟩ : ∃ w : Int32, I2490 (ad g 1) 3 = w := ⟨_, rfl⟩
        try simp only [ew2499, ew2500, e2495, e2496, ew2433, ew2434, ew2435, ew2436] at p2489
        obtain ⟨hT2, hC2⟩ := p2489
        have hR2 := RTX_fr hy (by decide) iR g2492 g2493 (by decide) (by decide)
        have c2 := hC2.2.2.1
        have c3 := hC2.1
        try simp only [ew2499] at c2
        try simp only [ew2500] at c3
        refine WP_aload_n dX3_readTown_32 rfl ?_
        refine WP_getr dX3_readTown_33 fX3_15 rfl (lyx_is hy 3 3 rfl) (rfx hr 3 2 1 (by decide)) ?_
        refine WQ_getim dX3_readTown_36 fX3_43 rfl (lyx_is hy 1 5 rfl) ew2499 ?_
        refine WQ_if_ne 45 dX3_readTown_39 rfl (fun c2500 => ?_) (fun c2500 => ?_)
        · refine WP_aload_n dX3_readTown_45 rfl ?_
          refine WP_callV0 (k := 3) dX3_readTown_46 ⟨⟨⟨by decide, by decide⟩, zX3_clauseAtHand⟩, lX3_46, by decide, rfl, vX3_clauseAtHand.1, vX3_clauseAtHand.2⟩ (lyx_is hy 3 3 rfl) (ex_clauseAtHand hy hr hz   hC2) (Nat.le_of_ble_eq_true rfl) ?_
          intro r Ia Ja Ra hq
          obtain ⟨⟨ea, eb, ec⟩, v2503, er, p2502⟩ := hq
          rw [ea, eb, ec, er]
          clear ea eb ec er Ia Ja Ra r
          refine WP_istore_n (ls' := [(0, _), (1, _), (2, _), (3, _)]) dX3_readTown_49 (by decide) rfl ?_
          refine WP_iload_n dX3_readTown_50 rfl ?_
          refine WQ_iconst (-1) (-1) dX3_readTown_51 rfl rfl (fun v2504 hv2504 => ?_)
          refine WQ_icmp_ne 59 dX3_readTown_52 rfl (fun c2504 => ?_) (fun c2504 => ?_)
          · refine WP_aload_n dX3_readTown_59 rfl ?_
            refine WP_iload_n dX3_readTown_60 rfl ?_
            refine WP_callV1 (k := 7) dX3_readTown_61 ⟨⟨⟨by decide, by decide⟩, zX7_faultAhead⟩, lX3_50, by decide, rfl, vX7_faultAhead.1, vX7_faultAhead.2⟩ (lyx_is hy 27 7 rfl) (ex_faultAheadb hy hr _  (c := cls B n p1) hR2 (by omega) (by omega)) (Nat.le_of_ble_eq_true rfl) ?_
            intro r Ia Ja Ra hq
            obtain ⟨⟨ea, eb, ec⟩, v2507, er, p2506⟩ := hq
            rw [ea, eb, ec, er]
            clear ea eb ec er Ia Ja Ra r
            refine WP_istore (ls' := [(0, _), (1, _), (2, _), (3, _), (4, _)]) dX3_readTown_64 (by decide) rfl ?_
            refine WP_iload dX3_readTown_66 rfl ?_
            refine WQ_if_ne 86 dX3_readTown_68 rfl (fun c2507 => ?_) (fun c2507 => ?_)
            · refine WP_iload dX3_readTown_86 rfl ?_
              refine WQ_if_eq 99 dX3_readTown_88 rfl (fun c2508 => False.elim (by omega)) (fun c2508 => ?_)
              refine WP_aload_n dX3_readTown_91 rfl ?_
              refine WP_iload dX3_readTown_92 rfl ?_
              refine WP_callV1 (k := 3) dX3_readTown_94 ⟨⟨⟨by decide, by decide⟩, zX3_note⟩, lX3_31, by decide, rfl, vX3_note.1, vX3_note.2⟩ (lyx_is hy 3 3 rfl) (ex_note hy hr _  ) (Nat.le_of_ble_eq_true rfl) ?_
              intro r I2511 J2512 Ra hq
              obtain ⟨ec, g2513, g2514, er, p2510⟩ := hq
              rw [ec, er]
              clear ec er Ra r
              have e2516 : I2511 (ad g 1) 2 = w2499 := by rw [FCx_at hy g2513 1 (by decide) (by decide)]; exact ew2499
              have e2517 : I2511 (ad g 1) 3 = w2500 := by rw [FCx_at hy g2513 1 (by decide) (by decide)]; exact ew2500
              have fI2518 : FC g [1, 3, 4, 27, 28, 29, 30, 31, 32, 33, 34, 35, 36, 37, 38, 39, 40, 42] I I2511 := FC_tr fI2497 (FC_mono g2513 (by decide))
              have fJ2519 : FC g [1, 41] J J2512 := FC_tr fJ2498 (FC_mono g2514 (by decide))
              obtain ⟨w2520, ew2520⟩ : ∃ w : Int32, I2511 (ad g 3) 0 = w := ⟨_, rfl⟩
              obtain ⟨w2521, ew2521⟩ : ∃ w : Int32, I2511 (ad g 3) 1 = w := ⟨_, rfl⟩
              try simp only [e2516, e2517, ew2520, ew2521, ew2433, ew2434, ew2435, ew2436] at p2510
              simp only [ew2500] at p2510
              refine WQ_iconst (0) (0) dX3_readTown_97 rfl rfl (fun v2522 hv2522 => ?_)
              exact WP_zret dX3_readTown_98 rfl (nar_z (by omega)) ⟨rfl, fI2518, fJ2519, v2522, rfl, by
                try simp only [e2516, e2517, ew2520, ew2521, ew2433, ew2434, ew2435, ew2436]
                rcases p2502 with ⟨z1, z2⟩ | ⟨z1, z2⟩
                · first
                  | exact absurd z1 (by omega)
                  | exact Or.inl ⟨by omega, j, 1, tF B n p1, by rw [← iE]; exact rdT_1 (by omega) (by omega) z2, by rw [p2510.1]; omega, by rw [p2510.2.2 (by omega)]; omega⟩
                · first
                  | exact absurd z1 (by omega)
                  | exact Or.inl ⟨by omega, j, ahd (cls B n p1) S1, tF B n p1, by rw [← iE]; exact rdT_2 (by omega) (by omega) z2 (by omega), by rw [p2510.1]; omega, by rw [p2510.2.2 (by omega)]; omega⟩⟩
            · refine WP_aload_n dX3_readTown_71 rfl ?_
              refine WP_getr dX3_readTown_72 fX3_15 rfl (lyx_is hy 3 3 rfl) (rfx hr 3 2 1 (by decide)) ?_
              refine WP_callV0 (k := 5) dX3_readTown_75 ⟨⟨⟨by decide, by decide⟩, zX5_next⟩, lX3_40, by decide, rfl, vX5_next.1, vX5_next.2⟩ (lyx_is hy 1 5 rfl) (ex_next hy hr   hT2 hn hC2.2.1 (tT_le B ip).2) (Nat.le_of_ble_eq_true rfl) ?_
              intro r I2524 J2525 Ra hq
              obtain ⟨ec, g2526, g2527, er, p2523⟩ := hq
              rw [ec, er]
              clear ec er Ra r
              have e2529 : I2524 (ad g 3) 0 = w2484 := by rw [FCx_at hy g2526 3 (by decide) (by decide)]; exact e2495
              have e2530 : I2524 (ad g 3) 1 = w2485 := by rw [FCx_at hy g2526 3 (by decide) (by decide)]; exact e2496
              have fI2531 : FC g [1, 3, 4, 27, 28, 29, 30, 31, 32, 33, 34, 35, 36, 37, 38, 39, 40, 42] I I2524 := FC_tr fI2497 (FC_mono g2526 (by decide))
              have fJ2532 : FC g [1, 41] J J2525 := FC_tr fJ2498 (FC_mono g2527 (by decide))
              obtain ⟨w2533, ew2533⟩ : ∃ w : Int32, I2524 (ad g 1) 2 = w := ⟨_, rfl⟩
              obtain ⟨w2534, ew2534⟩ : ∃ w : Int32, I2524 (ad g 1) 3 = w := ⟨_, rfl⟩
              try simp only [ew2533, ew2534, e2529, e2530, ew2433, ew2434, ew2435, ew2436] at p2523
              obtain ⟨hT3, hC3⟩ := p2523
              have hR3 := RTX_fr hy (by decide) hR2 g2526 g2527 (by decide) (by decide)
              have hcl2 : cls B n p1 < 10 := by omega
              have ha0 : ahd (cls B n p1) S1 = 0 := by omega
              have hrm := ahd_0 iB ha0
              refine WP_aload_n dX3_readTown_78 rfl ?_
              refine WP_iload_n dX3_readTown_79 rfl ?_
              refine WP_aload_n dX3_readTown_80 rfl ?_
              refine WP_callV2 (k := 3) dX3_readTown_81 ⟨⟨⟨by decide, by decide⟩, zX3_faultInParts⟩, lX3_54, by decide, rfl, vX3_faultInParts.1, vX3_faultInParts.2⟩ (lyx_is hy 3 3 rfl) (ex_fipb hy hr hz _  (c := cls B n p1) (S := S1) (by omega) (by omega) hn (tT_le B ip).2 hT3 hC3 hR3 iB hrm.1 hrm.2) (Nat.le_of_ble_eq_true rfl) ?_
              intro r I2537 J2538 Ra hq
              obtain ⟨ec, g2539, g2540, v2536, er, p2535⟩ := hq
              rw [ec, er]
              clear ec er Ra r
              have e2542 : I2537 (ad g 3) 0 = w2484 := by rw [FCx_at hy g2539 3 (by decide) (by decide)]; exact e2529
              have e2543 : I2537 (ad g 3) 1 = w2485 := by rw [FCx_at hy g2539 3 (by decide) (by decide)]; exact e2530
              have fI2544 : FC g [1, 3, 4, 27, 28, 29, 30, 31, 32, 33, 34, 35, 36, 37, 38, 39, 40, 42] I I2537 := FC_tr fI2531 (FC_mono g2539 (by decide))
              have fJ2545 : FC g [1, 41] J J2538 := FC_tr fJ2532 (FC_mono g2540 (by decide))
              obtain ⟨w2546, ew2546⟩ : ∃ w : Int32, I2537 (ad g 1) 2 = w := ⟨_, rfl⟩
              obtain ⟨w2547, ew2547⟩ : ∃ w : Int32, I2537 (ad g 1) 3 = w := ⟨_, rfl⟩
              try simp only [ew2546, ew2547, e2542, e2543, ew2433, ew2434, ew2435, ew2436] at p2535
              refine WP_istore (ls' := [(0, _), (1, _), (2, _), (3, _), (4, _)]) dX3_readTown_84 (by decide) rfl ?_
              refine WP_iload dX3_readTown_86 rfl ?_
              refine WQ_if_eq 99 dX3_readTown_88 rfl (fun c2547 => ?_) (fun c2547 => ?_)
              · have hok := Or.resolve_left p2535 (by rintro ⟨k, pl, z1, z2, -⟩; omega)
                clear p2535
                obtain ⟨-, S2, P2, p2, hz, hR4, hP4, hT3, hC3⟩ := hok
                have kz := clz_ok iB (tT_le B ip).2 (by omega) hz
                have bb := clz_b iB hcl2 kz.2.2.2.1
                have hbz : SBn S2 := by unfold SBn; rw [kz.1 1, kz.1 2]; exact iB
                have tb2 := tel_b (c := cls B n p1) (P := P2) hbz hcl2 (by intro e; rw [kz.1 1]; exact hrm.1 e) (by intro e; rw [kz.1 2]; exact hrm.2 e)
                refine WP_aload_n dX3_readTown_99 rfl ?_
                refine WP_iload_n dX3_readTown_100 rfl ?_
                refine WP_aload_n dX3_readTown_101 rfl ?_
                refine WP_getr dX3_readTown_102 fX3_9 rfl (lyx_is hy 3 3 rfl) (rfx hr 3 3 4 (by decide)) ?_
                refine WP_callV2 (k := 7) dX3_readTown_105 ⟨⟨⟨by decide, by decide⟩, zX7_tell⟩, lX3_58, by decide, rfl, vX7_tell.1, vX7_tell.2⟩ (lyx_is hy 27 7 rfl) (ex_tellb hy hr _  (S := S2) (P := P2) (c := cls B n p1) hR4 (by omega) hcl2 (by rw [kz.1 0]; omega) hP4 bb.1 bb.2.1 bb.2.2.1 bb.2.2.2.1 bb.2.2.2.2 (by intro e; rw [kz.1 1]; exact ⟨by unfold SBn at iB; omega, hrm.1 e⟩) (by intro e; rw [kz.1 2]; exact ⟨by unfold SBn at iB; omega, hrm.2 e⟩)) (Nat.le_of_ble_eq_true rfl) ?_
                intro r I2550 J2551 Ra hq
                obtain ⟨ec, g2552, g2553, er, p2549⟩ := hq
                rw [ec, er]
                clear ec er Ra r
                have e2555 : I2550 (ad g 3) 0 = w2484 := by rw [FCx_at hy g2552 3 (by decide) (by decide)]; exact e2542
                have e2556 : I2550 (ad g 3) 1 = w2485 := by rw [FCx_at hy g2552 3 (by decide) (by decide)]; exact e2543
                have e2557 : I2550 (ad g 1) 2 = w2546 := by rw [FCx_at hy g2552 1 (by decide) (by decide)]; exact ew2546
                have e2558 : I2550 (ad g 1) 3 = w2547 := by rw [FCx_at hy g2552 1 (by decide) (by decide)]; exact ew2547
                have fI2559 : FC g [1, 3, 4, 27, 28, 29, 30, 31, 32, 33, 34, 35, 36, 37, 38, 39, 40, 42] I I2550 := FC_tr fI2544 (FC_mono g2552 (by decide))
                have fJ2560 : FC g [1, 41] J J2551 := FC_tr fJ2545 (FC_mono g2553 (by decide))
                try simp only [e2557, e2558, e2555, e2556, ew2433, ew2434, ew2435, ew2436] at p2549
                refine WP_iinc (ls' := [(0, _), (1, _), (2, _), (3, _), (4, _)]) dX3_readTown_108 rfl (by decide) rfl ?_
                have hv2561 : (i2475 + Int32.ofInt (1)).toInt = i2475.toInt + (1) := ia_n rfl (by omega) (by omega)
                generalize i2475 + Int32.ofInt (1) = v2561 at hv2561 ⊢
                refine WP_goto 18 dX3_readTown_111 rfl ?_
                refine WP_sub (fc rfl (fc rfl (fc rfl fn))) (ihlp2481 v2561 I2550 J2551 fI2559 fJ2560 ?_ ?_)
                · try simp only [e2557, e2558, e2555, e2556, ew2433, ew2434, ew2435, ew2436]
                  refine ⟨i + 1, tT B n p2, tel (cls B n p1) P2 S2, by omega, by omega, (tT_le B kz.2.2.2.2.2.1).2, ?_, ?_, p2549, tb2.1, by rw [tb2.2, kz.1 0]; omega, by rw [tb2.2, kz.1 0]; omega, ?_, ?_, ?_⟩
                  · exact TPX_fr hy hT3 g2552 (by decide)
                  · have := FCx_at hy g2552 1 (by decide) (by decide)
                    rw [this]; exact hC3.2.1
                  · rw [← iE]; exact (rdT_4 (by omega) (by omega) hcl2 ha0 hz).symm
                  · omega
                  · omega
                · try simp only [e2557, e2558, e2555, e2556, ew2433, ew2434, ew2435, ew2436]
                  omega
              · refine WP_aload_n dX3_readTown_91 rfl ?_
                refine WP_iload dX3_readTown_92 rfl ?_
                refine WP_callV1 (k := 3) dX3_readTown_94 ⟨⟨⟨by decide, by decide⟩, zX3_note⟩, lX3_31, by decide, rfl, vX3_note.1, vX3_note.2⟩ (lyx_is hy 3 3 rfl) (ex_note hy hr _  ) (Nat.le_of_ble_eq_true rfl) ?_
                intro r I2563 J2564 Ra hq
                obtain ⟨ec, g2565, g2566, er, p2562⟩ := hq
                rw [ec, er]
                clear ec er Ra r
                have e2568 : I2563 (ad g 1) 2 = w2546 := by rw [FCx_at hy g2565 1 (by decide) (by decide)]; exact ew2546
                have e2569 : I2563 (ad g 1) 3 = w2547 := by rw [FCx_at hy g2565 1 (by decide) (by decide)]; exact ew2547
                have fI2570 : FC g [1, 3, 4, 27, 28, 29, 30, 31, 32, 33, 34, 35, 36, 37, 38, 39, 40, 42] I I2563 := FC_tr fI2544 (FC_mono g2565 (by decide))
                have fJ2571 : FC g [1, 41] J J2564 := FC_tr fJ2545 (FC_mono g2566 (by decide))
                obtain ⟨w2572, ew2572⟩ : ∃ w : Int32, I2563 (ad g 3) 0 = w := ⟨_, rfl⟩
                obtain ⟨w2573, ew2573⟩ : ∃ w : Int32, I2563 (ad g 3) 1 = w := ⟨_, rfl⟩
                try simp only [e2568, e2569, ew2572, ew2573, ew2433, ew2434, ew2435, ew2436] at p2562
                simp only [ew2547] at p2562
                refine WQ_iconst (0) (0) dX3_readTown_97 rfl rfl (fun v2574 hv2574 => ?_)
                exact WP_zret dX3_readTown_98 rfl (nar_z (by omega)) ⟨rfl, fI2570, fJ2571, v2574, rfl, by
                  try simp only [e2568, e2569, ew2572, ew2573, ew2433, ew2434, ew2435, ew2436]
                  rcases p2535 with ⟨k, pl, z1, z2, z3, z4, -⟩ | ⟨z1, -⟩
                  · exact Or.inl ⟨by omega, j, k, pl, by rw [← iE]; exact rdT_3 (by omega) (by omega) hcl2 ha0 z3, by rw [p2562.1]; omega, by rw [p2562.2.2 (by omega)]; exact z4⟩
                  · exact absurd z1 (by omega)⟩
          · refine WQ_iconst (1) (1) dX3_readTown_55 rfl rfl (fun v2575 hv2575 => ?_)
            refine WP_goto 64 dX3_readTown_56 rfl ?_
            refine WP_istore (ls' := [(0, _), (1, _), (2, _), (3, _), (4, _)]) dX3_readTown_64 (by decide) rfl ?_
            refine WP_iload dX3_readTown_66 rfl ?_
            refine WQ_if_ne 86 dX3_readTown_68 rfl (fun c2575 => ?_) (fun c2575 => False.elim (by omega))
            refine WP_iload dX3_readTown_86 rfl ?_
            refine WQ_if_eq 99 dX3_readTown_88 rfl (fun c2576 => False.elim (by omega)) (fun c2576 => ?_)
            refine WP_aload_n dX3_readTown_91 rfl ?_
            refine WP_iload dX3_readTown_92 rfl ?_
            refine WP_callV1 (k := 3) dX3_readTown_94 ⟨⟨⟨by decide, by decide⟩, zX3_note⟩, lX3_31, by decide, rfl, vX3_note.1, vX3_note.2⟩ (lyx_is hy 3 3 rfl) (ex_note hy hr _  ) (Nat.le_of_ble_eq_true rfl) ?_
            intro r I2579 J2580 Ra hq
            obtain ⟨ec, g2581, g2582, er, p2578⟩ := hq
            rw [ec, er]
            clear ec er Ra r
            have e2584 : I2579 (ad g 1) 2 = w2499 := by rw [FCx_at hy g2581 1 (by decide) (by decide)]; exact ew2499
            have e2585 : I2579 (ad g 1) 3 = w2500 := by rw [FCx_at hy g2581 1 (by decide) (by decide)]; exact ew2500
            have fI2586 : FC g [1, 3, 4, 27, 28, 29, 30, 31, 32, 33, 34, 35, 36, 37, 38, 39, 40, 42] I I2579 := FC_tr fI2497 (FC_mono g2581 (by decide))
            have fJ2587 : FC g [1, 41] J J2580 := FC_tr fJ2498 (FC_mono g2582 (by decide))
            obtain ⟨w2588, ew2588⟩ : ∃ w : Int32, I2579 (ad g 3) 0 = w := ⟨_, rfl⟩
            obtain ⟨w2589, ew2589⟩ : ∃ w : Int32, I2579 (ad g 3) 1 = w := ⟨_, rfl⟩
            try simp only [e2584, e2585, ew2588, ew2589, ew2433, ew2434, ew2435, ew2436] at p2578
            simp only [ew2500] at p2578
            refine WQ_iconst (0) (0) dX3_readTown_97 rfl rfl (fun v2590 hv2590 => ?_)
            exact WP_zret dX3_readTown_98 rfl (nar_z (by omega)) ⟨rfl, fI2586, fJ2587, v2590, rfl, by
              try simp only [e2584, e2585, ew2588, ew2589, ew2433, ew2434, ew2435, ew2436]
              rcases p2502 with ⟨z1, z2⟩ | ⟨z1, z2⟩
              · first
                | exact absurd z1 (by omega)
                | exact Or.inl ⟨by omega, j, 1, tF B n p1, by rw [← iE]; exact rdT_1 (by omega) (by omega) z2, by rw [p2578.1]; omega, by rw [p2578.2.2 (by omega)]; omega⟩
              · first
                | exact absurd z1 (by omega)
                | exact Or.inl ⟨by omega, j, ahd (cls B n p1) S1, tF B n p1, by rw [← iE]; exact rdT_2 (by omega) (by omega) z2 (by omega), by rw [p2578.1]; omega, by rw [p2578.2.2 (by omega)]; omega⟩⟩
        · refine WP_goto 114 dX3_readTown_42 rfl ?_
          refine WQ_iconst (1) (1) dX3_readTown_114 rfl rfl (fun v2591 hv2591 => ?_)
          exact WP_zret dX3_readTown_115 rfl (nar_z (by omega)) ⟨rfl, fI2497, fJ2498, v2591, rfl, by
            try simp only [e2495, e2496, ew2499, ew2500, ew2433, ew2434, ew2435, ew2436]
            refine Or.inr ⟨by omega, j, S1, by rw [← iE]; exact rdT_0 (by omega), hR2, iB, by omega, by omega⟩⟩
  refine WP_sub (fc rfl (fc rfl (fc rfl fn))) (lp2481 _ v2474 I2463 J2464 fI2470 fJ2471 ?_ (Nat.lt_succ_self _))
  · try simp only [ew2472, ew2473, e2468, e2469, ew2433, ew2434, ew2435, ew2436]
    refine ⟨0, 0, S0 j, by omega, by omega, by omega, p2462.1, p2462.2, ?_, (S0_b j).1, by rw [(S0_b j).2]; omega, by rw [(S0_b j).2]; omega, rfl, ?_, ?_⟩
    · exact RTX_fr hy (by decide) (RTX_fr hy (by decide) hj g2453 g2454 (by decide) (by decide)) g2465 g2466 (by decide) (by decide)
    · rw [p2450.1]; omega
    · exact p2450.2.1 (by omega)
