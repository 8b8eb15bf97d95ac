theorem p256 : ∀ k, k < 8 → (256 : Int) ^ k ≤ 72057594037927936 := by decide +kernel
theorem p10 : ∀ k, k < 4 → (10 : Int) ^ k ≤ 1000 := by decide +kernel
theorem of_bL {b : Int} (h : bL b = true) : 97 ≤ b ∧ b ≤ 122 := by simpa [bL] using h
theorem of_bD {b : Int} (h : bD b = true) : 48 ≤ b ∧ b ≤ 57 := by simpa [bD] using h
theorem tpx_fc {g : GG} (hy : LyX g) {B : Nat → Int} {n : Nat} {I I' : pI} (h : TPX g B n I) (hf : FC g [1] I I') (h1 : (I' (ad g 1) 1).toInt = (n : Int)) : TPX g B n I' := ⟨h1, fun q hq => by rw [FCx_at hy hf 2 (by decide) (by decide)]; exact h.2 q hq⟩
theorem wstep {B : Nat → Int} {f p : Nat} {w l1 l2 l3 : Int64} {s b : Int32} (hfp : f ≤ p) (hk : p + 1 - f ≤ 8) (hall : ∀ q, f ≤ q → q < p → bL (B q) = true) (hw : p - f ≤ 8 → w.toInt = wI B f (p - f)) (hb : b.toInt = B p) (hl : bL (B p) = true) (hs : s.toInt = 8) (x1 : l1 = w <<< (s.toInt64 &&& 63)) (h2 : l2.toInt = b.toInt) (x3 : l3 = l1 ||| l2) : l3.toInt = wI B f (p + 1 - f) := by
  have hk' := hw (by omega)
  have hb2 := wI_b (B := B) (a := f) (k := p - f) (fun q h1 h2 => of_bL (hall q h1 (by omega)))
  have hp := p256 (p - f) (by omega)
  have hl' := of_bL hl
  rw [show p + 1 - f = (p - f) + 1 by omega, wI, show f + (p - f) = p by omega, ← hk', ← hb, ← h2]
  exact lsor8 hs x1 x3 (by omega) (by omega) (by omega) (by omega)
theorem nstep {B : Nat → Int} {f p : Nat} {x y z v b c t : Int32} (hfp : f ≤ p) (hk : p + 1 - f ≤ 4) (hall : ∀ q, f ≤ q → q < p → bD (B q) = true) (hx : p - f ≤ 4 → x.toInt = nuI B f (p - f)) (hb : b.toInt = B p) (hl : bD (B p) = true) (ht : t.toInt = 10) (hc : c.toInt = 48) (x1 : y = x * t) (x2 : z = y + b) (x3 : v = z - c) : v.toInt = nuI B f (p + 1 - f) := by
  have hk' := hx (by omega)
  have hb2 := nuI_b (B := B) (a := f) (k := p - f) (fun q h1 h2 => of_bD (hall q h1 (by omega)))
  have hp := p10 (p - f) (by omega)
  have hl' := of_bD hl
  have e1 : y.toInt = x.toInt * t.toInt := by rw [x1]; exact im (by rw [ht]; omega) (by rw [ht]; omega)
  rw [ht] at e1
  have e2 : z.toInt = y.toInt + b.toInt := by rw [x2]; exact ia (by omega) (by omega)
  have e3 : v.toInt = z.toInt - c.toInt := by rw [x3]; exact is' (by omega) (by omega)
  rw [show p + 1 - f = (p - f) + 1 by omega, nuI, show f + (p - f) = p by omega, ← hk', ← hb]
  omega

set_option maxHeartbeats 4000000 in
set_option maxRecDepth 100000 in
theorem ex_isLetter {g : GG} {I : pI} {J : pJ} {R : pR} (hy : LyX g) (hr : RfX g R)  (b : Int32)  : SP g mX5_isLetter [.int b] I J R (fun r I' J' R' => (I' = I ∧ J' = J ∧ R' = R) ∧ ∃ v : Int32, r = some (.int v) ∧ ((v.toInt = 1 ∧ bL b.toInt = true) ∨ (v.toInt = 0 ∧ bL b.toInt = false))) := by
  refine SP_of ⟨by decide, rfl⟩ (Nat.le_of_ble_eq_true rfl) ?_
  refine WP_iload_n dX5_isLetter_0 rfl ?_
  refine WQ_bipush (97) (97) dX5_isLetter_1 rfl rfl (fun v1 hv1 => ?_)
  refine WQ_icmp_lt 16 dX5_isLetter_3 rfl (fun c1 => ?_) (fun c1 => ?_)
  · refine WQ_iconst (0) (0) dX5_isLetter_16 rfl rfl (fun v3 hv3 => ?_)
    exact WP_zret dX5_isLetter_17 rfl (nar_z (by omega)) ⟨⟨rfl, rfl, rfl⟩, v3, rfl, by
      first
      | exact Or.inl ⟨by omega, by simp [bL]; omega⟩
      | exact Or.inr ⟨by omega, by simp [bL]; omega⟩⟩
  · refine WP_iload_n dX5_isLetter_6 rfl ?_
    refine WQ_bipush (122) (122) dX5_isLetter_7 rfl rfl (fun v4 hv4 => ?_)
    refine WQ_icmp_gt 16 dX5_isLetter_9 rfl (fun c4 => ?_) (fun c4 => ?_)
    · refine WQ_iconst (0) (0) dX5_isLetter_16 rfl rfl (fun v6 hv6 => ?_)
      exact WP_zret dX5_isLetter_17 rfl (nar_z (by omega)) ⟨⟨rfl, rfl, rfl⟩, v6, rfl, by
        first
        | exact Or.inl ⟨by omega, by simp [bL]; omega⟩
        | exact Or.inr ⟨by omega, by simp [bL]; omega⟩⟩
    · refine WQ_iconst (1) (1) dX5_isLetter_12 rfl rfl (fun v7 hv7 => ?_)
      refine WP_goto 17 dX5_isLetter_13 rfl ?_
      exact WP_zret dX5_isLetter_17 rfl (nar_z (by omega)) ⟨⟨rfl, rfl, rfl⟩, v7, rfl, by
        first
        | exact Or.inl ⟨by omega, by simp [bL]; omega⟩
        | exact Or.inr ⟨by omega, by simp [bL]; omega⟩⟩
set_option maxHeartbeats 4000000 in
set_option maxRecDepth 100000 in
theorem ex_isDigit {g : GG} {I : pI} {J : pJ} {R : pR} (hy : LyX g) (hr : RfX g R)  (b : Int32)  : SP g mX5_isDigit [.int b] I J R (fun r I' J' R' => (I' = I ∧ J' = J ∧ R' = R) ∧ ∃ v : Int32, r = some (.int v) ∧ ((v.toInt = 1 ∧ bD b.toInt = true) ∨ (v.toInt = 0 ∧ bD b.toInt = false))) := by
  refine SP_of ⟨by decide, rfl⟩ (Nat.le_of_ble_eq_true rfl) ?_
  refine WP_iload_n dX5_isDigit_0 rfl ?_
  refine WQ_bipush (48) (48) dX5_isDigit_1 rfl rfl (fun v8 hv8 => ?_)
  refine WQ_icmp_lt 16 dX5_isDigit_3 rfl (fun c8 => ?_) (fun c8 => ?_)
  · refine WQ_iconst (0) (0) dX5_isDigit_16 rfl rfl (fun v10 hv10 => ?_)
    exact WP_zret dX5_isDigit_17 rfl (nar_z (by omega)) ⟨⟨rfl, rfl, rfl⟩, v10, rfl, by
      first
      | exact Or.inl ⟨by omega, by simp [bD]; omega⟩
      | exact Or.inr ⟨by omega, by simp [bD]; omega⟩⟩
  · refine WP_iload_n dX5_isDigit_6 rfl ?_
    refine WQ_bipush (57) (57) dX5_isDigit_7 rfl rfl (fun v11 hv11 => ?_)
    refine WQ_icmp_gt 16 dX5_isDigit_9 rfl (fun c11 => ?_) (fun c11 => ?_)
    · refine WQ_iconst (0) (0) dX5_isDigit_16 rfl rfl (fun v13 hv13 => ?_)
      exact WP_zret dX5_isDigit_17 rfl (nar_z (by omega)) ⟨⟨rfl, rfl, rfl⟩, v13, rfl, by
        first
        | exact Or.inl ⟨by omega, by simp [bD]; omega⟩
        | exact Or.inr ⟨by omega, by simp [bD]; omega⟩⟩
    · refine WQ_iconst (1) (1) dX5_isDigit_12 rfl rfl (fun v14 hv14 => ?_)
      refine WP_goto 17 dX5_isDigit_13 rfl ?_
      exact WP_zret dX5_isDigit_17 rfl (nar_z (by omega)) ⟨⟨rfl, rfl, rfl⟩, v14, rfl, by
        first
        | exact Or.inl ⟨by omega, by simp [bD]; omega⟩
        | exact Or.inr ⟨by omega, by simp [bD]; omega⟩⟩
set_option maxHeartbeats 4000000 in
set_option maxRecDepth 100000 in
theorem ex_readWord {g : GG} {I : pI} {J : pJ} {R : pR} (hy : LyX g) (hr : RfX g R) {B : Nat → Int} {n f : Nat}  (hT : TPX g B n I) (hn : n ≤ 900) (h3 : (I (ad g 1) 3).toInt = (f : Int)) (h6 : (I (ad g 1) 6).toInt = (f : Int)) (hf : f ≤ n) : SP g mX5_readWord [.ref (ad g 1)] I J R (fun r I' J' R' => R' = R ∧ FC g [1] I I' ∧ FC g [1] J J' ∧ r = none ∧ ((I' (ad g 1) 1).toInt = (n : Int) ∧ (I' (ad g 1) 3).toInt = (f : Int) ∧ (I' (ad g 1) 6).toInt = ((sp bL B (n - f) f : Nat) : Int) ∧ (I' (ad g 1) 2).toInt = (if 8 < sp bL B (n - f) f - f then 4 else 1) ∧ (sp bL B (n - f) f - f ≤ 8 → (J' (ad g 1) 5).toInt = wI B f (sp bL B (n - f) f - f)))) := by
  refine SP_of ⟨by decide, rfl⟩ (Nat.le_of_ble_eq_true rfl) ?_
  have fI0 : FC g [1] I I := FC_rf
  have fJ0 : FC g [1] J J := FC_rf
  have hT1 := hT.1
  obtain ⟨w15, ew15⟩ : ∃ w : Int32, I (ad g 1) 1 = w := ⟨_, rfl⟩
  obtain ⟨w16, ew16⟩ : ∃ w : Int32, I (ad g 1) 3 = w := ⟨_, rfl⟩
  obtain ⟨w17, ew17⟩ : ∃ w : Int32, I (ad g 1) 6 = w := ⟨_, rfl⟩
  obtain ⟨w18, ew18⟩ : ∃ w : Int64, J (ad g 1) 5 = w := ⟨_, rfl⟩
  try simp only [ew15, ew16, ew17, ew18] at h3 h6 hT1
  refine WP_aload_n dX5_readWord_0 rfl ?_
  refine WP_lconst (0) dX5_readWord_1 rfl ?_
  obtain ⟨l19, hl19, el19⟩ : ∃ v : Int64, v.toInt = 0 ∧ (0 : Int64) = v := ⟨_, rfl, rfl⟩
  rw [el19]
  refine WQ_putl dX5_readWord_2 fX5_41 rfl rfl (lyx_is hy 1 5 rfl) (fun J20 eJ20 => ?_)
  have e21 : J20 (ad g 1) 5 = l19 := by rw [eJ20, pp_self]
  have fJ22 : FC g [1] J J20 := by rw [eJ20]; exact FC_pp fJ0 (by decide)
  have lp28 : ∀ (mz : Nat)  (I23 : pI) (J26 : pJ), FC g [1] I I23 → FC g [1] J J26 → (∃ p : Nat, (I23 (ad g 1) 6).toInt = (p : Int) ∧ f ≤ p ∧ p ≤ n ∧ (I23 (ad g 1) 1).toInt = (n : Int) ∧ (I23 (ad g 1) 3).toInt = (f : Int) ∧ sp bL B (n - p) p = sp bL B (n - f) f ∧ (∀ q, f ≤ q → q < p → bL (B q) = true) ∧ (p - f ≤ 8 → (J26 (ad g 1) 5).toInt = wI B f (p - f))) → (n - (I23 (ad g 1) 6).toInt.toNat) < mz → WP g mX5_readWord 5 [(0, .ref (ad g 1))] [] I23 J26 R (fun r I' J' R' => R' = R ∧ FC g [1] I I' ∧ FC g [1] J J' ∧ r = none ∧ ((I' (ad g 1) 1).toInt = (n : Int) ∧ (I' (ad g 1) 3).toInt = (f : Int) ∧ (I' (ad g 1) 6).toInt = ((sp bL B (n - f) f : Nat) : Int) ∧ (I' (ad g 1) 2).toInt = (if 8 < sp bL B (n - f) f - f then 4 else 1) ∧ (sp bL B (n - f) f - f ≤ 8 → (J' (ad g 1) 5).toInt = wI B f (sp bL B (n - f) f - f)))) := by
    intro mz
    induction mz with
    | zero =>
      intro  I23 J26 fI24 fJ27 hvlp28 hmlp28
      exact absurd hmlp28 (Nat.not_lt_zero _)
    | succ mz ihlp28 =>
      intro  I23 J26 fI24 fJ27 hvlp28 hmlp28
      obtain ⟨w29, ew29⟩ : ∃ w : Int32, I23 (ad g 1) 1 = w := ⟨_, rfl⟩
      obtain ⟨w30, ew30⟩ : ∃ w : Int32, I23 (ad g 1) 3 = w := ⟨_, rfl⟩
      obtain ⟨w31, ew31⟩ : ∃ w : Int32, I23 (ad g 1) 6 = w := ⟨_, rfl⟩
      obtain ⟨w32, ew32⟩ : ∃ w : Int64, J26 (ad g 1) 5 = w := ⟨_, rfl⟩
      try simp only [ew29, ew30, ew31, ew32, ew15, ew16, ew17, ew18] at hvlp28 hmlp28
      obtain ⟨p, i6, ifp, ipn, i1, i3, isp, iall, iw⟩ := hvlp28
      refine WP_aload_n dX5_readWord_5 rfl ?_
      refine WQ_getim dX5_readWord_6 fX5_19 rfl (lyx_is hy 1 5 rfl) ew31 ?_
      refine WP_aload_n dX5_readWord_9 rfl ?_
      refine WQ_getim dX5_readWord_10 fX5_15 rfl (lyx_is hy 1 5 rfl) ew29 ?_
      refine WQ_icmp_ge 66 dX5_readWord_13 rfl (fun c32 => ?_) (fun c32 => ?_)
      · have hE : sp bL B (n - f) f = p := by
          rw [← isp]
          exact sp_end (by omega)
        refine WP_aload_n dX5_readWord_66 rfl ?_
        refine WP_aload_n dX5_readWord_67 rfl ?_
        refine WQ_getim dX5_readWord_68 fX5_19 rfl (lyx_is hy 1 5 rfl) ew31 ?_
        refine WP_aload_n dX5_readWord_71 rfl ?_
        refine WQ_getim dX5_readWord_72 fX5_22 rfl (lyx_is hy 1 5 rfl) ew30 ?_
        refine WQ_isub dX5_readWord_75 (by omega) (by omega) (fun v34 hv34 => ?_)
        refine WQ_bipush (8) (8) dX5_readWord_76 rfl rfl (fun v35 hv35 => ?_)
        refine WQ_icmp_le 85 dX5_readWord_78 rfl (fun c35 => ?_) (fun c35 => ?_)
        · refine WQ_iconst (1) (1) dX5_readWord_85 rfl rfl (fun v37 hv37 => ?_)
          refine WQ_puti dX5_readWord_86 fX5_25 rfl rfl (lyx_is hy 1 5 rfl) (fun I38 eI38 => ?_)
          have e39 : I38 (ad g 1) 1 = w29 := by rw [eI38, pp_ne _ _ (Or.inr (by decide))]; exact ew29
          have e40 : I38 (ad g 1) 3 = w30 := by rw [eI38, pp_ne _ _ (Or.inr (by decide))]; exact ew30
          have e41 : I38 (ad g 1) 6 = w31 := by rw [eI38, pp_ne _ _ (Or.inr (by decide))]; exact ew31
          have e42 : I38 (ad g 1) 2 = v37 := by rw [eI38, pp_self]
          have fI43 : FC g [1] I I38 := by rw [eI38]; exact FC_pp fI24 (by decide)
          exact WP_vret dX5_readWord_89 rfl ⟨rfl, fI43, fJ27, rfl, by
            try simp only [e39, e40, e41, e42, ew32, ew15, ew16, ew17, ew18]
            rw [hE]
            refine ⟨by omega, by omega, by omega, ?_, ?_⟩
            · split <;> omega
            · intro hk; exact iw hk⟩
        · refine WQ_iconst (4) (4) dX5_readWord_81 rfl rfl (fun v44 hv44 => ?_)
          refine WP_goto 86 dX5_readWord_82 rfl ?_
          refine WQ_puti dX5_readWord_86 fX5_25 rfl rfl (lyx_is hy 1 5 rfl) (fun I45 eI45 => ?_)
          have e46 : I45 (ad g 1) 1 = w29 := by rw [eI45, pp_ne _ _ (Or.inr (by decide))]; exact ew29
          have e47 : I45 (ad g 1) 3 = w30 := by rw [eI45, pp_ne _ _ (Or.inr (by decide))]; exact ew30
          have e48 : I45 (ad g 1) 6 = w31 := by rw [eI45, pp_ne _ _ (Or.inr (by decide))]; exact ew31
          have e49 : I45 (ad g 1) 2 = v44 := by rw [eI45, pp_self]
          have fI50 : FC g [1] I I45 := by rw [eI45]; exact FC_pp fI24 (by decide)
          exact WP_vret dX5_readWord_89 rfl ⟨rfl, fI50, fJ27, rfl, by
            try simp only [e46, e47, e48, e49, ew32, ew15, ew16, ew17, ew18]
            rw [hE]
            refine ⟨by omega, by omega, by omega, ?_, ?_⟩
            · split <;> omega
            · intro hk; exact iw hk⟩
      · refine WP_aload_n dX5_readWord_16 rfl ?_
        refine WP_getr dX5_readWord_17 fX5_9 rfl (lyx_is hy 1 5 rfl) (rfx hr 1 0 2 (by decide)) ?_
        refine WP_aload_n dX5_readWord_20 rfl ?_
        refine WQ_getim dX5_readWord_21 fX5_19 rfl (lyx_is hy 1 5 rfl) ew31 ?_
        refine WE_ba dX5_readWord_24 (lyx_is hy 2 12 rfl) (lyx_n hy 2 900 rfl) (by omega) (by omega) (fun v51 ev51 => ?_)
        have hb25 : v51.toInt = B p := by rw [← ev51, FCx_at hy fI24 2 (by decide) (by decide), show w31.toInt.toNat = p by omega]; exact hT.2 p (by omega)
        refine WP_callS1 dX5_readWord_25 ⟨⟨⟨by decide, by decide⟩, zX5_isLetter⟩, lX5_28, tX5_isLetter⟩ (ex_isLetter hy hr _  ) (Nat.le_of_ble_eq_true rfl) ?_
        intro r Ia Ja Ra hq
        obtain ⟨⟨ea, eb, ec⟩, v53, er, p52⟩ := hq
        rw [ea, eb, ec, er]
        clear ea eb ec er Ia Ja Ra r
        refine WQ_if_eq 66 dX5_readWord_28 rfl (fun c53 => ?_) (fun c53 => ?_)
        · have hE : sp bL B (n - f) f = p := by
            rw [← isp]
            rcases p52 with ⟨a, b⟩ | ⟨a, b⟩
            · exact absurd a (by omega)
            · rw [hb25] at b; exact sp_no b
          refine WP_aload_n dX5_readWord_66 rfl ?_
          refine WP_aload_n dX5_readWord_67 rfl ?_
          refine WQ_getim dX5_readWord_68 fX5_19 rfl (lyx_is hy 1 5 rfl) ew31 ?_
          refine WP_aload_n dX5_readWord_71 rfl ?_
          refine WQ_getim dX5_readWord_72 fX5_22 rfl (lyx_is hy 1 5 rfl) ew30 ?_
          refine WQ_isub dX5_readWord_75 (by omega) (by omega) (fun v55 hv55 => ?_)
          refine WQ_bipush (8) (8) dX5_readWord_76 rfl rfl (fun v56 hv56 => ?_)
          refine WQ_icmp_le 85 dX5_readWord_78 rfl (fun c56 => ?_) (fun c56 => ?_)
          · refine WQ_iconst (1) (1) dX5_readWord_85 rfl rfl (fun v58 hv58 => ?_)
            refine WQ_puti dX5_readWord_86 fX5_25 rfl rfl (lyx_is hy 1 5 rfl) (fun I59 eI59 => ?_)
            have e60 : I59 (ad g 1) 1 = w29 := by rw [eI59, pp_ne _ _ (Or.inr (by decide))]; exact ew29
            have e61 : I59 (ad g 1) 3 = w30 := by rw [eI59, pp_ne _ _ (Or.inr (by decide))]; exact ew30
            have e62 : I59 (ad g 1) 6 = w31 := by rw [eI59, pp_ne _ _ (Or.inr (by decide))]; exact ew31
            have e63 : I59 (ad g 2) w31.toInt.toNat = v51 := by rw [eI59, pp_ne _ _ (Or.inl (lyx_ne hy (by decide) (by decide) (by decide)))]; exact ev51
            have e64 : I59 (ad g 1) 2 = v58 := by rw [eI59, pp_self]
            have fI65 : FC g [1] I I59 := by rw [eI59]; exact FC_pp fI24 (by decide)
            exact WP_vret dX5_readWord_89 rfl ⟨rfl, fI65, fJ27, rfl, by
              try simp only [e60, e61, e62, e64, ew32, ew15, ew16, ew17, ew18]
              rw [hE]
              refine ⟨by omega, by omega, by omega, ?_, ?_⟩
              · split <;> omega
              · intro hk; exact iw hk⟩
          · refine WQ_iconst (4) (4) dX5_readWord_81 rfl rfl (fun v66 hv66 => ?_)
            refine WP_goto 86 dX5_readWord_82 rfl ?_
            refine WQ_puti dX5_readWord_86 fX5_25 rfl rfl (lyx_is hy 1 5 rfl) (fun I67 eI67 => ?_)
            have e68 : I67 (ad g 1) 1 = w29 := by rw [eI67, pp_ne _ _ (Or.inr (by decide))]; exact ew29
            have e69 : I67 (ad g 1) 3 = w30 := by rw [eI67, pp_ne _ _ (Or.inr (by decide))]; exact ew30
            have e70 : I67 (ad g 1) 6 = w31 := by rw [eI67, pp_ne _ _ (Or.inr (by decide))]; exact ew31
            have e71 : I67 (ad g 2) w31.toInt.toNat = v51 := by rw [eI67, pp_ne _ _ (Or.inl (lyx_ne hy (by decide) (by decide) (by decide)))]; exact ev51
            have e72 : I67 (ad g 1) 2 = v66 := by rw [eI67, pp_self]
            have fI73 : FC g [1] I I67 := by rw [eI67]; exact FC_pp fI24 (by decide)
            exact WP_vret dX5_readWord_89 rfl ⟨rfl, fI73, fJ27, rfl, by
              try simp only [e68, e69, e70, e72, ew32, ew15, ew16, ew17, ew18]
              rw [hE]
              refine ⟨by omega, by omega, by omega, ?_, ?_⟩
              · split <;> omega
              · intro hk; exact iw hk⟩
        · have hl : bL (B p) = true := by
            rcases p52 with ⟨a, b⟩ | ⟨a, b⟩
            · rw [hb25] at b; exact b
            · exact absurd a (by omega)
          refine WP_aload_n dX5_readWord_31 rfl ?_
          refine WP_aload_n dX5_readWord_32 rfl ?_
          refine WP_getl dX5_readWord_33 fX5_41 rfl (lyx_is hy 1 5 rfl) ?_
          rw [ew32]
          refine WQ_bipush (8) (8) dX5_readWord_36 rfl rfl (fun v74 hv74 => ?_)
          refine WP_lshl dX5_readWord_38 ?_
          obtain ⟨l75, xl75⟩ : ∃ v : Int64, v = w32 <<< (v74.toInt64 &&& 63) := ⟨_, rfl⟩
          rw [← xl75]
          refine WP_aload_n dX5_readWord_39 rfl ?_
          refine WP_getr dX5_readWord_40 fX5_9 rfl (lyx_is hy 1 5 rfl) (rfx hr 1 0 2 (by decide)) ?_
          refine WP_aload_n dX5_readWord_43 rfl ?_
          refine WQ_getim dX5_readWord_44 fX5_19 rfl (lyx_is hy 1 5 rfl) ew31 ?_
          refine WE_ba dX5_readWord_47 (lyx_is hy 2 12 rfl) (lyx_n hy 2 900 rfl) (by omega) (by omega) (fun v76 ev76 => ?_)
          have hb48 : v76.toInt = B p := by rw [← ev76, FCx_at hy fI24 2 (by decide) (by decide), show w31.toInt.toNat = p by omega]; exact hT.2 p (by omega)
          refine WP_i2l dX5_readWord_48 ?_
          obtain ⟨l77, xl77⟩ : ∃ v : Int64, v = v76.toInt64 := ⟨_, rfl⟩
          rw [← xl77]
          have hl77 : l77.toInt = v76.toInt := by rw [xl77]; exact t64 _
          refine WP_lor dX5_readWord_49 ?_
          obtain ⟨l78, xl78⟩ : ∃ v : Int64, v = l75 ||| l77 := ⟨_, rfl⟩
          rw [← xl78]
          refine WQ_putl dX5_readWord_50 fX5_41 rfl rfl (lyx_is hy 1 5 rfl) (fun J79 eJ79 => ?_)
          have e80 : J79 (ad g 1) 5 = l78 := by rw [eJ79, pp_self]
          have fJ81 : FC g [1] J J79 := by rw [eJ79]; exact FC_pp fJ27 (by decide)
          refine WP_aload_n dX5_readWord_53 rfl ?_
          refine WP_dup dX5_readWord_54 rfl ?_
          refine WQ_getim dX5_readWord_55 fX5_19 rfl (lyx_is hy 1 5 rfl) ew31 ?_
          refine WQ_iconst (1) (1) dX5_readWord_58 rfl rfl (fun v82 hv82 => ?_)
          refine WQ_iadd dX5_readWord_59 (by omega) (by omega) (fun v83 hv83 => ?_)
          refine WQ_puti dX5_readWord_60 fX5_19 rfl rfl (lyx_is hy 1 5 rfl) (fun I84 eI84 => ?_)
          have e85 : I84 (ad g 1) 1 = w29 := by rw [eI84, pp_ne _ _ (Or.inr (by decide))]; exact ew29
          have e86 : I84 (ad g 1) 3 = w30 := by rw [eI84, pp_ne _ _ (Or.inr (by decide))]; exact ew30
          have e87 : I84 (ad g 2) w31.toInt.toNat = v76 := by rw [eI84, pp_ne _ _ (Or.inl (lyx_ne hy (by decide) (by decide) (by decide)))]; exact ev76
          have e88 : I84 (ad g 1) 6 = v83 := by rw [eI84, pp_self]
          have fI89 : FC g [1] I I84 := by rw [eI84]; exact FC_pp fI24 (by decide)
          refine WP_goto 5 dX5_readWord_63 rfl ?_
          refine WP_sub (fc rfl fn) (ihlp28 I84 J79 fI89 fJ81 ?_ ?_)
          · try simp only [e85, e86, e88, e80, ew15, ew16, ew17, ew18]
            refine ⟨p + 1, by omega, by omega, by omega, by omega, by omega, ?_, ?_, ?_⟩
            · rw [← sp_go (by omega) hl]; exact isp
            · intro q h1 h2
              by_cases e : q = p
              · rw [e]; exact hl
              · exact iall q h1 (by omega)
            · intro hk
              exact wstep ifp hk iall iw hb48 hl hv74 xl75 hl77 xl78
          · try simp only [e85, e86, e88, e80, ew15, ew16, ew17, ew18]
            omega
  refine WP_sub (fc rfl fn) (lp28 _ I J20 fI0 fJ22 ?_ (Nat.lt_succ_self _))
  · try simp only [ew15, ew16, ew17, e21, ew18]
    refine ⟨f, h6, Nat.le_refl _, hf, hT1, h3, rfl, fun q h1 h2 => absurd h2 (by omega), fun _ => ?_⟩
    rw [Nat.sub_self]
    first
    | assumption
    | (show _ = (0 : Int); omega)
set_option maxHeartbeats 4000000 in
set_option maxRecDepth 100000 in
theorem ex_readNumber {g : GG} {I : pI} {J : pJ} {R : pR} (hy : LyX g) (hr : RfX g R) {B : Nat → Int} {n f : Nat}  (hT : TPX g B n I) (hn : n ≤ 900) (h3 : (I (ad g 1) 3).toInt = (f : Int)) (h6 : (I (ad g 1) 6).toInt = (f : Int)) (hf : f ≤ n) : SP g mX5_readNumber [.ref (ad g 1)] I J R (fun r I' J' R' => R' = R ∧ FC g [1] I I' ∧ FC g [] J J' ∧ r = none ∧ ((I' (ad g 1) 1).toInt = (n : Int) ∧ (I' (ad g 1) 3).toInt = (f : Int) ∧ (I' (ad g 1) 6).toInt = ((sp bD B (n - f) f : Nat) : Int) ∧ (I' (ad g 1) 2).toInt = (if 4 < sp bD B (n - f) f - f then 4 else 2) ∧ (sp bD B (n - f) f - f ≤ 4 → (I' (ad g 1) 4).toInt = nuI B f (sp bD B (n - f) f - f)))) := by
  refine SP_of ⟨by decide, rfl⟩ (Nat.le_of_ble_eq_true rfl) ?_
  have fI0 : FC g [1] I I := FC_rf
  have fJ0 : FC g [] J J := FC_rf
  have hT1 := hT.1
  obtain ⟨w90, ew90⟩ : ∃ w : Int32, I (ad g 1) 1 = w := ⟨_, rfl⟩
  obtain ⟨w91, ew91⟩ : ∃ w : Int32, I (ad g 1) 3 = w := ⟨_, rfl⟩
  obtain ⟨w92, ew92⟩ : ∃ w : Int32, I (ad g 1) 6 = w := ⟨_, rfl⟩
  obtain ⟨w93, ew93⟩ : ∃ w : Int32, I (ad g 1) 4 = w := ⟨_, rfl⟩
  try simp only [ew90, ew91, ew92, ew93] at h3 h6 hT1
  refine WP_aload_n dX5_readNumber_0 rfl ?_
  refine WQ_iconst (0) (0) dX5_readNumber_1 rfl rfl (fun v94 hv94 => ?_)
  refine WQ_puti dX5_readNumber_2 fX5_45 rfl rfl (lyx_is hy 1 5 rfl) (fun I95 eI95 => ?_)
  have e96 : I95 (ad g 1) 1 = w90 := by rw [eI95, pp_ne _ _ (Or.inr (by decide))]; exact ew90
  have e97 : I95 (ad g 1) 3 = w91 := by rw [eI95, pp_ne _ _ (Or.inr (by decide))]; exact ew91
  have e98 : I95 (ad g 1) 6 = w92 := by rw [eI95, pp_ne _ _ (Or.inr (by decide))]; exact ew92
  have e99 : I95 (ad g 1) 4 = v94 := by rw [eI95, pp_self]
  have fI100 : FC g [1] I I95 := by rw [eI95]; exact FC_pp fI0 (by decide)
  have lp104 : ∀ (mz : Nat)  (I101 : pI), FC g [1] I I101 → (∃ p : Nat, (I101 (ad g 1) 6).toInt = (p : Int) ∧ f ≤ p ∧ p ≤ n ∧ (I101 (ad g 1) 1).toInt = (n : Int) ∧ (I101 (ad g 1) 3).toInt = (f : Int) ∧ sp bD B (n - p) p = sp bD B (n - f) f ∧ (∀ q, f ≤ q → q < p → bD (B q) = true) ∧ (p - f ≤ 4 → (I101 (ad g 1) 4).toInt = nuI B f (p - f))) → (n - (I101 (ad g 1) 6).toInt.toNat) < mz → WP g mX5_readNumber 5 [(0, .ref (ad g 1))] [] I101 J R (fun r I' J' R' => R' = R ∧ FC g [1] I I' ∧ FC g [] J J' ∧ r = none ∧ ((I' (ad g 1) 1).toInt = (n : Int) ∧ (I' (ad g 1) 3).toInt = (f : Int) ∧ (I' (ad g 1) 6).toInt = ((sp bD B (n - f) f : Nat) : Int) ∧ (I' (ad g 1) 2).toInt = (if 4 < sp bD B (n - f) f - f then 4 else 2) ∧ (sp bD B (n - f) f - f ≤ 4 → (I' (ad g 1) 4).toInt = nuI B f (sp bD B (n - f) f - f)))) := by
    intro mz
    induction mz with
    | zero =>
      intro  I101 fI102 hvlp104 hmlp104
      exact absurd hmlp104 (Nat.not_lt_zero _)
    | succ mz ihlp104 =>
      intro  I101 fI102 hvlp104 hmlp104
      obtain ⟨w105, ew105⟩ : ∃ w : Int32, I101 (ad g 1) 1 = w := ⟨_, rfl⟩
      obtain ⟨w106, ew106⟩ : ∃ w : Int32, I101 (ad g 1) 3 = w := ⟨_, rfl⟩
      obtain ⟨w107, ew107⟩ : ∃ w : Int32, I101 (ad g 1) 6 = w := ⟨_, rfl⟩
      obtain ⟨w108, ew108⟩ : ∃ w : Int32, I101 (ad g 1) 4 = w := ⟨_, rfl⟩
      try simp only [ew105, ew106, ew107, ew108, ew90, ew91, ew92, ew93] at hvlp104 hmlp104
      obtain ⟨p, i6, ifp, ipn, i1, i3, isp, iall, iw⟩ := hvlp104
      refine WP_aload_n dX5_readNumber_5 rfl ?_
      refine WQ_getim dX5_readNumber_6 fX5_19 rfl (lyx_is hy 1 5 rfl) ew107 ?_
      refine WP_aload_n dX5_readNumber_9 rfl ?_
      refine WQ_getim dX5_readNumber_10 fX5_15 rfl (lyx_is hy 1 5 rfl) ew105 ?_
      refine WQ_icmp_ge 68 dX5_readNumber_13 rfl (fun c108 => ?_) (fun c108 => ?_)
      · have hE : sp bD B (n - f) f = p := by
          rw [← isp]
          exact sp_end (by omega)
        refine WP_aload_n dX5_readNumber_68 rfl ?_
        refine WP_aload_n dX5_readNumber_69 rfl ?_
        refine WQ_getim dX5_readNumber_70 fX5_19 rfl (lyx_is hy 1 5 rfl) ew107 ?_
        refine WP_aload_n dX5_readNumber_73 rfl ?_
        refine WQ_getim dX5_readNumber_74 fX5_22 rfl (lyx_is hy 1 5 rfl) ew106 ?_
        refine WQ_isub dX5_readNumber_77 (by omega) (by omega) (fun v110 hv110 => ?_)
        refine WQ_iconst (4) (4) dX5_readNumber_78 rfl rfl (fun v111 hv111 => ?_)
        refine WQ_icmp_le 86 dX5_readNumber_79 rfl (fun c111 => ?_) (fun c111 => ?_)
        · refine WQ_iconst (2) (2) dX5_readNumber_86 rfl rfl (fun v113 hv113 => ?_)
          refine WQ_puti dX5_readNumber_87 fX5_25 rfl rfl (lyx_is hy 1 5 rfl) (fun I114 eI114 => ?_)
          have e115 : I114 (ad g 1) 1 = w105 := by rw [eI114, pp_ne _ _ (Or.inr (by decide))]; exact ew105
          have e116 : I114 (ad g 1) 3 = w106 := by rw [eI114, pp_ne _ _ (Or.inr (by decide))]; exact ew106
          have e117 : I114 (ad g 1) 6 = w107 := by rw [eI114, pp_ne _ _ (Or.inr (by decide))]; exact ew107
          have e118 : I114 (ad g 1) 4 = w108 := by rw [eI114, pp_ne _ _ (Or.inr (by decide))]; exact ew108
          have e119 : I114 (ad g 1) 2 = v113 := by rw [eI114, pp_self]
          have fI120 : FC g [1] I I114 := by rw [eI114]; exact FC_pp fI102 (by decide)
          exact WP_vret dX5_readNumber_90 rfl ⟨rfl, fI120, fJ0, rfl, by
            try simp only [e115, e116, e117, e118, e119, ew90, ew91, ew92, ew93]
            rw [hE]
            refine ⟨by omega, by omega, by omega, ?_, ?_⟩
            · split <;> omega
            · intro hk; exact iw hk⟩
        · refine WQ_iconst (4) (4) dX5_readNumber_82 rfl rfl (fun v121 hv121 => ?_)
          refine WP_goto 87 dX5_readNumber_83 rfl ?_
          refine WQ_puti dX5_readNumber_87 fX5_25 rfl rfl (lyx_is hy 1 5 rfl) (fun I122 eI122 => ?_)
          have e123 : I122 (ad g 1) 1 = w105 := by rw [eI122, pp_ne _ _ (Or.inr (by decide))]; exact ew105
          have e124 : I122 (ad g 1) 3 = w106 := by rw [eI122, pp_ne _ _ (Or.inr (by decide))]; exact ew106
          have e125 : I122 (ad g 1) 6 = w107 := by rw [eI122, pp_ne _ _ (Or.inr (by decide))]; exact ew107
          have e126 : I122 (ad g 1) 4 = w108 := by rw [eI122, pp_ne _ _ (Or.inr (by decide))]; exact ew108
          have e127 : I122 (ad g 1) 2 = v121 := by rw [eI122, pp_self]
          have fI128 : FC g [1] I I122 := by rw [eI122]; exact FC_pp fI102 (by decide)
          exact WP_vret dX5_readNumber_90 rfl ⟨rfl, fI128, fJ0, rfl, by
            try simp only [e123, e124, e125, e126, e127, ew90, ew91, ew92, ew93]
            rw [hE]
            refine ⟨by omega, by omega, by omega, ?_, ?_⟩
            · split <;> omega
            · intro hk; exact iw hk⟩
      · refine WP_aload_n dX5_readNumber_16 rfl ?_
        refine WP_getr dX5_readNumber_17 fX5_9 rfl (lyx_is hy 1 5 rfl) (rfx hr 1 0 2 (by decide)) ?_
        refine WP_aload_n dX5_readNumber_20 rfl ?_
        refine WQ_getim dX5_readNumber_21 fX5_19 rfl (lyx_is hy 1 5 rfl) ew107 ?_
        refine WE_ba dX5_readNumber_24 (lyx_is hy 2 12 rfl) (lyx_n hy 2 900 rfl) (by omega) (by omega) (fun v129 ev129 => ?_)
        have hb25 : v129.toInt = B p := by rw [← ev129, FCx_at hy fI102 2 (by decide) (by decide), show w107.toInt.toNat = p by omega]; exact hT.2 p (by omega)
        refine WP_callS1 dX5_readNumber_25 ⟨⟨⟨by decide, by decide⟩, zX5_isDigit⟩, lX5_35, tX5_isDigit⟩ (ex_isDigit hy hr _  ) (Nat.le_of_ble_eq_true rfl) ?_
        intro r Ia Ja Ra hq
        obtain ⟨⟨ea, eb, ec⟩, v131, er, p130⟩ := hq
        rw [ea, eb, ec, er]
        clear ea eb ec er Ia Ja Ra r
        refine WQ_if_eq 68 dX5_readNumber_28 rfl (fun c131 => ?_) (fun c131 => ?_)
        · have hE : sp bD B (n - f) f = p := by
            rw [← isp]
            rcases p130 with ⟨a, b⟩ | ⟨a, b⟩
            · exact absurd a (by omega)
            · rw [hb25] at b; exact sp_no b
          refine WP_aload_n dX5_readNumber_68 rfl ?_
          refine WP_aload_n dX5_readNumber_69 rfl ?_
          refine WQ_getim dX5_readNumber_70 fX5_19 rfl (lyx_is hy 1 5 rfl) ew107 ?_
          refine WP_aload_n dX5_readNumber_73 rfl ?_
          refine WQ_getim dX5_readNumber_74 fX5_22 rfl (lyx_is hy 1 5 rfl) ew106 ?_
          refine WQ_isub dX5_readNumber_77 (by omega) (by omega) (fun v133 hv133 => ?_)
          refine WQ_iconst (4) (4) dX5_readNumber_78 rfl rfl (fun v134 hv134 => ?_)
          refine WQ_icmp_le 86 dX5_readNumber_79 rfl (fun c134 => ?_) (fun c134 => ?_)
          · refine WQ_iconst (2) (2) dX5_readNumber_86 rfl rfl (fun v136 hv136 => ?_)
            refine WQ_puti dX5_readNumber_87 fX5_25 rfl rfl (lyx_is hy 1 5 rfl) (fun I137 eI137 => ?_)
            have e138 : I137 (ad g 1) 1 = w105 := by rw [eI137, pp_ne _ _ (Or.inr (by decide))]; exact ew105
            have e139 : I137 (ad g 1) 3 = w106 := by rw [eI137, pp_ne _ _ (Or.inr (by decide))]; exact ew106
            have e140 : I137 (ad g 1) 6 = w107 := by rw [eI137, pp_ne _ _ (Or.inr (by decide))]; exact ew107
            have e141 : I137 (ad g 1) 4 = w108 := by rw [eI137, pp_ne _ _ (Or.inr (by decide))]; exact ew108
            have e142 : I137 (ad g 2) w107.toInt.toNat = v129 := by rw [eI137, pp_ne _ _ (Or.inl (lyx_ne hy (by decide) (by decide) (by decide)))]; exact ev129
            have e143 : I137 (ad g 1) 2 = v136 := by rw [eI137, pp_self]
            have fI144 : FC g [1] I I137 := by rw [eI137]; exact FC_pp fI102 (by decide)
            exact WP_vret dX5_readNumber_90 rfl ⟨rfl, fI144, fJ0, rfl, by
              try simp only [e138, e139, e140, e141, e143, ew90, ew91, ew92, ew93]
              rw [hE]
              refine ⟨by omega, by omega, by omega, ?_, ?_⟩
              · split <;> omega
              · intro hk; exact iw hk⟩
          · refine WQ_iconst (4) (4) dX5_readNumber_82 rfl rfl (fun v145 hv145 => ?_)
            refine WP_goto 87 dX5_readNumber_83 rfl ?_
            refine WQ_puti dX5_readNumber_87 fX5_25 rfl rfl (lyx_is hy 1 5 rfl) (fun I146 eI146 => ?_)
            have e147 : I146 (ad g 1) 1 = w105 := by rw [eI146, pp_ne _ _ (Or.inr (by decide))]; exact ew105
            have e148 : I146 (ad g 1) 3 = w106 := by rw [eI146, pp_ne _ _ (Or.inr (by decide))]; exact ew106
            have e149 : I146 (ad g 1) 6 = w107 := by rw [eI146, pp_ne _ _ (Or.inr (by decide))]; exact ew107
            have e150 : I146 (ad g 1) 4 = w108 := by rw [eI146, pp_ne _ _ (Or.inr (by decide))]; exact ew108
            have e151 : I146 (ad g 2) w107.toInt.toNat = v129 := by rw [eI146, pp_ne _ _ (Or.inl (lyx_ne hy (by decide) (by decide) (by decide)))]; exact ev129
            have e152 : I146 (ad g 1) 2 = v145 := by rw [eI146, pp_self]
            have fI153 : FC g [1] I I146 := by rw [eI146]; exact FC_pp fI102 (by decide)
            exact WP_vret dX5_readNumber_90 rfl ⟨rfl, fI153, fJ0, rfl, by
              try simp only [e147, e148, e149, e150, e152, ew90, ew91, ew92, ew93]
              rw [hE]
              refine ⟨by omega, by omega, by omega, ?_, ?_⟩
              · split <;> omega
              · intro hk; exact iw hk⟩
        · have hl : bD (B p) = true := by
            rcases p130 with ⟨a, b⟩ | ⟨a, b⟩
            · rw [hb25] at b; exact b
            · exact absurd a (by omega)
          refine WP_aload_n dX5_readNumber_31 rfl ?_
          refine WP_aload_n dX5_readNumber_32 rfl ?_
          refine WQ_getim dX5_readNumber_33 fX5_45 rfl (lyx_is hy 1 5 rfl) ew108 ?_
          refine WQ_bipush (10) (10) dX5_readNumber_36 rfl rfl (fun v154 hv154 => ?_)
          refine WP_imul dX5_readNumber_38 ?_
          obtain ⟨v155, xv155⟩ : ∃ v : Int32, v = w108 * v154 := ⟨_, rfl⟩
          rw [← xv155]
          refine WP_aload_n dX5_readNumber_39 rfl ?_
          refine WP_getr dX5_readNumber_40 fX5_9 rfl (lyx_is hy 1 5 rfl) (rfx hr 1 0 2 (by decide)) ?_
          refine WP_aload_n dX5_readNumber_43 rfl ?_
          refine WQ_getim dX5_readNumber_44 fX5_19 rfl (lyx_is hy 1 5 rfl) ew107 ?_
          refine WE_ba dX5_readNumber_47 (lyx_is hy 2 12 rfl) (lyx_n hy 2 900 rfl) (by omega) (by omega) (fun v156 ev156 => ?_)
          have hb48 : v156.toInt = B p := by rw [← ev156, FCx_at hy fI102 2 (by decide) (by decide), show w107.toInt.toNat = p by omega]; exact hT.2 p (by omega)
          refine WP_iadd dX5_readNumber_48 ?_
          obtain ⟨v157, xv157⟩ : ∃ v : Int32, v = v155 + v156 := ⟨_, rfl⟩
          rw [← xv157]
          refine WQ_bipush (48) (48) dX5_readNumber_49 rfl rfl (fun v158 hv158 => ?_)
          refine WP_isub dX5_readNumber_51 ?_
          obtain ⟨v159, xv159⟩ : ∃ v : Int32, v = v157 - v158 := ⟨_, rfl⟩
          rw [← xv159]
          refine WQ_puti dX5_readNumber_52 fX5_45 rfl rfl (lyx_is hy 1 5 rfl) (fun I160 eI160 => ?_)
          have e161 : I160 (ad g 1) 1 = w105 := by rw [eI160, pp_ne _ _ (Or.inr (by decide))]; exact ew105
          have e162 : I160 (ad g 1) 3 = w106 := by rw [eI160, pp_ne _ _ (Or.inr (by decide))]; exact ew106
          have e163 : I160 (ad g 1) 6 = w107 := by rw [eI160, pp_ne _ _ (Or.inr (by decide))]; exact ew107
          have e164 : I160 (ad g 2) w107.toInt.toNat = v156 := by rw [eI160, pp_ne _ _ (Or.inl (lyx_ne hy (by decide) (by decide) (by decide)))]; exact ev156
          have e165 : I160 (ad g 1) 4 = v159 := by rw [eI160, pp_self]
          have fI166 : FC g [1] I I160 := by rw [eI160]; exact FC_pp fI102 (by decide)
          refine WP_aload_n dX5_readNumber_55 rfl ?_
          refine WP_dup dX5_readNumber_56 rfl ?_
          refine WQ_getim dX5_readNumber_57 fX5_19 rfl (lyx_is hy 1 5 rfl) e163 ?_
          refine WQ_iconst (1) (1) dX5_readNumber_60 rfl rfl (fun v167 hv167 => ?_)
          refine WQ_iadd dX5_readNumber_61 (by omega) (by omega) (fun v168 hv168 => ?_)
          refine WQ_puti dX5_readNumber_62 fX5_19 rfl rfl (lyx_is hy 1 5 rfl) (fun I169 eI169 => ?_)
          have e170 : I169 (ad g 1) 1 = w105 := by rw [eI169, pp_ne _ _ (Or.inr (by decide))]; exact e161
          have e171 : I169 (ad g 1) 3 = w106 := by rw [eI169, pp_ne _ _ (Or.inr (by decide))]; exact e162
          have e172 : I169 (ad g 2) w107.toInt.toNat = v156 := by rw [eI169, pp_ne _ _ (Or.inl (lyx_ne hy (by decide) (by decide) (by decide)))]; exact e164
          have e173 : I169 (ad g 1) 4 = v159 := by rw [eI169, pp_ne _ _ (Or.inr (by decide))]; exact e165
          have e174 : I169 (ad g 1) 6 = v168 := by rw [eI169, pp_self]
          have fI175 : FC g [1] I I169 := by rw [eI169]; exact FC_pp fI166 (by decide)
          refine WP_goto 5 dX5_readNumber_65 rfl ?_
          refine WP_sub (fc rfl fn) (ihlp104 I169 fI175 ?_ ?_)
          · try simp only [e170, e171, e174, e173, ew90, ew91, ew92, ew93]
            refine ⟨p + 1, by omega, by omega, by omega, by omega, by omega, ?_, ?_, ?_⟩
            · rw [← sp_go (by omega) hl]; exact isp
            · intro q h1 h2
              by_cases e : q = p
              · rw [e]; exact hl
              · exact iall q h1 (by omega)
            · intro hk
              exact nstep ifp hk iall iw hb48 hl hv154 hv158 xv155 xv157 xv159
          · try simp only [e170, e171, e174, e173, ew90, ew91, ew92, ew93]
            omega
  refine WP_sub (fc rfl fn) (lp104 _ I95 fI100 ?_ (Nat.lt_succ_self _))
  · try simp only [e96, e97, e98, e99, ew90, ew91, ew92, ew93]
    refine ⟨f, h6, Nat.le_refl _, hf, hT1, h3, rfl, fun q h1 h2 => absurd h2 (by omega), fun _ => ?_⟩
    rw [Nat.sub_self]
    first
    | assumption
    | (show _ = (0 : Int); omega)
theorem tok_end {B : Nat → Int} {n p : Nat} (h : tF B n p = n) : tT B n p = n ∧ tK B n p = 0 := by
  unfold tK tT
  rw [if_pos h, if_pos h]
  exact ⟨rfl, rfl⟩
theorem tok_let {B : Nat → Int} {n p f : Nat} (hf : tF B n p = f) (h : f ≠ n) (hl : bL (B f) = true) : tT B n p = sp bL B (n - f) f ∧ tK B n p = if 8 < sp bL B (n - f) f - f then 4 else 1 := by
  have e : tT B n p = sp bL B (n - f) f := by
    unfold tT
    rw [hf, if_neg h, if_pos hl]
  refine ⟨e, ?_⟩
  unfold tK
  rw [e, hf, if_neg h, if_pos hl]
theorem tok_dig {B : Nat → Int} {n p f : Nat} (hf : tF B n p = f) (h : f ≠ n) (hl : bL (B f) = false) (hd : bD (B f) = true) : tT B n p = sp bD B (n - f) f ∧ tK B n p = if 4 < sp bD B (n - f) f - f then 4 else 2 := by
  have hl' : ¬ bL (B f) = true := by rw [hl]; decide
  have e : tT B n p = sp bD B (n - f) f := by
    unfold tT
    rw [hf, if_neg h, if_neg hl', if_pos hd]
  refine ⟨e, ?_⟩
  unfold tK
  rw [e, hf, if_neg h, if_neg hl', if_pos hd]
theorem tok_oth {B : Nat → Int} {n p f : Nat} (hf : tF B n p = f) (h : f ≠ n) (hl : bL (B f) = false) (hd : bD (B f) = false) : tT B n p = f + 1 ∧ tK B n p = if B f = 59 then 3 else 4 := by
  have hl' : ¬ bL (B f) = true := by rw [hl]; decide
  have hd' : ¬ bD (B f) = true := by rw [hd]; decide
  have e : tT B n p = f + 1 := by
    unfold tT
    rw [hf, if_neg h, if_neg hl', if_neg hd']
  refine ⟨e, ?_⟩
  unfold tK
  rw [hf, if_neg h, if_neg hl', if_neg hd']
set_option maxHeartbeats 4000000 in
set_option maxRecDepth 100000 in
theorem ex_next {g : GG} {I : pI} {J : pJ} {R : pR} (hy : LyX g) (hr : RfX g R) {B : Nat → Int} {n p : Nat}  (hT : TPX g B n I) (hn : n ≤ 900) (h6 : (I (ad g 1) 6).toInt = (p : Int)) (hp : p ≤ n) : SP g mX5_next [.ref (ad g 1)] I J R (fun r I' J' R' => R' = R ∧ FC g [1] I I' ∧ FC g [1] J J' ∧ r = none ∧ (TPX g B n I' ∧ CUX g B n p I' J')) := by
  refine SP_of ⟨by decide, rfl⟩ (Nat.le_of_ble_eq_true rfl) ?_
  have fI0 : FC g [1] I I := FC_rf
  have fJ0 : FC g [1] J J := FC_rf
  have hT1 := hT.1
  obtain ⟨w176, ew176⟩ : ∃ w : Int32, I (ad g 1) 1 = w := ⟨_, rfl⟩
  obtain ⟨w177, ew177⟩ : ∃ w : Int32, I (ad g 1) 2 = w := ⟨_, rfl⟩
  obtain ⟨w178, ew178⟩ : ∃ w : Int32, I (ad g 1) 3 = w := ⟨_, rfl⟩
  obtain ⟨w179, ew179⟩ : ∃ w : Int32, I (ad g 1) 4 = w := ⟨_, rfl⟩
  obtain ⟨w180, ew180⟩ : ∃ w : Int32, I (ad g 1) 6 = w := ⟨_, rfl⟩
  obtain ⟨w181, ew181⟩ : ∃ w : Int64, J (ad g 1) 5 = w := ⟨_, rfl⟩
  try simp only [ew176, ew177, ew178, ew179, ew180, ew181] at h6 hT1
  have lp187 : ∀ (mz : Nat)  (I182 : pI) (J185 : pJ), FC g [1] I I182 → FC g [1] J J185 → (∃ k : Nat, (I182 (ad g 1) 6).toInt = (k : Int) ∧ p ≤ k ∧ k ≤ n ∧ (I182 (ad g 1) 1).toInt = (n : Int) ∧ sp bB B (n - k) k = sp bB B (n - p) p) → (n - (I182 (ad g 1) 6).toInt.toNat) < mz → WP g mX5_next 0 [(0, .ref (ad g 1))] [] I182 J185 R (fun r I' J' R' => R' = R ∧ FC g [1] I I' ∧ FC g [1] J J' ∧ r = none ∧ (TPX g B n I' ∧ CUX g B n p I' J')) := by
    intro mz
    induction mz with
    | zero =>
      intro  I182 J185 fI183 fJ186 hvlp187 hmlp187
      exact absurd hmlp187 (Nat.not_lt_zero _)
    | succ mz ihlp187 =>
      intro  I182 J185 fI183 fJ186 hvlp187 hmlp187
      obtain ⟨w188, ew188⟩ : ∃ w : Int32, I182 (ad g 1) 1 = w := ⟨_, rfl⟩
      obtain ⟨w189, ew189⟩ : ∃ w : Int32, I182 (ad g 1) 2 = w := ⟨_, rfl⟩
      obtain ⟨w190, ew190⟩ : ∃ w : Int32, I182 (ad g 1) 3 = w := ⟨_, rfl⟩
      obtain ⟨w191, ew191⟩ : ∃ w : Int32, I182 (ad g 1) 4 = w := ⟨_, rfl⟩
      obtain ⟨w192, ew192⟩ : ∃ w : Int32, I182 (ad g 1) 6 = w := ⟨_, rfl⟩
      obtain ⟨w193, ew193⟩ : ∃ w : Int64, J185 (ad g 1) 5 = w := ⟨_, rfl⟩
      try simp only [ew188, ew189, ew190, ew191, ew192, ew193, ew176, ew177, ew178, ew179, ew180, ew181] at hvlp187 hmlp187
      obtain ⟨k, i6, ipk, ikn, i1, isp⟩ := hvlp187
      refine WP_aload_n dX5_next_0 rfl ?_
      refine WQ_getim dX5_next_1 fX5_19 rfl (lyx_is hy 1 5 rfl) ew192 ?_
      refine WP_aload_n dX5_next_4 rfl ?_
      refine WQ_getim dX5_next_5 fX5_15 rfl (lyx_is hy 1 5 rfl) ew188 ?_
      refine WQ_icmp_ge 52 dX5_next_8 rfl (fun c193 => ?_) (fun c193 => ?_)
      · have hE : tF B n p = k := by
          unfold tF
          rw [← isp]
          exact sp_end (by omega)
        refine WP_aload_n dX5_next_52 rfl ?_
        refine WP_aload_n dX5_next_53 rfl ?_
        refine WQ_getim dX5_next_54 fX5_19 rfl (lyx_is hy 1 5 rfl) ew192 ?_
        refine WQ_puti dX5_next_57 fX5_22 rfl rfl (lyx_is hy 1 5 rfl) (fun I195 eI195 => ?_)
        have e196 : I195 (ad g 1) 1 = w188 := by rw [eI195, pp_ne _ _ (Or.inr (by decide))]; exact ew188
        have e197 : I195 (ad g 1) 2 = w189 := by rw [eI195, pp_ne _ _ (Or.inr (by decide))]; exact ew189
        have e198 : I195 (ad g 1) 4 = w191 := by rw [eI195, pp_ne _ _ (Or.inr (by decide))]; exact ew191
        have e199 : I195 (ad g 1) 6 = w192 := by rw [eI195, pp_ne _ _ (Or.inr (by decide))]; exact ew192
        have e200 : I195 (ad g 1) 3 = w192 := by rw [eI195, pp_self]
        have fI201 : FC g [1] I I195 := by rw [eI195]; exact FC_pp fI183 (by decide)
        refine WP_aload_n dX5_next_60 rfl ?_
        refine WQ_getim dX5_next_61 fX5_19 rfl (lyx_is hy 1 5 rfl) e199 ?_
        refine WP_aload_n dX5_next_64 rfl ?_
        refine WQ_getim dX5_next_65 fX5_15 rfl (lyx_is hy 1 5 rfl) e196 ?_
        refine WQ_icmp_lt 79 dX5_next_68 rfl (fun c201 => ?_) (fun c201 => ?_)
        · refine WP_aload_n dX5_next_79 rfl ?_
          refine WP_getr dX5_next_80 fX5_9 rfl (lyx_is hy 1 5 rfl) (rfx hr 1 0 2 (by decide)) ?_
          refine WP_aload_n dX5_next_83 rfl ?_
          refine WQ_getim dX5_next_84 fX5_19 rfl (lyx_is hy 1 5 rfl) e199 ?_
          refine WE_ba dX5_next_87 (lyx_is hy 2 12 rfl) (lyx_n hy 2 900 rfl) (by omega) (by omega) (fun v203 ev203 => ?_)
          have hb88 : v203.toInt = B k := by rw [← ev203, FCx_at hy fI201 2 (by decide) (by decide), show w192.toInt.toNat = k by omega]; exact hT.2 k (by omega)
          refine WP_callS1 dX5_next_88 ⟨⟨⟨by decide, by decide⟩, zX5_isLetter⟩, lX5_28, tX5_isLetter⟩ (ex_isLetter hy hr _  ) (Nat.le_of_ble_eq_true rfl) ?_
          intro r Ia Ja Ra hq
          obtain ⟨⟨ea, eb, ec⟩, v205, er, p204⟩ := hq
          rw [ea, eb, ec, er]
          clear ea eb ec er Ia Ja Ra r
          refine WQ_if_eq 101 dX5_next_91 rfl (fun c205 => ?_) (fun c205 => ?_)
          · have hl : bL (B k) = false := by
              rcases p204 with ⟨a, b⟩ | ⟨a, b⟩
              · exact absurd a (by omega)
              · rw [hb88] at b; exact b
            refine WP_aload_n dX5_next_101 rfl ?_
            refine WP_getr dX5_next_102 fX5_9 rfl (lyx_is hy 1 5 rfl) (rfx hr 1 0 2 (by decide)) ?_
            refine WP_aload_n dX5_next_105 rfl ?_
            refine WQ_getim dX5_next_106 fX5_19 rfl (lyx_is hy 1 5 rfl) e199 ?_
            refine WE_ba dX5_next_109 (lyx_is hy 2 12 rfl) (lyx_n hy 2 900 rfl) (by omega) (by omega) (fun v207 ev207 => ?_)
            have hb110 : v207.toInt = B k := by rw [← ev207, FCx_at hy fI201 2 (by decide) (by decide), show w192.toInt.toNat = k by omega]; exact hT.2 k (by omega)
            refine WP_callS1 dX5_next_110 ⟨⟨⟨by decide, by decide⟩, zX5_isDigit⟩, lX5_35, tX5_isDigit⟩ (ex_isDigit hy hr _  ) (Nat.le_of_ble_eq_true rfl) ?_
            intro r Ia Ja Ra hq
            obtain ⟨⟨ea, eb, ec⟩, v209, er, p208⟩ := hq
            rw [ea, eb, ec, er]
            clear ea eb ec er Ia Ja Ra r
            refine WQ_if_eq 123 dX5_next_113 rfl (fun c209 => ?_) (fun c209 => ?_)
            · have hd : bD (B k) = false := by
                rcases p208 with ⟨a, b⟩ | ⟨a, b⟩
                · exact absurd a (by omega)
                · rw [hb110] at b; exact b
              refine WP_aload_n dX5_next_123 rfl ?_
              refine WP_aload_n dX5_next_124 rfl ?_
              refine WP_getr dX5_next_125 fX5_9 rfl (lyx_is hy 1 5 rfl) (rfx hr 1 0 2 (by decide)) ?_
              refine WP_aload_n dX5_next_128 rfl ?_
              refine WQ_getim dX5_next_129 fX5_19 rfl (lyx_is hy 1 5 rfl) e199 ?_
              refine WE_ba dX5_next_132 (lyx_is hy 2 12 rfl) (lyx_n hy 2 900 rfl) (by omega) (by omega) (fun v211 ev211 => ?_)
              have hb133 : v211.toInt = B k := by rw [← ev211, FCx_at hy fI201 2 (by decide) (by decide), show w192.toInt.toNat = k by omega]; exact hT.2 k (by omega)
              refine WQ_bipush (59) (59) dX5_next_133 rfl rfl (fun v212 hv212 => ?_)
              refine WQ_icmp_ne 142 dX5_next_135 rfl (fun c212 => ?_) (fun c212 => ?_)
              · have tk := tok_oth hE (by omega) hl hd
                refine WQ_iconst (4) (4) dX5_next_142 rfl rfl (fun v214 hv214 => ?_)
                refine WQ_puti dX5_next_143 fX5_25 rfl rfl (lyx_is hy 1 5 rfl) (fun I215 eI215 => ?_)
                have e216 : I215 (ad g 1) 1 = w188 := by rw [eI215, pp_ne _ _ (Or.inr (by decide))]; exact e196
                have e217 : I215 (ad g 1) 4 = w191 := by rw [eI215, pp_ne _ _ (Or.inr (by decide))]; exact e198
                have e218 : I215 (ad g 1) 6 = w192 := by rw [eI215, pp_ne _ _ (Or.inr (by decide))]; exact e199
                have e219 : I215 (ad g 1) 3 = w192 := by rw [eI215, pp_ne _ _ (Or.inr (by decide))]; exact e200
                have e220 : I215 (ad g 2) w192.toInt.toNat = v211 := by rw [eI215, pp_ne _ _ (Or.inl (lyx_ne hy (by decide) (by decide) (by decide)))]; exact ev211
                have e221 : I215 (ad g 1) 2 = v214 := by rw [eI215, pp_self]
                have fI222 : FC g [1] I I215 := by rw [eI215]; exact FC_pp fI201 (by decide)
                refine WP_aload_n dX5_next_146 rfl ?_
                refine WP_dup dX5_next_147 rfl ?_
                refine WQ_getim dX5_next_148 fX5_19 rfl (lyx_is hy 1 5 rfl) e218 ?_
                refine WQ_iconst (1) (1) dX5_next_151 rfl rfl (fun v223 hv223 => ?_)
                refine WQ_iadd dX5_next_152 (by omega) (by omega) (fun v224 hv224 => ?_)
                refine WQ_puti dX5_next_153 fX5_19 rfl rfl (lyx_is hy 1 5 rfl) (fun I225 eI225 => ?_)
                have e226 : I225 (ad g 1) 1 = w188 := by rw [eI225, pp_ne _ _ (Or.inr (by decide))]; exact e216
                have e227 : I225 (ad g 1) 4 = w191 := by rw [eI225, pp_ne _ _ (Or.inr (by decide))]; exact e217
                have e228 : I225 (ad g 1) 3 = w192 := by rw [eI225, pp_ne _ _ (Or.inr (by decide))]; exact e219
                have e229 : I225 (ad g 2) w192.toInt.toNat = v211 := by rw [eI225, pp_ne _ _ (Or.inl (lyx_ne hy (by decide) (by decide) (by decide)))]; exact e220
                have e230 : I225 (ad g 1) 2 = v214 := by rw [eI225, pp_ne _ _ (Or.inr (by decide))]; exact e221
                have e231 : I225 (ad g 1) 6 = v224 := by rw [eI225, pp_self]
                have fI232 : FC g [1] I I225 := by rw [eI225]; exact FC_pp fI222 (by decide)
                exact WP_vret dX5_next_156 rfl ⟨rfl, fI232, fJ186, rfl, by
                  try simp only [e226, e227, e228, e230, e231, ew193, ew176, ew177, ew178, ew179, ew180, ew181]
                  refine ⟨tpx_fc hy hT fI232 (by first | omega | (rw [e226]; omega)), ?_⟩
                  unfold CUX
                  try simp only [e226, e227, e228, e230, e231, ew193]
                  rw [hE, tk.1, tk.2]
                  refine ⟨by omega, by omega, by split <;> omega, fun h => absurd h (by split <;> decide), fun h => absurd h (by split <;> decide)⟩⟩
              · have tk := tok_oth hE (by omega) hl hd
                refine WQ_iconst (3) (3) dX5_next_138 rfl rfl (fun v233 hv233 => ?_)
                refine WP_goto 143 dX5_next_139 rfl ?_
                refine WQ_puti dX5_next_143 fX5_25 rfl rfl (lyx_is hy 1 5 rfl) (fun I234 eI234 => ?_)
                have e235 : I234 (ad g 1) 1 = w188 := by rw [eI234, pp_ne _ _ (Or.inr (by decide))]; exact e196
                have e236 : I234 (ad g 1) 4 = w191 := by rw [eI234, pp_ne _ _ (Or.inr (by decide))]; exact e198
                have e237 : I234 (ad g 1) 6 = w192 := by rw [eI234, pp_ne _ _ (Or.inr (by decide))]; exact e199
                have e238 : I234 (ad g 1) 3 = w192 := by rw [eI234, pp_ne _ _ (Or.inr (by decide))]; exact e200
                have e239 : I234 (ad g 2) w192.toInt.toNat = v211 := by rw [eI234, pp_ne _ _ (Or.inl (lyx_ne hy (by decide) (by decide) (by decide)))]; exact ev211
                have e240 : I234 (ad g 1) 2 = v233 := by rw [eI234, pp_self]
                have fI241 : FC g [1] I I234 := by rw [eI234]; exact FC_pp fI201 (by decide)
                refine WP_aload_n dX5_next_146 rfl ?_
                refine WP_dup dX5_next_147 rfl ?_
                refine WQ_getim dX5_next_148 fX5_19 rfl (lyx_is hy 1 5 rfl) e237 ?_
                refine WQ_iconst (1) (1) dX5_next_151 rfl rfl (fun v242 hv242 => ?_)
                refine WQ_iadd dX5_next_152 (by omega) (by omega) (fun v243 hv243 => ?_)
                refine WQ_puti dX5_next_153 fX5_19 rfl rfl (lyx_is hy 1 5 rfl) (fun I244 eI244 => ?_)
                have e245 : I244 (ad g 1) 1 = w188 := by rw [eI244, pp_ne _ _ (Or.inr (by decide))]; exact e235
                have e246 : I244 (ad g 1) 4 = w191 := by rw [eI244, pp_ne _ _ (Or.inr (by decide))]; exact e236
                have e247 : I244 (ad g 1) 3 = w192 := by rw [eI244, pp_ne _ _ (Or.inr (by decide))]; exact e238
                have e248 : I244 (ad g 2) w192.toInt.toNat = v211 := by rw [eI244, pp_ne _ _ (Or.inl (lyx_ne hy (by decide) (by decide) (by decide)))]; exact e239
                have e249 : I244 (ad g 1) 2 = v233 := by rw [eI244, pp_ne _ _ (Or.inr (by decide))]; exact e240
                have e250 : I244 (ad g 1) 6 = v243 := by rw [eI244, pp_self]
                have fI251 : FC g [1] I I244 := by rw [eI244]; exact FC_pp fI241 (by decide)
                exact WP_vret dX5_next_156 rfl ⟨rfl, fI251, fJ186, rfl, by
                  try simp only [e245, e246, e247, e249, e250, ew193, ew176, ew177, ew178, ew179, ew180, ew181]
                  refine ⟨tpx_fc hy hT fI251 (by first | omega | (rw [e245]; omega)), ?_⟩
                  unfold CUX
                  try simp only [e245, e246, e247, e249, e250, ew193]
                  rw [hE, tk.1, tk.2]
                  refine ⟨by omega, by omega, by split <;> omega, fun h => absurd h (by split <;> decide), fun h => absurd h (by split <;> decide)⟩⟩
            · have hd : bD (B k) = true := by
                rcases p208 with ⟨a, b⟩ | ⟨a, b⟩
                · rw [hb110] at b; exact b
                · exact absurd a (by omega)
              refine WP_aload_n dX5_next_116 rfl ?_
              refine WP_callV0 (k := 5) dX5_next_117 ⟨⟨⟨by decide, by decide⟩, zX5_readNumber⟩, lX5_38, by decide, rfl, vX5_readNumber.1, vX5_readNumber.2⟩ (lyx_is hy 1 5 rfl) (ex_readNumber hy hr   (tpx_fc hy hT fI201 (by rw [e196]; omega)) hn (by rw [e200]; exact i6) (by rw [e199]; exact i6) ikn) (Nat.le_of_ble_eq_true rfl) ?_
              intro r I253 J254 Ra hq
              obtain ⟨ec, g255, g256, er, p252⟩ := hq
              rw [ec, er]
              clear ec er Ra r
              have e258 : I253 (ad g 2) w192.toInt.toNat = v207 := by rw [FCx_at hy g255 2 (by decide) (by decide)]; exact ev207
              have e259 : J254 (ad g 1) 5 = w193 := by rw [FCx_at hy g256 1 (by decide) (by decide)]; exact ew193
              have fI260 : FC g [1] I I253 := FC_tr fI201 (FC_mono g255 (by decide))
              have fJ261 : FC g [1] J J254 := FC_tr fJ186 (FC_mono g256 (by decide))
              obtain ⟨w262, ew262⟩ : ∃ w : Int32, I253 (ad g 1) 1 = w := ⟨_, rfl⟩
              obtain ⟨w263, ew263⟩ : ∃ w : Int32, I253 (ad g 1) 2 = w := ⟨_, rfl⟩
              obtain ⟨w264, ew264⟩ : ∃ w : Int32, I253 (ad g 1) 3 = w := ⟨_, rfl⟩
              obtain ⟨w265, ew265⟩ : ∃ w : Int32, I253 (ad g 1) 4 = w := ⟨_, rfl⟩
              obtain ⟨w266, ew266⟩ : ∃ w : Int32, I253 (ad g 1) 6 = w := ⟨_, rfl⟩
              try simp only [ew262, ew263, ew264, ew265, ew266, e259, ew176, ew177, ew178, ew179, ew180, ew181] at p252
              obtain ⟨q1, q3, q6, q2, q5⟩ := p252
              have tk := tok_dig hE (by omega) hl hd
              refine WP_goto 156 dX5_next_120 rfl ?_
              exact WP_vret dX5_next_156 rfl ⟨rfl, fI260, fJ261, rfl, by
                try simp only [ew262, ew263, ew264, ew265, ew266, e259, ew176, ew177, ew178, ew179, ew180, ew181]
                refine ⟨tpx_fc hy hT fI260 (by first | omega | (rw [ew262]; omega)), ?_⟩
                unfold CUX
                try simp only [ew262, ew263, ew264, ew265, ew266, e259]
                rw [hE, tk.1, tk.2]
                refine ⟨by omega, by omega, q2, fun h => ?_, fun h => absurd h (by split <;> decide)⟩
                have h8 : sp bD B (n - k) k - k ≤ 4 := by
                  split at h
                  · exact absurd h (by decide)
                  · omega
                unfold tV
                rw [hE, tk.1]
                exact q5 h8⟩
          · have hl : bL (B k) = true := by
              rcases p204 with ⟨a, b⟩ | ⟨a, b⟩
              · rw [hb88] at b; exact b
              · exact absurd a (by omega)
            refine WP_aload_n dX5_next_94 rfl ?_
            refine WP_callV0 (k := 5) dX5_next_95 ⟨⟨⟨by decide, by decide⟩, zX5_readWord⟩, lX5_32, by decide, rfl, vX5_readWord.1, vX5_readWord.2⟩ (lyx_is hy 1 5 rfl) (ex_readWord hy hr   (tpx_fc hy hT fI201 (by rw [e196]; omega)) hn (by rw [e200]; exact i6) (by rw [e199]; exact i6) ikn) (Nat.le_of_ble_eq_true rfl) ?_
            intro r I268 J269 Ra hq
            obtain ⟨ec, g270, g271, er, p267⟩ := hq
            rw [ec, er]
            clear ec er Ra r
            have e273 : I268 (ad g 2) w192.toInt.toNat = v203 := by rw [FCx_at hy g270 2 (by decide) (by decide)]; exact ev203
            have fI274 : FC g [1] I I268 := FC_tr fI201 (FC_mono g270 (by decide))
            have fJ275 : FC g [1] J J269 := FC_tr fJ186 (FC_mono g271 (by decide))
            obtain ⟨w276, ew276⟩ : ∃ w : Int32, I268 (ad g 1) 1 = w := ⟨_, rfl⟩
            obtain ⟨w277, ew277⟩ : ∃ w : Int32, I268 (ad g 1) 2 = w := ⟨_, rfl⟩
            obtain ⟨w278, ew278⟩ : ∃ w : Int32, I268 (ad g 1) 3 = w := ⟨_, rfl⟩
            obtain ⟨w279, ew279⟩ : ∃ w : Int32, I268 (ad g 1) 4 = w := ⟨_, rfl⟩
            obtain ⟨w280, ew280⟩ : ∃ w : Int32, I268 (ad g 1) 6 = w := ⟨_, rfl⟩
            obtain ⟨w281, ew281⟩ : ∃ w : Int64, J269 (ad g 1) 5 = w := ⟨_, rfl⟩
            try simp only [ew276, ew277, ew278, ew279, ew280, ew281, ew176, ew177, ew178, ew179, ew180, ew181] at p267
            obtain ⟨q1, q3, q6, q2, q5⟩ := p267
            have tk := tok_let hE (by omega) hl
            refine WP_goto 156 dX5_next_98 rfl ?_
            exact WP_vret dX5_next_156 rfl ⟨rfl, fI274, fJ275, rfl, by
              try simp only [ew276, ew277, ew278, ew279, ew280, ew281, ew176, ew177, ew178, ew179, ew180, ew181]
              refine ⟨tpx_fc hy hT fI274 (by first | omega | (rw [ew276]; omega)), ?_⟩
              unfold CUX
              try simp only [ew276, ew277, ew278, ew279, ew280, ew281]
              rw [hE, tk.1, tk.2]
              refine ⟨by omega, by omega, q2, fun h => absurd h (by split <;> decide), fun h => ?_⟩
              have h8 : sp bL B (n - k) k - k ≤ 8 := by
                split at h
                · exact absurd h (by decide)
                · omega
              unfold tW
              rw [hE, tk.1]
              exact q5 h8⟩
        · refine WP_aload_n dX5_next_71 rfl ?_
          refine WQ_iconst (0) (0) dX5_next_72 rfl rfl (fun v282 hv282 => ?_)
          have tk := tok_end (hE.trans (show k = n by omega))
          refine WQ_puti dX5_next_73 fX5_25 rfl rfl (lyx_is hy 1 5 rfl) (fun I283 eI283 => ?_)
          have e284 : I283 (ad g 1) 1 = w188 := by rw [eI283, pp_ne _ _ (Or.inr (by decide))]; exact e196
          have e285 : I283 (ad g 1) 4 = w191 := by rw [eI283, pp_ne _ _ (Or.inr (by decide))]; exact e198
          have e286 : I283 (ad g 1) 6 = w192 := by rw [eI283, pp_ne _ _ (Or.inr (by decide))]; exact e199
          have e287 : I283 (ad g 1) 3 = w192 := by rw [eI283, pp_ne _ _ (Or.inr (by decide))]; exact e200
          have e288 : I283 (ad g 1) 2 = v282 := by rw [eI283, pp_self]
          have fI289 : FC g [1] I I283 := by rw [eI283]; exact FC_pp fI201 (by decide)
          refine WP_goto 156 dX5_next_76 rfl ?_
          exact WP_vret dX5_next_156 rfl ⟨rfl, fI289, fJ186, rfl, by
            try simp only [e284, e285, e286, e287, e288, ew193, ew176, ew177, ew178, ew179, ew180, ew181]
            refine ⟨tpx_fc hy hT fI289 (by first | omega | (rw [e284]; omega)), ?_⟩
            unfold CUX
            try simp only [e284, e285, e286, e287, e288, ew193]
            rw [hE, tk.1, tk.2]
            refine ⟨by omega, by omega, by omega, fun h => absurd h (by decide), fun h => absurd h (by decide)⟩⟩
      · refine WP_aload_n dX5_next_11 rfl ?_
        refine WP_getr dX5_next_12 fX5_9 rfl (lyx_is hy 1 5 rfl) (rfx hr 1 0 2 (by decide)) ?_
        refine WP_aload_n dX5_next_15 rfl ?_
        refine WQ_getim dX5_next_16 fX5_19 rfl (lyx_is hy 1 5 rfl) ew192 ?_
        refine WE_ba dX5_next_19 (lyx_is hy 2 12 rfl) (lyx_n hy 2 900 rfl) (by omega) (by omega) (fun v290 ev290 => ?_)
        have hb20 : v290.toInt = B k := by rw [← ev290, FCx_at hy fI183 2 (by decide) (by decide), show w192.toInt.toNat = k by omega]; exact hT.2 k (by omega)
        refine WQ_bipush (32) (32) dX5_next_20 rfl rfl (fun v291 hv291 => ?_)
        refine WQ_icmp_eq 39 dX5_next_22 rfl (fun c291 => ?_) (fun c291 => ?_)
        · have hl : bB (B k) = true := by simp [bB]; omega
          refine WP_aload_n dX5_next_39 rfl ?_
          refine WP_dup dX5_next_40 rfl ?_
          refine WQ_getim dX5_next_41 fX5_19 rfl (lyx_is hy 1 5 rfl) ew192 ?_
          refine WQ_iconst (1) (1) dX5_next_44 rfl rfl (fun v293 hv293 => ?_)
          refine WQ_iadd dX5_next_45 (by omega) (by omega) (fun v294 hv294 => ?_)
          refine WQ_puti dX5_next_46 fX5_19 rfl rfl (lyx_is hy 1 5 rfl) (fun I295 eI295 => ?_)
          have e296 : I295 (ad g 1) 1 = w188 := by rw [eI295, pp_ne _ _ (Or.inr (by decide))]; exact ew188
          have e297 : I295 (ad g 1) 2 = w189 := by rw [eI295, pp_ne _ _ (Or.inr (by decide))]; exact ew189
          have e298 : I295 (ad g 1) 3 = w190 := by rw [eI295, pp_ne _ _ (Or.inr (by decide))]; exact ew190
          have e299 : I295 (ad g 1) 4 = w191 := by rw [eI295, pp_ne _ _ (Or.inr (by decide))]; exact ew191
          have e300 : I295 (ad g 2) w192.toInt.toNat = v290 := by rw [eI295, pp_ne _ _ (Or.inl (lyx_ne hy (by decide) (by decide) (by decide)))]; exact ev290
          have e301 : I295 (ad g 1) 6 = v294 := by rw [eI295, pp_self]
          have fI302 : FC g [1] I I295 := by rw [eI295]; exact FC_pp fI183 (by decide)
          refine WP_goto 0 dX5_next_49 rfl ?_
          refine WP_sub (fc rfl fn) (ihlp187 I295 J185 fI302 fJ186 ?_ ?_)
          · try simp only [e296, e297, e298, e299, e301, ew193, ew176, ew177, ew178, ew179, ew180, ew181]
            refine ⟨k + 1, by omega, by omega, by omega, by omega, ?_⟩
            rw [← sp_go (by omega) hl]; exact isp
          · try simp only [e296, e297, e298, e299, e301, ew193, ew176, ew177, ew178, ew179, ew180, ew181]
            omega
        · refine WP_aload_n dX5_next_25 rfl ?_
          refine WP_getr dX5_next_26 fX5_9 rfl (lyx_is hy 1 5 rfl) (rfx hr 1 0 2 (by decide)) ?_
          refine WP_aload_n dX5_next_29 rfl ?_
          refine WQ_getim dX5_next_30 fX5_19 rfl (lyx_is hy 1 5 rfl) ew192 ?_
          refine WE_ba dX5_next_33 (lyx_is hy 2 12 rfl) (lyx_n hy 2 900 rfl) (by omega) (by omega) (fun v303 ev303 => ?_)
          have hb34 : v303.toInt = B k := by rw [← ev303, FCx_at hy fI183 2 (by decide) (by decide), show w192.toInt.toNat = k by omega]; exact hT.2 k (by omega)
          refine WQ_bipush (10) (10) dX5_next_34 rfl rfl (fun v304 hv304 => ?_)
          refine WQ_icmp_ne 52 dX5_next_36 rfl (fun c304 => ?_) (fun c304 => ?_)
          · have hE : tF B n p = k := by
              unfold tF
              rw [← isp]
              refine sp_no ?_
              simp [bB]
              omega
            refine WP_aload_n dX5_next_52 rfl ?_
            refine WP_aload_n dX5_next_53 rfl ?_
            refine WQ_getim dX5_next_54 fX5_19 rfl (lyx_is hy 1 5 rfl) ew192 ?_
            refine WQ_puti dX5_next_57 fX5_22 rfl rfl (lyx_is hy 1 5 rfl) (fun I306 eI306 => ?_)
            have e307 : I306 (ad g 1) 1 = w188 := by rw [eI306, pp_ne _ _ (Or.inr (by decide))]; exact ew188
            have e308 : I306 (ad g 1) 2 = w189 := by rw [eI306, pp_ne _ _ (Or.inr (by decide))]; exact ew189
            have e309 : I306 (ad g 1) 4 = w191 := by rw [eI306, pp_ne _ _ (Or.inr (by decide))]; exact ew191
            have e310 : I306 (ad g 1) 6 = w192 := by rw [eI306, pp_ne _ _ (Or.inr (by decide))]; exact ew192
            have e311 : I306 (ad g 2) w192.toInt.toNat = v303 := by rw [eI306, pp_ne _ _ (Or.inl (lyx_ne hy (by decide) (by decide) (by decide)))]; exact ev303
            have e312 : I306 (ad g 1) 3 = w192 := by rw [eI306, pp_self]
            have fI313 : FC g [1] I I306 := by rw [eI306]; exact FC_pp fI183 (by decide)
            refine WP_aload_n dX5_next_60 rfl ?_
            refine WQ_getim dX5_next_61 fX5_19 rfl (lyx_is hy 1 5 rfl) e310 ?_
            refine WP_aload_n dX5_next_64 rfl ?_
            refine WQ_getim dX5_next_65 fX5_15 rfl (lyx_is hy 1 5 rfl) e307 ?_
            refine WQ_icmp_lt 79 dX5_next_68 rfl (fun c313 => ?_) (fun c313 => ?_)
            · refine WP_aload_n dX5_next_79 rfl ?_
              refine WP_getr dX5_next_80 fX5_9 rfl (lyx_is hy 1 5 rfl) (rfx hr 1 0 2 (by decide)) ?_
              refine WP_aload_n dX5_next_83 rfl ?_
              refine WQ_getim dX5_next_84 fX5_19 rfl (lyx_is hy 1 5 rfl) e310 ?_
              refine WE_ba dX5_next_87 (lyx_is hy 2 12 rfl) (lyx_n hy 2 900 rfl) (by omega) (by omega) (fun v315 ev315 => ?_)
              have hb88 : v315.toInt = B k := by rw [← ev315, FCx_at hy fI313 2 (by decide) (by decide), show w192.toInt.toNat = k by omega]; exact hT.2 k (by omega)
              refine WP_callS1 dX5_next_88 ⟨⟨⟨by decide, by decide⟩, zX5_isLetter⟩, lX5_28, tX5_isLetter⟩ (ex_isLetter hy hr _  ) (Nat.le_of_ble_eq_true rfl) ?_
              intro r Ia Ja Ra hq
              obtain ⟨⟨ea, eb, ec⟩, v317, er, p316⟩ := hq
              rw [ea, eb, ec, er]
              clear ea eb ec er Ia Ja Ra r
              refine WQ_if_eq 101 dX5_next_91 rfl (fun c317 => ?_) (fun c317 => ?_)
              · have hl : bL (B k) = false := by
                  rcases p316 with ⟨a, b⟩ | ⟨a, b⟩
                  · exact absurd a (by omega)
                  · rw [hb88] at b; exact b
                refine WP_aload_n dX5_next_101 rfl ?_
                refine WP_getr dX5_next_102 fX5_9 rfl (lyx_is hy 1 5 rfl) (rfx hr 1 0 2 (by decide)) ?_
                refine WP_aload_n dX5_next_105 rfl ?_
                refine WQ_getim dX5_next_106 fX5_19 rfl (lyx_is hy 1 5 rfl) e310 ?_
                refine WE_ba dX5_next_109 (lyx_is hy 2 12 rfl) (lyx_n hy 2 900 rfl) (by omega) (by omega) (fun v319 ev319 => ?_)
                have hb110 : v319.toInt = B k := by rw [← ev319, FCx_at hy fI313 2 (by decide) (by decide), show w192.toInt.toNat = k by omega]; exact hT.2 k (by omega)
                refine WP_callS1 dX5_next_110 ⟨⟨⟨by decide, by decide⟩, zX5_isDigit⟩, lX5_35, tX5_isDigit⟩ (ex_isDigit hy hr _  ) (Nat.le_of_ble_eq_true rfl) ?_
                intro r Ia Ja Ra hq
                obtain ⟨⟨ea, eb, ec⟩, v321, er, p320⟩ := hq
                rw [ea, eb, ec, er]
                clear ea eb ec er Ia Ja Ra r
                refine WQ_if_eq 123 dX5_next_113 rfl (fun c321 => ?_) (fun c321 => ?_)
                · have hd : bD (B k) = false := by
                    rcases p320 with ⟨a, b⟩ | ⟨a, b⟩
                    · exact absurd a (by omega)
                    · rw [hb110] at b; exact b
                  refine WP_aload_n dX5_next_123 rfl ?_
                  refine WP_aload_n dX5_next_124 rfl ?_
                  refine WP_getr dX5_next_125 fX5_9 rfl (lyx_is hy 1 5 rfl) (rfx hr 1 0 2 (by decide)) ?_
                  refine WP_aload_n dX5_next_128 rfl ?_
                  refine WQ_getim dX5_next_129 fX5_19 rfl (lyx_is hy 1 5 rfl) e310 ?_
                  refine WE_ba dX5_next_132 (lyx_is hy 2 12 rfl) (lyx_n hy 2 900 rfl) (by omega) (by omega) (fun v323 ev323 => ?_)
                  have hb133 : v323.toInt = B k := by rw [← ev323, FCx_at hy fI313 2 (by decide) (by decide), show w192.toInt.toNat = k by omega]; exact hT.2 k (by omega)
                  refine WQ_bipush (59) (59) dX5_next_133 rfl rfl (fun v324 hv324 => ?_)
                  refine WQ_icmp_ne 142 dX5_next_135 rfl (fun c324 => ?_) (fun c324 => ?_)
                  · have tk := tok_oth hE (by omega) hl hd
                    refine WQ_iconst (4) (4) dX5_next_142 rfl rfl (fun v326 hv326 => ?_)
                    refine WQ_puti dX5_next_143 fX5_25 rfl rfl (lyx_is hy 1 5 rfl) (fun I327 eI327 => ?_)
                    have e328 : I327 (ad g 1) 1 = w188 := by rw [eI327, pp_ne _ _ (Or.inr (by decide))]; exact e307
                    have e329 : I327 (ad g 1) 4 = w191 := by rw [eI327, pp_ne _ _ (Or.inr (by decide))]; exact e309
                    have e330 : I327 (ad g 1) 6 = w192 := by rw [eI327, pp_ne _ _ (Or.inr (by decide))]; exact e310
                    have e331 : I327 (ad g 2) w192.toInt.toNat = v323 := by rw [eI327, pp_ne _ _ (Or.inl (lyx_ne hy (by decide) (by decide) (by decide)))]; exact ev323
                    have e332 : I327 (ad g 1) 3 = w192 := by rw [eI327, pp_ne _ _ (Or.inr (by decide))]; exact e312
                    have e333 : I327 (ad g 1) 2 = v326 := by rw [eI327, pp_self]
                    have fI334 : FC g [1] I I327 := by rw [eI327]; exact FC_pp fI313 (by decide)
                    refine WP_aload_n dX5_next_146 rfl ?_
                    refine WP_dup dX5_next_147 rfl ?_
                    refine WQ_getim dX5_next_148 fX5_19 rfl (lyx_is hy 1 5 rfl) e330 ?_
                    refine WQ_iconst (1) (1) dX5_next_151 rfl rfl (fun v335 hv335 => ?_)
                    refine WQ_iadd dX5_next_152 (by omega) (by omega) (fun v336 hv336 => ?_)
                    refine WQ_puti dX5_next_153 fX5_19 rfl rfl (lyx_is hy 1 5 rfl) (fun I337 eI337 => ?_)
                    have e338 : I337 (ad g 1) 1 = w188 := by rw [eI337, pp_ne _ _ (Or.inr (by decide))]; exact e328
                    have e339 : I337 (ad g 1) 4 = w191 := by rw [eI337, pp_ne _ _ (Or.inr (by decide))]; exact e329
                    have e340 : I337 (ad g 2) w192.toInt.toNat = v323 := by rw [eI337, pp_ne _ _ (Or.inl (lyx_ne hy (by decide) (by decide) (by decide)))]; exact e331
                    have e341 : I337 (ad g 1) 3 = w192 := by rw [eI337, pp_ne _ _ (Or.inr (by decide))]; exact e332
                    have e342 : I337 (ad g 1) 2 = v326 := by rw [eI337, pp_ne _ _ (Or.inr (by decide))]; exact e333
                    have e343 : I337 (ad g 1) 6 = v336 := by rw [eI337, pp_self]
                    have fI344 : FC g [1] I I337 := by rw [eI337]; exact FC_pp fI334 (by decide)
                    exact WP_vret dX5_next_156 rfl ⟨rfl, fI344, fJ186, rfl, by
                      try simp only [e338, e339, e341, e342, e343, ew193, ew176, ew177, ew178, ew179, ew180, ew181]
                      refine ⟨tpx_fc hy hT fI344 (by first | omega | (rw [e338]; omega)), ?_⟩
                      unfold CUX
                      try simp only [e338, e339, e341, e342, e343, ew193]
                      rw [hE, tk.1, tk.2]
                      refine ⟨by omega, by omega, by split <;> omega, fun h => absurd h (by split <;> decide), fun h => absurd h (by split <;> decide)⟩⟩
                  · have tk := tok_oth hE (by omega) hl hd
                    refine WQ_iconst (3) (3) dX5_next_138 rfl rfl (fun v345 hv345 => ?_)
                    refine WP_goto 143 dX5_next_139 rfl ?_
                    refine WQ_puti dX5_next_143 fX5_25 rfl rfl (lyx_is hy 1 5 rfl) (fun I346 eI346 => ?_)
                    have e347 : I346 (ad g 1) 1 = w188 := by rw [eI346, pp_ne _ _ (Or.inr (by decide))]; exact e307
                    have e348 : I346 (ad g 1) 4 = w191 := by rw [eI346, pp_ne _ _ (Or.inr (by decide))]; exact e309
                    have e349 : I346 (ad g 1) 6 = w192 := by rw [eI346, pp_ne _ _ (Or.inr (by decide))]; exact e310
                    have e350 : I346 (ad g 2) w192.toInt.toNat = v323 := by rw [eI346, pp_ne _ _ (Or.inl (lyx_ne hy (by decide) (by decide) (by decide)))]; exact ev323
                    have e351 : I346 (ad g 1) 3 = w192 := by rw [eI346, pp_ne _ _ (Or.inr (by decide))]; exact e312
                    have e352 : I346 (ad g 1) 2 = v345 := by rw [eI346, pp_self]
                    have fI353 : FC g [1] I I346 := by rw [eI346]; exact FC_pp fI313 (by decide)
                    refine WP_aload_n dX5_next_146 rfl ?_
                    refine WP_dup dX5_next_147 rfl ?_
                    refine WQ_getim dX5_next_148 fX5_19 rfl (lyx_is hy 1 5 rfl) e349 ?_
                    refine WQ_iconst (1) (1) dX5_next_151 rfl rfl (fun v354 hv354 => ?_)
                    refine WQ_iadd dX5_next_152 (by omega) (by omega) (fun v355 hv355 => ?_)
                    refine WQ_puti dX5_next_153 fX5_19 rfl rfl (lyx_is hy 1 5 rfl) (fun I356 eI356 => ?_)
                    have e357 : I356 (ad g 1) 1 = w188 := by rw [eI356, pp_ne _ _ (Or.inr (by decide))]; exact e347
                    have e358 : I356 (ad g 1) 4 = w191 := by rw [eI356, pp_ne _ _ (Or.inr (by decide))]; exact e348
                    have e359 : I356 (ad g 2) w192.toInt.toNat = v323 := by rw [eI356, pp_ne _ _ (Or.inl (lyx_ne hy (by decide) (by decide) (by decide)))]; exact e350
                    have e360 : I356 (ad g 1) 3 = w192 := by rw [eI356, pp_ne _ _ (Or.inr (by decide))]; exact e351
                    have e361 : I356 (ad g 1) 2 = v345 := by rw [eI356, pp_ne _ _ (Or.inr (by decide))]; exact e352
                    have e362 : I356 (ad g 1) 6 = v355 := by rw [eI356, pp_self]
                    have fI363 : FC g [1] I I356 := by rw [eI356]; exact FC_pp fI353 (by decide)
                    exact WP_vret dX5_next_156 rfl ⟨rfl, fI363, fJ186, rfl, by
                      try simp only [e357, e358, e360, e361, e362, ew193, ew176, ew177, ew178, ew179, ew180, ew181]
                      refine ⟨tpx_fc hy hT fI363 (by first | omega | (rw [e357]; omega)), ?_⟩
                      unfold CUX
                      try simp only [e357, e358, e360, e361, e362, ew193]
                      rw [hE, tk.1, tk.2]
                      refine ⟨by omega, by omega, by split <;> omega, fun h => absurd h (by split <;> decide), fun h => absurd h (by split <;> decide)⟩⟩
                · have hd : bD (B k) = true := by
                    rcases p320 with ⟨a, b⟩ | ⟨a, b⟩
                    · rw [hb110] at b; exact b
                    · exact absurd a (by omega)
                  refine WP_aload_n dX5_next_116 rfl ?_
                  refine WP_callV0 (k := 5) dX5_next_117 ⟨⟨⟨by decide, by decide⟩, zX5_readNumber⟩, lX5_38, by decide, rfl, vX5_readNumber.1, vX5_readNumber.2⟩ (lyx_is hy 1 5 rfl) (ex_readNumber hy hr   (tpx_fc hy hT fI313 (by rw [e307]; omega)) hn (by rw [e312]; exact i6) (by rw [e310]; exact i6) ikn) (Nat.le_of_ble_eq_true rfl) ?_
                  intro r I365 J366 Ra hq
                  obtain ⟨ec, g367, g368, er, p364⟩ := hq
                  rw [ec, er]
                  clear ec er Ra r
                  have e370 : I365 (ad g 2) w192.toInt.toNat = v319 := by rw [FCx_at hy g367 2 (by decide) (by decide)]; exact ev319
                  have e371 : J366 (ad g 1) 5 = w193 := by rw [FCx_at hy g368 1 (by decide) (by decide)]; exact ew193
                  have fI372 : FC g [1] I I365 := FC_tr fI313 (FC_mono g367 (by decide))
                  have fJ373 : FC g [1] J J366 := FC_tr fJ186 (FC_mono g368 (by decide))
                  obtain ⟨w374, ew374⟩ : ∃ w : Int32, I365 (ad g 1) 1 = w := ⟨_, rfl⟩
                  obtain ⟨w375, ew375⟩ : ∃ w : Int32, I365 (ad g 1) 2 = w := ⟨_, rfl⟩
                  obtain ⟨w376, ew376⟩ : ∃ w : Int32, I365 (ad g 1) 3 = w := ⟨_, rfl⟩
                  obtain ⟨w377, ew377⟩ : ∃ w : Int32, I365 (ad g 1) 4 = w := ⟨_, rfl⟩
                  obtain ⟨w378, ew378⟩ : ∃ w : Int32, I365 (ad g 1) 6 = w := ⟨_, rfl⟩
                  try simp only [ew374, ew375, ew376, ew377, ew378, e371, ew176, ew177, ew178, ew179, ew180, ew181] at p364
                  obtain ⟨q1, q3, q6, q2, q5⟩ := p364
                  have tk := tok_dig hE (by omega) hl hd
                  refine WP_goto 156 dX5_next_120 rfl ?_
                  exact WP_vret dX5_next_156 rfl ⟨rfl, fI372, fJ373, rfl, by
                    try simp only [ew374, ew375, ew376, ew377, ew378, e371, ew176, ew177, ew178, ew179, ew180, ew181]
                    refine ⟨tpx_fc hy hT fI372 (by first | omega | (rw [ew374]; omega)), ?_⟩
                    unfold CUX
                    try simp only [ew374, ew375, ew376, ew377, ew378, e371]
                    rw [hE, tk.1, tk.2]
                    refine ⟨by omega, by omega, q2, fun h => ?_, fun h => absurd h (by split <;> decide)⟩
                    have h8 : sp bD B (n - k) k - k ≤ 4 := by
                      split at h
                      · exact absurd h (by decide)
                      · omega
                    unfold tV
                    rw [hE, tk.1]
                    exact q5 h8⟩
              · have hl : bL (B k) = true := by
                  rcases p316 with ⟨a, b⟩ | ⟨a, b⟩
                  · rw [hb88] at b; exact b
                  · exact absurd a (by omega)
                refine WP_aload_n dX5_next_94 rfl ?_
                refine WP_callV0 (k := 5) dX5_next_95 ⟨⟨⟨by decide, by decide⟩, zX5_readWord⟩, lX5_32, by decide, rfl, vX5_readWord.1, vX5_readWord.2⟩ (lyx_is hy 1 5 rfl) (ex_readWord hy hr   (tpx_fc hy hT fI313 (by rw [e307]; omega)) hn (by rw [e312]; exact i6) (by rw [e310]; exact i6) ikn) (Nat.le_of_ble_eq_true rfl) ?_
                intro r I380 J381 Ra hq
                obtain ⟨ec, g382, g383, er, p379⟩ := hq
                rw [ec, er]
                clear ec er Ra r
                have e385 : I380 (ad g 2) w192.toInt.toNat = v315 := by rw [FCx_at hy g382 2 (by decide) (by decide)]; exact ev315
                have fI386 : FC g [1] I I380 := FC_tr fI313 (FC_mono g382 (by decide))
                have fJ387 : FC g [1] J J381 := FC_tr fJ186 (FC_mono g383 (by decide))
                obtain ⟨w388, ew388⟩ : ∃ w : Int32, I380 (ad g 1) 1 = w := ⟨_, rfl⟩
                obtain ⟨w389, ew389⟩ : ∃ w : Int32, I380 (ad g 1) 2 = w := ⟨_, rfl⟩
                obtain ⟨w390, ew390⟩ : ∃ w : Int32, I380 (ad g 1) 3 = w := ⟨_, rfl⟩
                obtain ⟨w391, ew391⟩ : ∃ w : Int32, I380 (ad g 1) 4 = w := ⟨_, rfl⟩
                obtain ⟨w392, ew392⟩ : ∃ w : Int32, I380 (ad g 1) 6 = w := ⟨_, rfl⟩
                obtain ⟨w393, ew393⟩ : ∃ w : Int64, J381 (ad g 1) 5 = w := ⟨_, rfl⟩
                try simp only [ew388, ew389, ew390, ew391, ew392, ew393, ew176, ew177, ew178, ew179, ew180, ew181] at p379
                obtain ⟨q1, q3, q6, q2, q5⟩ := p379
                have tk := tok_let hE (by omega) hl
                refine WP_goto 156 dX5_next_98 rfl ?_
                exact WP_vret dX5_next_156 rfl ⟨rfl, fI386, fJ387, rfl, by
                  try simp only [ew388, ew389, ew390, ew391, ew392, ew393, ew176, ew177, ew178, ew179, ew180, ew181]
                  refine ⟨tpx_fc hy hT fI386 (by first | omega | (rw [ew388]; omega)), ?_⟩
                  unfold CUX
                  try simp only [ew388, ew389, ew390, ew391, ew392, ew393]
                  rw [hE, tk.1, tk.2]
                  refine ⟨by omega, by omega, q2, fun h => absurd h (by split <;> decide), fun h => ?_⟩
                  have h8 : sp bL B (n - k) k - k ≤ 8 := by
                    split at h
                    · exact absurd h (by decide)
                    · omega
                  unfold tW
                  rw [hE, tk.1]
                  exact q5 h8⟩
            · refine WP_aload_n dX5_next_71 rfl ?_
              refine WQ_iconst (0) (0) dX5_next_72 rfl rfl (fun v394 hv394 => ?_)
              have tk := tok_end (hE.trans (show k = n by omega))
              refine WQ_puti dX5_next_73 fX5_25 rfl rfl (lyx_is hy 1 5 rfl) (fun I395 eI395 => ?_)
              have e396 : I395 (ad g 1) 1 = w188 := by rw [eI395, pp_ne _ _ (Or.inr (by decide))]; exact e307
              have e397 : I395 (ad g 1) 4 = w191 := by rw [eI395, pp_ne _ _ (Or.inr (by decide))]; exact e309
              have e398 : I395 (ad g 1) 6 = w192 := by rw [eI395, pp_ne _ _ (Or.inr (by decide))]; exact e310
              have e399 : I395 (ad g 2) w192.toInt.toNat = v303 := by rw [eI395, pp_ne _ _ (Or.inl (lyx_ne hy (by decide) (by decide) (by decide)))]; exact e311
              have e400 : I395 (ad g 1) 3 = w192 := by rw [eI395, pp_ne _ _ (Or.inr (by decide))]; exact e312
              have e401 : I395 (ad g 1) 2 = v394 := by rw [eI395, pp_self]
              have fI402 : FC g [1] I I395 := by rw [eI395]; exact FC_pp fI313 (by decide)
              refine WP_goto 156 dX5_next_76 rfl ?_
              exact WP_vret dX5_next_156 rfl ⟨rfl, fI402, fJ186, rfl, by
                try simp only [e396, e397, e398, e400, e401, ew193, ew176, ew177, ew178, ew179, ew180, ew181]
                refine ⟨tpx_fc hy hT fI402 (by first | omega | (rw [e396]; omega)), ?_⟩
                unfold CUX
                try simp only [e396, e397, e398, e400, e401, ew193]
                rw [hE, tk.1, tk.2]
                refine ⟨by omega, by omega, by omega, fun h => absurd h (by decide), fun h => absurd h (by decide)⟩⟩
          · have hl : bB (B k) = true := by simp [bB]; omega
            refine WP_aload_n dX5_next_39 rfl ?_
            refine WP_dup dX5_next_40 rfl ?_
            refine WQ_getim dX5_next_41 fX5_19 rfl (lyx_is hy 1 5 rfl) ew192 ?_
            refine WQ_iconst (1) (1) dX5_next_44 rfl rfl (fun v403 hv403 => ?_)
            refine WQ_iadd dX5_next_45 (by omega) (by omega) (fun v404 hv404 => ?_)
            refine WQ_puti dX5_next_46 fX5_19 rfl rfl (lyx_is hy 1 5 rfl) (fun I405 eI405 => ?_)
            have e406 : I405 (ad g 1) 1 = w188 := by rw [eI405, pp_ne _ _ (Or.inr (by decide))]; exact ew188
            have e407 : I405 (ad g 1) 2 = w189 := by rw [eI405, pp_ne _ _ (Or.inr (by decide))]; exact ew189
            have e408 : I405 (ad g 1) 3 = w190 := by rw [eI405, pp_ne _ _ (Or.inr (by decide))]; exact ew190
            have e409 : I405 (ad g 1) 4 = w191 := by rw [eI405, pp_ne _ _ (Or.inr (by decide))]; exact ew191
            have e410 : I405 (ad g 2) w192.toInt.toNat = v303 := by rw [eI405, pp_ne _ _ (Or.inl (lyx_ne hy (by decide) (by decide) (by decide)))]; exact ev303
            have e411 : I405 (ad g 1) 6 = v404 := by rw [eI405, pp_self]
            have fI412 : FC g [1] I I405 := by rw [eI405]; exact FC_pp fI183 (by decide)
            refine WP_goto 0 dX5_next_49 rfl ?_
            refine WP_sub (fc rfl fn) (ihlp187 I405 J185 fI412 fJ186 ?_ ?_)
            · try simp only [e406, e407, e408, e409, e411, ew193, ew176, ew177, ew178, ew179, ew180, ew181]
              refine ⟨k + 1, by omega, by omega, by omega, by omega, ?_⟩
              rw [← sp_go (by omega) hl]; exact isp
            · try simp only [e406, e407, e408, e409, e411, ew193, ew176, ew177, ew178, ew179, ew180, ew181]
              omega
  refine WP_sub (fc rfl fn) (lp187 _ I J fI0 fJ0 ?_ (Nat.lt_succ_self _))
  · try simp only [ew176, ew177, ew178, ew179, ew180, ew181]
    exact ⟨p, h6, Nat.le_refl _, hp, hT1, rfl⟩
