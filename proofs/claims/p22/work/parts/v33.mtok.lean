theorem and255 {x y v : Int32} (hy : y.toInt = 255) (h : v = x &&& y) : v.toInt = x.toInt % 256 := by
  obtain rfl : y = 255 := (eq32 y 255).mpr hy
  have e : v.toBitVec.toNat = x.toBitVec.toNat % 256 := by
    rw [h, Int32.toBitVec_and, BitVec.toNat_and]
    have e2 : (255 : Int32).toBitVec.toNat = 2 ^ 8 - 1 := by decide
    rw [e2, Nat.and_two_pow_sub_one_eq_mod]
  have hv := BitVec.toInt_eq_toNat_cond v.toBitVec
  have hx := BitVec.toInt_eq_toNat_cond x.toBitVec
  have lx := x.toBitVec.isLt
  have ev : v.toInt = v.toBitVec.toInt := rfl
  have ex : x.toInt = x.toBitVec.toInt := rfl
  rw [ev, ex]
  split at hv <;> split at hx <;> omega
/-- the reference's byte at a place: 0 from the end on -/
def bA (B : Nat → Int) (n q : Nat) : Int := if q < n then B q % 256 else 0
theorem bA_L {B : Nat → Int} (hB : ∀ q, -128 ≤ B q ∧ B q ≤ 127) {n q : Nat} (h : q < n) : bL (bA B n q) = bL (B q) := by
  have := hB q
  unfold bA
  rw [if_pos h]
  unfold bL
  rw [decide_eq_decide]
  omega
theorem bA_D {B : Nat → Int} (hB : ∀ q, -128 ≤ B q ∧ B q ≤ 127) {n q : Nat} (h : q < n) : bD (bA B n q) = bD (B q) := by
  have := hB q
  unfold bA
  rw [if_pos h]
  unfold bD
  rw [decide_eq_decide]
  omega
theorem bA_out {B : Nat → Int} {n q : Nat} (h : ¬ q < n) : bA B n q = 0 := by
  unfold bA
  rw [if_neg h]
theorem bA_Ly {B : Nat → Int} (hB : ∀ q, -128 ≤ B q ∧ B q ≤ 127) {n q : Nat} (h : bL (bA B n q) = true) : q < n ∧ bL (B q) = true := by
  by_cases hq : q < n
  · rw [bA_L hB hq] at h; exact ⟨hq, h⟩
  · rw [bA_out hq] at h; exact absurd h (by decide)
theorem bA_Dy {B : Nat → Int} (hB : ∀ q, -128 ≤ B q ∧ B q ≤ 127) {n q : Nat} (h : bD (bA B n q) = true) : q < n ∧ bD (B q) = true ∧ bA B n q = B q := by
  by_cases hq : q < n
  · rw [bA_D hB hq] at h
    have h2 := of_bD h
    refine ⟨hq, h, ?_⟩
    unfold bA
    rw [if_pos hq]
    omega
  · rw [bA_out hq] at h; exact absurd h (by decide)
theorem bA_Ln {B : Nat → Int} (hB : ∀ q, -128 ≤ B q ∧ B q ≤ 127) {n q : Nat} (h : bL (bA B n q) = false) : sp bL B (n - q) q = q := by
  by_cases hq : q < n
  · rw [bA_L hB hq] at h; exact sp_no h
  · exact sp_end (by omega)
theorem bA_Dn {B : Nat → Int} (hB : ∀ q, -128 ≤ B q ∧ B q ≤ 127) {n q : Nat} (h : bD (bA B n q) = false) : sp bD B (n - q) q = q := by
  by_cases hq : q < n
  · rw [bA_D hB hq] at h; exact sp_no h
  · exact sp_end (by omega)
theorem tpm_fc {g : GG} (hy : Ly g) {B : Nat → Int} {n : Nat} {I I' : pI} (h : TPM g B n I) (hf : FC g [0] I I') (h1 : (I' (ad g 0) 2).toInt = (n : Int)) : TPM g B n I' := ⟨h1, fun q hq => by rw [FC_at hy hf 1 (by decide) (by decide)]; exact h.2 q hq⟩
set_option maxHeartbeats 4000000 in
set_option maxRecDepth 100000 in
theorem em_isSmall {g : GG} {I : pI} {J : pJ} {R : pR} (hy : Ly g) (hr : Rf g R)  (b : Int32)  : SP g mX11_isSmall [.int b] I J R (fun r I' J' R' => (I' = I ∧ J' = J ∧ R' = R) ∧ ∃ v : Int32, r = some (.int v) ∧ ((v.toInt = 1 ∧ bL b.toInt = true) ∨ (v.toInt = 0 ∧ bL b.toInt = false))) := by
  refine SP_of ⟨by decide, rfl⟩ (Nat.le_of_ble_eq_true rfl) ?_
  refine WP_iload_n dX11_isSmall_0 rfl ?_
  refine WQ_bipush (97) (97) dX11_isSmall_1 rfl rfl (fun v1 hv1 => ?_)
  refine WQ_icmp_lt 16 dX11_isSmall_3 rfl (fun c1 => ?_) (fun c1 => ?_)
  · refine WQ_iconst (0) (0) dX11_isSmall_16 rfl rfl (fun v3 hv3 => ?_)
    exact WP_zret dX11_isSmall_17 rfl (nar_z (by omega)) ⟨⟨rfl, rfl, rfl⟩, v3, rfl, by
      first
      | exact Or.inl ⟨by omega, by simp [bL]; omega⟩
      | exact Or.inr ⟨by omega, by simp [bL]; omega⟩⟩
  · refine WP_iload_n dX11_isSmall_6 rfl ?_
    refine WQ_bipush (122) (122) dX11_isSmall_7 rfl rfl (fun v4 hv4 => ?_)
    refine WQ_icmp_gt 16 dX11_isSmall_9 rfl (fun c4 => ?_) (fun c4 => ?_)
    · refine WQ_iconst (0) (0) dX11_isSmall_16 rfl rfl (fun v6 hv6 => ?_)
      exact WP_zret dX11_isSmall_17 rfl (nar_z (by omega)) ⟨⟨rfl, rfl, rfl⟩, v6, rfl, by
        first
        | exact Or.inl ⟨by omega, by simp [bL]; omega⟩
        | exact Or.inr ⟨by omega, by simp [bL]; omega⟩⟩
    · refine WQ_iconst (1) (1) dX11_isSmall_12 rfl rfl (fun v7 hv7 => ?_)
      refine WP_goto 17 dX11_isSmall_13 rfl ?_
      exact WP_zret dX11_isSmall_17 rfl (nar_z (by omega)) ⟨⟨rfl, rfl, rfl⟩, v7, rfl, by
        first
        | exact Or.inl ⟨by omega, by simp [bL]; omega⟩
        | exact Or.inr ⟨by omega, by simp [bL]; omega⟩⟩
set_option maxHeartbeats 4000000 in
set_option maxRecDepth 100000 in
theorem em_isDigit {g : GG} {I : pI} {J : pJ} {R : pR} (hy : Ly g) (hr : Rf g R)  (b : Int32)  : SP g mX11_isDigit [.int b] I J R (fun r I' J' R' => (I' = I ∧ J' = J ∧ R' = R) ∧ ∃ v : Int32, r = some (.int v) ∧ ((v.toInt = 1 ∧ bD b.toInt = true) ∨ (v.toInt = 0 ∧ bD b.toInt = false))) := by
  refine SP_of ⟨by decide, rfl⟩ (Nat.le_of_ble_eq_true rfl) ?_
  refine WP_iload_n dX11_isDigit_0 rfl ?_
  refine WQ_bipush (48) (48) dX11_isDigit_1 rfl rfl (fun v8 hv8 => ?_)
  refine WQ_icmp_lt 16 dX11_isDigit_3 rfl (fun c8 => ?_) (fun c8 => ?_)
  · refine WQ_iconst (0) (0) dX11_isDigit_16 rfl rfl (fun v10 hv10 => ?_)
    exact WP_zret dX11_isDigit_17 rfl (nar_z (by omega)) ⟨⟨rfl, rfl, rfl⟩, v10, rfl, by
      first
      | exact Or.inl ⟨by omega, by simp [bD]; omega⟩
      | exact Or.inr ⟨by omega, by simp [bD]; omega⟩⟩
  · refine WP_iload_n dX11_isDigit_6 rfl ?_
    refine WQ_bipush (57) (57) dX11_isDigit_7 rfl rfl (fun v11 hv11 => ?_)
    refine WQ_icmp_gt 16 dX11_isDigit_9 rfl (fun c11 => ?_) (fun c11 => ?_)
    · refine WQ_iconst (0) (0) dX11_isDigit_16 rfl rfl (fun v13 hv13 => ?_)
      exact WP_zret dX11_isDigit_17 rfl (nar_z (by omega)) ⟨⟨rfl, rfl, rfl⟩, v13, rfl, by
        first
        | exact Or.inl ⟨by omega, by simp [bD]; omega⟩
        | exact Or.inr ⟨by omega, by simp [bD]; omega⟩⟩
    · refine WQ_iconst (1) (1) dX11_isDigit_12 rfl rfl (fun v14 hv14 => ?_)
      refine WP_goto 17 dX11_isDigit_13 rfl ?_
      exact WP_zret dX11_isDigit_17 rfl (nar_z (by omega)) ⟨⟨rfl, rfl, rfl⟩, v14, rfl, by
        first
        | exact Or.inl ⟨by omega, by simp [bD]; omega⟩
        | exact Or.inr ⟨by omega, by simp [bD]; omega⟩⟩
set_option maxHeartbeats 4000000 in
set_option maxRecDepth 100000 in
theorem em_byteAt {g : GG} {I : pI} {J : pJ} {R : pR} (hy : Ly g) (hr : Rf g R) {B : Nat → Int} {n q : Nat} (k : Int32) (hT : TPM g B n I) (hn : n ≤ 900) (hk : k.toInt = (q : Int)) : SP g mX11_byteAt [.ref (ad g 0), .int k] I J R (fun r I' J' R' => (I' = I ∧ J' = J ∧ R' = R) ∧ ∃ v : Int32, r = some (.int v) ∧ (v.toInt = bA B n q)) := by
  refine SP_of ⟨by decide, rfl⟩ (Nat.le_of_ble_eq_true rfl) ?_
  have hT1 := hT.1
  obtain ⟨w15, ew15⟩ : ∃ w : Int32, I (ad g 0) 2 = w := ⟨_, rfl⟩
  try simp only [ew15] at hT1
  refine WP_iload_n dX11_byteAt_0 rfl ?_
  refine WP_aload_n dX11_byteAt_1 rfl ?_
  refine WQ_getim dX11_byteAt_2 fX11_13 rfl (ly_is hy 0 11 rfl) ew15 ?_
  refine WQ_icmp_ge 21 dX11_byteAt_5 rfl (fun c15 => ?_) (fun c15 => ?_)
  · refine WQ_iconst (0) (0) dX11_byteAt_21 rfl rfl (fun v17 hv17 => ?_)
    exact WP_iret dX11_byteAt_22 rfl ⟨⟨rfl, rfl, rfl⟩, v17, rfl, by
      try simp only [ew15]
      unfold bA
      rw [if_neg (by omega)]
      omega⟩
  · refine WP_aload_n dX11_byteAt_8 rfl ?_
    refine WP_getr dX11_byteAt_9 fX11_16 rfl (ly_is hy 0 11 rfl) (rf hr 0 0 1 (by decide)) ?_
    refine WP_iload_n dX11_byteAt_12 rfl ?_
    refine WE_ba dX11_byteAt_13 (ly_is hy 1 12 rfl) (ly_n hy 1 900 rfl) (by omega) (by omega) (fun v18 ev18 => ?_)
    refine WQ_sipush (255) (255) dX11_byteAt_14 rfl rfl (fun v19 hv19 => ?_)
    refine WP_iand dX11_byteAt_17 ?_
    obtain ⟨v20, xv20⟩ : ∃ v : Int32, v = v18 &&& v19 := ⟨_, rfl⟩
    rw [← xv20]
    refine WP_goto 22 dX11_byteAt_18 rfl ?_
    exact WP_iret dX11_byteAt_22 rfl ⟨⟨rfl, rfl, rfl⟩, v20, rfl, by
      try simp only [ew15]
      unfold bA
      rw [if_pos (by omega), and255 hv19 xv20, ← ev18, show k.toInt.toNat = q by omega, hT.2 q (by omega)]⟩
set_option maxHeartbeats 4000000 in
set_option maxRecDepth 100000 in
theorem em_scan {g : GG} {I : pI} {J : pJ} {R : pR} (hy : Ly g) (hr : Rf g R) {B : Nat → Int} {n p : Nat}  (hT : TPM g B n I) (hn : n ≤ 900) (hB : ∀ q, -128 ≤ B q ∧ B q ≤ 127) (h4 : (I (ad g 0) 4).toInt = (p : Int)) (hp : p ≤ n) : SP g mX11_scan [.ref (ad g 0)] I J R (fun r I' J' R' => R' = R ∧ FC g [0] I I' ∧ FC g [] J J' ∧ FQ g [3, 4, 5, 6] I I' ∧ r = none ∧ (TPM g B n I' ∧ CUM g B n p I')) := by
  refine SP_of ⟨by decide, rfl⟩ (Nat.le_of_ble_eq_true rfl) ?_
  have fI0 : FC g [0] I I := FC_rf
  have fJ0 : FC g [] J J := FC_rf
  have fQ0 : FQ g [3, 4, 5, 6] I I := FQ_rf
  have hT1 := hT.1
  obtain ⟨w21, ew21⟩ : ∃ w : Int32, I (ad g 0) 2 = w := ⟨_, rfl⟩
  obtain ⟨w22, ew22⟩ : ∃ w : Int32, I (ad g 0) 3 = w := ⟨_, rfl⟩
  obtain ⟨w23, ew23⟩ : ∃ w : Int32, I (ad g 0) 4 = w := ⟨_, rfl⟩
  obtain ⟨w24, ew24⟩ : ∃ w : Int32, I (ad g 0) 5 = w := ⟨_, rfl⟩
  obtain ⟨w25, ew25⟩ : ∃ w : Int32, I (ad g 0) 6 = w := ⟨_, rfl⟩
  try simp only [ew21, ew22, ew23, ew24, ew25] at h4 hT1
  have lp29 : ∀ (mz : Nat)  (I26 : pI), FC g [0] I I26 → FQ g [3, 4, 5, 6] I I26 → (∃ k : Nat, (I26 (ad g 0) 4).toInt = (k : Int) ∧ p ≤ k ∧ k ≤ n ∧ (I26 (ad g 0) 2).toInt = (n : Int) ∧ sp bB B (n - k) k = sp bB B (n - p) p) → (n - (I26 (ad g 0) 4).toInt.toNat) < mz → WP g mX11_scan 0 [(0, .ref (ad g 0))] [] I26 J R (fun r I' J' R' => R' = R ∧ FC g [0] I I' ∧ FC g [] J J' ∧ FQ g [3, 4, 5, 6] I I' ∧ r = none ∧ (TPM g B n I' ∧ CUM g B n p I')) := by
    intro mz
    induction mz with
    | zero =>
      intro  I26 fI27 fQ28 hvlp29 hmlp29
      exact absurd hmlp29 (Nat.not_lt_zero _)
    | succ mz ihlp29 =>
      intro  I26 fI27 fQ28 hvlp29 hmlp29
      obtain ⟨w30, ew30⟩ : ∃ w : Int32, I26 (ad g 0) 2 = w := ⟨_, rfl⟩
      obtain ⟨w31, ew31⟩ : ∃ w : Int32, I26 (ad g 0) 3 = w := ⟨_, rfl⟩
      obtain ⟨w32, ew32⟩ : ∃ w : Int32, I26 (ad g 0) 4 = w := ⟨_, rfl⟩
      obtain ⟨w33, ew33⟩ : ∃ w : Int32, I26 (ad g 0) 5 = w := ⟨_, rfl⟩
      obtain ⟨w34, ew34⟩ : ∃ w : Int32, I26 (ad g 0) 6 = w := ⟨_, rfl⟩
      try simp only [ew30, ew31, ew32, ew33, ew34, ew21, ew22, ew23, ew24, ew25] at hvlp29 hmlp29
      obtain ⟨k, i4, ipk, ikn, i2, isp⟩ := hvlp29
      refine WP_aload_n dX11_scan_0 rfl ?_
      refine WQ_getim dX11_scan_1 fX11_20 rfl (ly_is hy 0 11 rfl) ew32 ?_
      refine WP_aload_n dX11_scan_4 rfl ?_
      refine WQ_getim dX11_scan_5 fX11_13 rfl (ly_is hy 0 11 rfl) ew30 ?_
      refine WQ_icmp_ge 52 dX11_scan_8 rfl (fun c34 => ?_) (fun c34 => ?_)
      · have hE : tF B n p = k := by
          unfold tF
          rw [← isp]
          exact sp_end (by omega)
        refine WP_aload_n dX11_scan_52 rfl ?_
        refine WP_aload_n dX11_scan_53 rfl ?_
        refine WQ_getim dX11_scan_54 fX11_20 rfl (ly_is hy 0 11 rfl) ew32 ?_
        refine WQ_puti dX11_scan_57 fX11_7 rfl rfl (ly_is hy 0 11 rfl) (fun I36 eI36 => ?_)
        have e37 : I36 (ad g 0) 2 = w30 := by rw [eI36, pp_ne _ _ (Or.inr (by decide))]; exact ew30
        have e38 : I36 (ad g 0) 4 = w32 := by rw [eI36, pp_ne _ _ (Or.inr (by decide))]; exact ew32
        have e39 : I36 (ad g 0) 5 = w33 := by rw [eI36, pp_ne _ _ (Or.inr (by decide))]; exact ew33
        have e40 : I36 (ad g 0) 6 = w34 := by rw [eI36, pp_ne _ _ (Or.inr (by decide))]; exact ew34
        have e41 : I36 (ad g 0) 3 = w32 := by rw [eI36, pp_self]
        have fI42 : FC g [0] I I36 := by rw [eI36]; exact FC_pp fI27 (by decide)
        have fQ43 : FQ g [3, 4, 5, 6] I I36 := by rw [eI36]; exact FQ_pp0 fQ28 (by decide)
        refine WP_aload_n dX11_scan_60 rfl ?_
        refine WP_aload_n dX11_scan_61 rfl ?_
        refine WQ_getim dX11_scan_62 fX11_7 rfl (ly_is hy 0 11 rfl) e41 ?_
        refine WP_callV1 (k := 11) dX11_scan_65 ⟨⟨⟨by decide, by decide⟩, zX11_byteAt⟩, lX11_23, by decide, rfl, vX11_byteAt.1, vX11_byteAt.2⟩ (ly_is hy 0 11 rfl) (em_byteAt hy hr _  (tpm_fc hy hT fI42 (by rw [e37]; omega)) hn (q := k) (by omega)) (Nat.le_of_ble_eq_true rfl) ?_
        intro r Ia Ja Ra hq
        obtain ⟨⟨ea, eb, ec⟩, v45, er, p44⟩ := hq
        rw [ea, eb, ec, er]
        clear ea eb ec er Ia Ja Ra r
        refine WP_istore_n (ls' := [(0, _), (1, _)]) dX11_scan_68 (by decide) rfl ?_
        refine WP_aload_n dX11_scan_69 rfl ?_
        refine WQ_getim dX11_scan_70 fX11_7 rfl (ly_is hy 0 11 rfl) e41 ?_
        refine WP_aload_n dX11_scan_73 rfl ?_
        refine WQ_getim dX11_scan_74 fX11_13 rfl (ly_is hy 0 11 rfl) e37 ?_
        refine WQ_icmp_ne 88 dX11_scan_77 rfl (fun c45 => ?_) (fun c45 => ?_)
        · refine WP_iload_n dX11_scan_88 rfl ?_
          refine WP_callS1 dX11_scan_89 ⟨⟨⟨by decide, by decide⟩, zX11_isSmall⟩, lX11_30, tX11_isSmall⟩ (em_isSmall hy hr _  ) (Nat.le_of_ble_eq_true rfl) ?_
          intro r Ia Ja Ra hq
          obtain ⟨⟨ea, eb, ec⟩, v48, er, p47⟩ := hq
          rw [ea, eb, ec, er]
          clear ea eb ec er Ia Ja Ra r
          rw [show v45.toInt = bA B n k by omega, bA_L hB (by omega)] at p47
          refine WQ_if_eq 148 dX11_scan_92 rfl (fun c48 => ?_) (fun c48 => ?_)
          · have hl : bL (B k) = false := by
              rcases p47 with ⟨a, b⟩ | ⟨a, b⟩
              · exact absurd a (by omega)
              · exact b
            refine WP_iload_n dX11_scan_148 rfl ?_
            refine WP_callS1 dX11_scan_149 ⟨⟨⟨by decide, by decide⟩, zX11_isDigit⟩, lX11_34, tX11_isDigit⟩ (em_isDigit hy hr _  ) (Nat.le_of_ble_eq_true rfl) ?_
            intro r Ia Ja Ra hq
            obtain ⟨⟨ea, eb, ec⟩, v51, er, p50⟩ := hq
            rw [ea, eb, ec, er]
            clear ea eb ec er Ia Ja Ra r
            rw [show v45.toInt = bA B n k by omega, bA_D hB (by omega)] at p50
            refine WQ_if_eq 248 dX11_scan_152 rfl (fun c51 => ?_) (fun c51 => ?_)
            · have hd : bD (B k) = false := by
                rcases p50 with ⟨a, b⟩ | ⟨a, b⟩
                · exact absurd a (by omega)
                · exact b
              refine WP_aload_n dX11_scan_248 rfl ?_
              refine WP_iload_n dX11_scan_249 rfl ?_
              refine WQ_bipush (59) (59) dX11_scan_250 rfl rfl (fun v53 hv53 => ?_)
              refine WQ_icmp_ne 259 dX11_scan_252 rfl (fun c53 => ?_) (fun c53 => ?_)
              · have tk := tok_oth hE (by omega) hl hd
                have hb59 : bA B n k = B k % 256 := by unfold bA; rw [if_pos (by omega)]
                have hBk := hB k
                refine WQ_iconst (4) (4) dX11_scan_259 rfl rfl (fun v55 hv55 => ?_)
                refine WQ_puti dX11_scan_260 fX11_27 rfl rfl (ly_is hy 0 11 rfl) (fun I56 eI56 => ?_)
                have e57 : I56 (ad g 0) 2 = w30 := by rw [eI56, pp_ne _ _ (Or.inr (by decide))]; exact e37
                have e58 : I56 (ad g 0) 4 = w32 := by rw [eI56, pp_ne _ _ (Or.inr (by decide))]; exact e38
                have e59 : I56 (ad g 0) 6 = w34 := by rw [eI56, pp_ne _ _ (Or.inr (by decide))]; exact e40
                have e60 : I56 (ad g 0) 3 = w32 := by rw [eI56, pp_ne _ _ (Or.inr (by decide))]; exact e41
                have e61 : I56 (ad g 0) 5 = v55 := by rw [eI56, pp_self]
                have fI62 : FC g [0] I I56 := by rw [eI56]; exact FC_pp fI42 (by decide)
                have fQ63 : FQ g [3, 4, 5, 6] I I56 := by rw [eI56]; exact FQ_pp0 fQ43 (by decide)
                refine WP_aload_n dX11_scan_263 rfl ?_
                refine WP_dup dX11_scan_264 rfl ?_
                refine WQ_getim dX11_scan_265 fX11_20 rfl (ly_is hy 0 11 rfl) e58 ?_
                refine WQ_iconst (1) (1) dX11_scan_268 rfl rfl (fun v64 hv64 => ?_)
                refine WQ_iadd dX11_scan_269 (by omega) (by omega) (fun v65 hv65 => ?_)
                refine WQ_puti dX11_scan_270 fX11_20 rfl rfl (ly_is hy 0 11 rfl) (fun I66 eI66 => ?_)
                have e67 : I66 (ad g 0) 2 = w30 := by rw [eI66, pp_ne _ _ (Or.inr (by decide))]; exact e57
                have e68 : I66 (ad g 0) 6 = w34 := by rw [eI66, pp_ne _ _ (Or.inr (by decide))]; exact e59
                have e69 : I66 (ad g 0) 3 = w32 := by rw [eI66, pp_ne _ _ (Or.inr (by decide))]; exact e60
                have e70 : I66 (ad g 0) 5 = v55 := by rw [eI66, pp_ne _ _ (Or.inr (by decide))]; exact e61
                have e71 : I66 (ad g 0) 4 = v65 := by rw [eI66, pp_self]
                have fI72 : FC g [0] I I66 := by rw [eI66]; exact FC_pp fI62 (by decide)
                have fQ73 : FQ g [3, 4, 5, 6] I I66 := by rw [eI66]; exact FQ_pp0 fQ63 (by decide)
                exact WP_vret dX11_scan_273 rfl ⟨rfl, fI72, fJ0, fQ73, rfl, by
                  try simp only [e67, e68, e69, e70, e71, ew21, ew22, ew23, ew24, ew25]
                  refine ⟨tpm_fc hy hT fI72 (by first | omega | (rw [e67]; omega)), ?_⟩
                  unfold CUM
                  try simp only [e67, e68, e69, e70, e71]
                  rw [hE, tk.1, tk.2]
                  exact ⟨by omega, by omega, by split <;> omega, fun h => absurd h (by split <;> decide)⟩⟩
              · have tk := tok_oth hE (by omega) hl hd
                have hb59 : bA B n k = B k % 256 := by unfold bA; rw [if_pos (by omega)]
                have hBk := hB k
                refine WQ_iconst (3) (3) dX11_scan_255 rfl rfl (fun v74 hv74 => ?_)
                refine WP_goto 260 dX11_scan_256 rfl ?_
                refine WQ_puti dX11_scan_260 fX11_27 rfl rfl (ly_is hy 0 11 rfl) (fun I75 eI75 => ?_)
                have e76 : I75 (ad g 0) 2 = w30 := by rw [eI75, pp_ne _ _ (Or.inr (by decide))]; exact e37
                have e77 : I75 (ad g 0) 4 = w32 := by rw [eI75, pp_ne _ _ (Or.inr (by decide))]; exact e38
                have e78 : I75 (ad g 0) 6 = w34 := by rw [eI75, pp_ne _ _ (Or.inr (by decide))]; exact e40
                have e79 : I75 (ad g 0) 3 = w32 := by rw [eI75, pp_ne _ _ (Or.inr (by decide))]; exact e41
                have e80 : I75 (ad g 0) 5 = v74 := by rw [eI75, pp_self]
                have fI81 : FC g [0] I I75 := by rw [eI75]; exact FC_pp fI42 (by decide)
                have fQ82 : FQ g [3, 4, 5, 6] I I75 := by rw [eI75]; exact FQ_pp0 fQ43 (by decide)
                refine WP_aload_n dX11_scan_263 rfl ?_
                refine WP_dup dX11_scan_264 rfl ?_
                refine WQ_getim dX11_scan_265 fX11_20 rfl (ly_is hy 0 11 rfl) e77 ?_
                refine WQ_iconst (1) (1) dX11_scan_268 rfl rfl (fun v83 hv83 => ?_)
                refine WQ_iadd dX11_scan_269 (by omega) (by omega) (fun v84 hv84 => ?_)
                refine WQ_puti dX11_scan_270 fX11_20 rfl rfl (ly_is hy 0 11 rfl) (fun I85 eI85 => ?_)
                have e86 : I85 (ad g 0) 2 = w30 := by rw [eI85, pp_ne _ _ (Or.inr (by decide))]; exact e76
                have e87 : I85 (ad g 0) 6 = w34 := by rw [eI85, pp_ne _ _ (Or.inr (by decide))]; exact e78
                have e88 : I85 (ad g 0) 3 = w32 := by rw [eI85, pp_ne _ _ (Or.inr (by decide))]; exact e79
                have e89 : I85 (ad g 0) 5 = v74 := by rw [eI85, pp_ne _ _ (Or.inr (by decide))]; exact e80
                have e90 : I85 (ad g 0) 4 = v84 := by rw [eI85, pp_self]
                have fI91 : FC g [0] I I85 := by rw [eI85]; exact FC_pp fI81 (by decide)
                have fQ92 : FQ g [3, 4, 5, 6] I I85 := by rw [eI85]; exact FQ_pp0 fQ82 (by decide)
                exact WP_vret dX11_scan_273 rfl ⟨rfl, fI91, fJ0, fQ92, rfl, by
                  try simp only [e86, e87, e88, e89, e90, ew21, ew22, ew23, ew24, ew25]
                  refine ⟨tpm_fc hy hT fI91 (by first | omega | (rw [e86]; omega)), ?_⟩
                  unfold CUM
                  try simp only [e86, e87, e88, e89, e90]
                  rw [hE, tk.1, tk.2]
                  exact ⟨by omega, by omega, by split <;> omega, fun h => absurd h (by split <;> decide)⟩⟩
            · have hd : bD (B k) = true := by
                rcases p50 with ⟨a, b⟩ | ⟨a, b⟩
                · exact b
                · exact absurd a (by omega)
              refine WP_aload_n dX11_scan_155 rfl ?_
              refine WQ_iconst (0) (0) dX11_scan_156 rfl rfl (fun v93 hv93 => ?_)
              refine WQ_puti dX11_scan_157 fX11_37 rfl rfl (ly_is hy 0 11 rfl) (fun I94 eI94 => ?_)
              have e95 : I94 (ad g 0) 2 = w30 := by rw [eI94, pp_ne _ _ (Or.inr (by decide))]; exact e37
              have e96 : I94 (ad g 0) 4 = w32 := by rw [eI94, pp_ne _ _ (Or.inr (by decide))]; exact e38
              have e97 : I94 (ad g 0) 5 = w33 := by rw [eI94, pp_ne _ _ (Or.inr (by decide))]; exact e39
              have e98 : I94 (ad g 0) 3 = w32 := by rw [eI94, pp_ne _ _ (Or.inr (by decide))]; exact e41
              have e99 : I94 (ad g 0) 6 = v93 := by rw [eI94, pp_self]
              have fI100 : FC g [0] I I94 := by rw [eI94]; exact FC_pp fI42 (by decide)
              have fQ101 : FQ g [3, 4, 5, 6] I I94 := by rw [eI94]; exact FQ_pp0 fQ43 (by decide)
              have lp105 : ∀ (mz : Nat)  (I102 : pI), FC g [0] I I102 → FQ g [3, 4, 5, 6] I I102 → (∃ k2 : Nat, (I102 (ad g 0) 4).toInt = (k2 : Int) ∧ k ≤ k2 ∧ k2 ≤ n ∧ (I102 (ad g 0) 2).toInt = (n : Int) ∧ (I102 (ad g 0) 3).toInt = (k : Int) ∧ sp bD B (n - k2) k2 = sp bD B (n - k) k ∧ (∀ q, k ≤ q → q < k2 → bD (B q) = true) ∧ (k2 - k ≤ 4 → (I102 (ad g 0) 6).toInt = nuI B k (k2 - k))) → (n - (I102 (ad g 0) 4).toInt.toNat) < mz → WP g mX11_scan 160 [(0, .ref (ad g 0)), (1, .int v45)] [] I102 J R (fun r I' J' R' => R' = R ∧ FC g [0] I I' ∧ FC g [] J J' ∧ FQ g [3, 4, 5, 6] I I' ∧ r = none ∧ (TPM g B n I' ∧ CUM g B n p I')) := by
                intro mz
                induction mz with
                | zero =>
                  intro  I102 fI103 fQ104 hvlp105 hmlp105
                  exact absurd hmlp105 (Nat.not_lt_zero _)
                | succ mz ihlp105 =>
                  intro  I102 fI103 fQ104 hvlp105 hmlp105
                  obtain ⟨w106, ew106⟩ : ∃ w : Int32, I102 (ad g 0) 2 = w := ⟨_, rfl⟩
                  obtain ⟨w107, ew107⟩ : ∃ w : Int32, I102 (ad g 0) 3 = w := ⟨_, rfl⟩
                  obtain ⟨w108, ew108⟩ : ∃ w : Int32, I102 (ad g 0) 4 = w := ⟨_, rfl⟩
                  obtain ⟨w109, ew109⟩ : ∃ w : Int32, I102 (ad g 0) 5 = w := ⟨_, rfl⟩
                  obtain ⟨w110, ew110⟩ : ∃ w : Int32, I102 (ad g 0) 6 = w := ⟨_, rfl⟩
                  try simp only [ew106, ew107, ew108, ew109, ew110, ew21, ew22, ew23, ew24, ew25] at hvlp105 hmlp105
                  obtain ⟨k2, j4, jpk, jkn, j2, j3, isp2, iall, ival⟩ := hvlp105
                  refine WP_aload_n dX11_scan_160 rfl ?_
                  refine WP_aload_n dX11_scan_161 rfl ?_
                  refine WQ_getim dX11_scan_162 fX11_20 rfl (ly_is hy 0 11 rfl) ew108 ?_
                  refine WP_callV1 (k := 11) dX11_scan_165 ⟨⟨⟨by decide, by decide⟩, zX11_byteAt⟩, lX11_23, by decide, rfl, vX11_byteAt.1, vX11_byteAt.2⟩ (ly_is hy 0 11 rfl) (em_byteAt hy hr _  (tpm_fc hy hT fI103 (by rw [ew106]; omega)) hn (q := k2) (by omega)) (Nat.le_of_ble_eq_true rfl) ?_
                  intro r Ia Ja Ra hq
                  obtain ⟨⟨ea, eb, ec⟩, v112, er, p111⟩ := hq
                  rw [ea, eb, ec, er]
                  clear ea eb ec er Ia Ja Ra r
                  refine WP_callS1 dX11_scan_168 ⟨⟨⟨by decide, by decide⟩, zX11_isDigit⟩, lX11_34, tX11_isDigit⟩ (em_isDigit hy hr _  ) (Nat.le_of_ble_eq_true rfl) ?_
                  intro r Ia Ja Ra hq
                  obtain ⟨⟨ea, eb, ec⟩, v114, er, p113⟩ := hq
                  rw [ea, eb, ec, er]
                  clear ea eb ec er Ia Ja Ra r
                  rw [p111] at p113
                  refine WQ_if_eq 223 dX11_scan_171 rfl (fun c114 => ?_) (fun c114 => ?_)
                  · have hc : bD (bA B n k2) = false := by
                      rcases p113 with ⟨a, b⟩ | ⟨a, b⟩
                      · exact absurd a (by omega)
                      · exact b
                    have hE2 : sp bD B (n - k) k = k2 := by rw [← isp2]; exact bA_Dn hB hc
                    have tk := tok_dig hE (by omega) hl hd
                    refine WP_aload_n dX11_scan_223 rfl ?_
                    refine WP_aload_n dX11_scan_224 rfl ?_
                    refine WQ_getim dX11_scan_225 fX11_20 rfl (ly_is hy 0 11 rfl) ew108 ?_
                    refine WP_aload_n dX11_scan_228 rfl ?_
                    refine WQ_getim dX11_scan_229 fX11_7 rfl (ly_is hy 0 11 rfl) ew107 ?_
                    refine WQ_isub dX11_scan_232 (by omega) (by omega) (fun v116 hv116 => ?_)
                    refine WQ_iconst (4) (4) dX11_scan_233 rfl rfl (fun v117 hv117 => ?_)
                    refine WQ_icmp_le 241 dX11_scan_234 rfl (fun c117 => ?_) (fun c117 => ?_)
                    · refine WQ_iconst (2) (2) dX11_scan_241 rfl rfl (fun v119 hv119 => ?_)
                      refine WQ_puti dX11_scan_242 fX11_27 rfl rfl (ly_is hy 0 11 rfl) (fun I120 eI120 => ?_)
                      have e121 : I120 (ad g 0) 2 = w106 := by rw [eI120, pp_ne _ _ (Or.inr (by decide))]; exact ew106
                      have e122 : I120 (ad g 0) 3 = w107 := by rw [eI120, pp_ne _ _ (Or.inr (by decide))]; exact ew107
                      have e123 : I120 (ad g 0) 4 = w108 := by rw [eI120, pp_ne _ _ (Or.inr (by decide))]; exact ew108
                      have e124 : I120 (ad g 0) 6 = w110 := by rw [eI120, pp_ne _ _ (Or.inr (by decide))]; exact ew110
                      have e125 : I120 (ad g 0) 5 = v119 := by rw [eI120, pp_self]
                      have fI126 : FC g [0] I I120 := by rw [eI120]; exact FC_pp fI103 (by decide)
                      have fQ127 : FQ g [3, 4, 5, 6] I I120 := by rw [eI120]; exact FQ_pp0 fQ104 (by decide)
                      refine WP_goto 273 dX11_scan_245 rfl ?_
                      exact WP_vret dX11_scan_273 rfl ⟨rfl, fI126, fJ0, fQ127, rfl, by
                        try simp only [e121, e122, e123, e124, e125, ew21, ew22, ew23, ew24, ew25]
                        refine ⟨tpm_fc hy hT fI126 (by first | omega | (rw [e121]; omega)), ?_⟩
                        unfold CUM
                        try simp only [e121, e122, e123, e124, e125]
                        rw [hE, tk.1, tk.2]
                        rw [hE2]
                        refine ⟨by omega, by omega, by split <;> omega, fun h => ?_⟩
                        have h8 : k2 - k ≤ 4 := by
                          split at h
                          · exact absurd h (by decide)
                          · omega
                        unfold tV
                        rw [hE, tk.1, hE2]
                        exact ival h8⟩
                    · refine WQ_iconst (4) (4) dX11_scan_237 rfl rfl (fun v128 hv128 => ?_)
                      refine WP_goto 242 dX11_scan_238 rfl ?_
                      refine WQ_puti dX11_scan_242 fX11_27 rfl rfl (ly_is hy 0 11 rfl) (fun I129 eI129 => ?_)
                      have e130 : I129 (ad g 0) 2 = w106 := by rw [eI129, pp_ne _ _ (Or.inr (by decide))]; exact ew106
                      have e131 : I129 (ad g 0) 3 = w107 := by rw [eI129, pp_ne _ _ (Or.inr (by decide))]; exact ew107
                      have e132 : I129 (ad g 0) 4 = w108 := by rw [eI129, pp_ne _ _ (Or.inr (by decide))]; exact ew108
                      have e133 : I129 (ad g 0) 6 = w110 := by rw [eI129, pp_ne _ _ (Or.inr (by decide))]; exact ew110
                      have e134 : I129 (ad g 0) 5 = v128 := by rw [eI129, pp_self]
                      have fI135 : FC g [0] I I129 := by rw [eI129]; exact FC_pp fI103 (by decide)
                      have fQ136 : FQ g [3, 4, 5, 6] I I129 := by rw [eI129]; exact FQ_pp0 fQ104 (by decide)
                      refine WP_goto 273 dX11_scan_245 rfl ?_
                      exact WP_vret dX11_scan_273 rfl ⟨rfl, fI135, fJ0, fQ136, rfl, by
                        try simp only [e130, e131, e132, e133, e134, ew21, ew22, ew23, ew24, ew25]
                        refine ⟨tpm_fc hy hT fI135 (by first | omega | (rw [e130]; omega)), ?_⟩
                        unfold CUM
                        try simp only [e130, e131, e132, e133, e134]
                        rw [hE, tk.1, tk.2]
                        rw [hE2]
                        refine ⟨by omega, by omega, by split <;> omega, fun h => ?_⟩
                        have h8 : k2 - k ≤ 4 := by
                          split at h
                          · exact absurd h (by decide)
                          · omega
                        unfold tV
                        rw [hE, tk.1, hE2]
                        exact ival h8⟩
                  · have hc : bD (bA B n k2) = true := by
                      rcases p113 with ⟨a, b⟩ | ⟨a, b⟩
                      · exact b
                      · exact absurd a (by omega)
                    obtain ⟨hk2, hl2, hv2⟩ := bA_Dy hB hc
                    refine WP_aload_n dX11_scan_174 rfl ?_
                    refine WQ_getim dX11_scan_175 fX11_20 rfl (ly_is hy 0 11 rfl) ew108 ?_
                    refine WP_aload_n dX11_scan_178 rfl ?_
                    refine WQ_getim dX11_scan_179 fX11_7 rfl (ly_is hy 0 11 rfl) ew107 ?_
                    refine WQ_isub dX11_scan_182 (by omega) (by omega) (fun v137 hv137 => ?_)
                    refine WQ_iconst (4) (4) dX11_scan_183 rfl rfl (fun v138 hv138 => ?_)
                    refine WQ_icmp_ge 210 dX11_scan_184 rfl (fun c138 => ?_) (fun c138 => ?_)
                    · refine WP_aload_n dX11_scan_210 rfl ?_
                      refine WP_dup dX11_scan_211 rfl ?_
                      refine WQ_getim dX11_scan_212 fX11_20 rfl (ly_is hy 0 11 rfl) ew108 ?_
                      refine WQ_iconst (1) (1) dX11_scan_215 rfl rfl (fun v140 hv140 => ?_)
                      refine WQ_iadd dX11_scan_216 (by omega) (by omega) (fun v141 hv141 => ?_)
                      refine WQ_puti dX11_scan_217 fX11_20 rfl rfl (ly_is hy 0 11 rfl) (fun I142 eI142 => ?_)
                      have e143 : I142 (ad g 0) 2 = w106 := by rw [eI142, pp_ne _ _ (Or.inr (by decide))]; exact ew106
                      have e144 : I142 (ad g 0) 3 = w107 := by rw [eI142, pp_ne _ _ (Or.inr (by decide))]; exact ew107
                      have e145 : I142 (ad g 0) 5 = w109 := by rw [eI142, pp_ne _ _ (Or.inr (by decide))]; exact ew109
                      have e146 : I142 (ad g 0) 6 = w110 := by rw [eI142, pp_ne _ _ (Or.inr (by decide))]; exact ew110
                      have e147 : I142 (ad g 0) 4 = v141 := by rw [eI142, pp_self]
                      have fI148 : FC g [0] I I142 := by rw [eI142]; exact FC_pp fI103 (by decide)
                      have fQ149 : FQ g [3, 4, 5, 6] I I142 := by rw [eI142]; exact FQ_pp0 fQ104 (by decide)
                      refine WP_goto 160 dX11_scan_220 rfl ?_
                      refine WP_sub (fc rfl (fc rfl fn)) (ihlp105 I142 fI148 fQ149 ?_ ?_)
                      · try simp only [e143, e144, e147, e145, e146, ew21, ew22, ew23, ew24, ew25]
                        refine ⟨k2 + 1, by omega, by omega, by omega, by omega, by omega, ?_, ?_, ?_⟩
                        · rw [← sp_go hk2 hl2]; exact isp2
                        · intro q h1 h2
                          by_cases e : q = k2
                          · rw [e]; exact hl2
                          · exact iall q h1 (by omega)
                        · intro hk
                          rw [show k2 + 1 - k = (k2 - k) + 1 by omega, nuI, show k + (k2 - k) = k2 by omega]
                          first
                          | omega
                          | exact absurd hk (by omega)
                      · try simp only [e143, e144, e147, e145, e146, ew21, ew22, ew23, ew24, ew25]
                        omega
                    · have hv4 := ival (by omega)
                      have hb4 := nuI_b (B := B) (a := k) (k := k2 - k) (fun q h1 h2 => of_bD (iall q h1 (by omega)))
                      have hp4 := p10 (k2 - k) (by omega)
                      have hdd := of_bD hl2
                      refine WP_aload_n dX11_scan_187 rfl ?_
                      refine WQ_bipush (10) (10) dX11_scan_188 rfl rfl (fun v150 hv150 => ?_)
                      refine WP_aload_n dX11_scan_190 rfl ?_
                      refine WQ_getim dX11_scan_191 fX11_37 rfl (ly_is hy 0 11 rfl) ew110 ?_
                      refine WQ_imulK (10) dX11_scan_194 hv150 (by omega) (by omega) (fun v151 hv151 => ?_)
                      refine WP_aload_n dX11_scan_195 rfl ?_
                      refine WP_aload_n dX11_scan_196 rfl ?_
                      refine WQ_getim dX11_scan_197 fX11_20 rfl (ly_is hy 0 11 rfl) ew108 ?_
                      refine WP_callV1 (k := 11) dX11_scan_200 ⟨⟨⟨by decide, by decide⟩, zX11_byteAt⟩, lX11_23, by decide, rfl, vX11_byteAt.1, vX11_byteAt.2⟩ (ly_is hy 0 11 rfl) (em_byteAt hy hr _  (tpm_fc hy hT fI103 (by rw [ew106]; omega)) hn (q := k2) (by omega)) (Nat.le_of_ble_eq_true rfl) ?_
                      intro r Ia Ja Ra hq
                      obtain ⟨⟨ea, eb, ec⟩, v153, er, p152⟩ := hq
                      rw [ea, eb, ec, er]
                      clear ea eb ec er Ia Ja Ra r
                      rw [hv2] at p152
                      refine WQ_iadd dX11_scan_203 (by omega) (by omega) (fun v154 hv154 => ?_)
                      refine WQ_bipush (48) (48) dX11_scan_204 rfl rfl (fun v155 hv155 => ?_)
                      refine WQ_isub dX11_scan_206 (by omega) (by omega) (fun v156 hv156 => ?_)
                      refine WQ_puti dX11_scan_207 fX11_37 rfl rfl (ly_is hy 0 11 rfl) (fun I157 eI157 => ?_)
                      have e158 : I157 (ad g 0) 2 = w106 := by rw [eI157, pp_ne _ _ (Or.inr (by decide))]; exact ew106
                      have e159 : I157 (ad g 0) 3 = w107 := by rw [eI157, pp_ne _ _ (Or.inr (by decide))]; exact ew107
                      have e160 : I157 (ad g 0) 4 = w108 := by rw [eI157, pp_ne _ _ (Or.inr (by decide))]; exact ew108
                      have e161 : I157 (ad g 0) 5 = w109 := by rw [eI157, pp_ne _ _ (Or.inr (by decide))]; exact ew109
                      have e162 : I157 (ad g 0) 6 = v156 := by rw [eI157, pp_self]
                      have fI163 : FC g [0] I I157 := by rw [eI157]; exact FC_pp fI103 (by decide)
                      have fQ164 : FQ g [3, 4, 5, 6] I I157 := by rw [eI157]; exact FQ_pp0 fQ104 (by decide)
                      refine WP_aload_n dX11_scan_210 rfl ?_
                      refine WP_dup dX11_scan_211 rfl ?_
                      refine WQ_getim dX11_scan_212 fX11_20 rfl (ly_is hy 0 11 rfl) e160 ?_
                      refine WQ_iconst (1) (1) dX11_scan_215 rfl rfl (fun v165 hv165 => ?_)
                      refine WQ_iadd dX11_scan_216 (by omega) (by omega) (fun v166 hv166 => ?_)
                      refine WQ_puti dX11_scan_217 fX11_20 rfl rfl (ly_is hy 0 11 rfl) (fun I167 eI167 => ?_)
                      have e168 : I167 (ad g 0) 2 = w106 := by rw [eI167, pp_ne _ _ (Or.inr (by decide))]; exact e158
                      have e169 : I167 (ad g 0) 3 = w107 := by rw [eI167, pp_ne _ _ (Or.inr (by decide))]; exact e159
                      have e170 : I167 (ad g 0) 5 = w109 := by rw [eI167, pp_ne _ _ (Or.inr (by decide))]; exact e161
                      have e171 : I167 (ad g 0) 6 = v156 := by rw [eI167, pp_ne _ _ (Or.inr (by decide))]; exact e162
                      have e172 : I167 (ad g 0) 4 = v166 := by rw [eI167, pp_self]
                      have fI173 : FC g [0] I I167 := by rw [eI167]; exact FC_pp fI163 (by decide)
                      have fQ174 : FQ g [3, 4, 5, 6] I I167 := by rw [eI167]; exact FQ_pp0 fQ164 (by decide)
                      refine WP_goto 160 dX11_scan_220 rfl ?_
                      refine WP_sub (fc rfl (fc rfl fn)) (ihlp105 I167 fI173 fQ174 ?_ ?_)
                      · try simp only [e168, e169, e172, e170, e171, ew21, ew22, ew23, ew24, ew25]
                        refine ⟨k2 + 1, by omega, by omega, by omega, by omega, by omega, ?_, ?_, ?_⟩
                        · rw [← sp_go hk2 hl2]; exact isp2
                        · intro q h1 h2
                          by_cases e : q = k2
                          · rw [e]; exact hl2
                          · exact iall q h1 (by omega)
                        · intro hk
                          rw [show k2 + 1 - k = (k2 - k) + 1 by omega, nuI, show k + (k2 - k) = k2 by omega]
                          first
                          | omega
                          | exact absurd hk (by omega)
                      · try simp only [e168, e169, e172, e170, e171, ew21, ew22, ew23, ew24, ew25]
                        omega
              refine WP_sub (fc rfl (fc rfl fn)) (lp105 _ I94 fI100 fQ101 ?_ (Nat.lt_succ_self _))
              · try simp only [e95, e98, e96, e97, e99, ew21, ew22, ew23, ew24, ew25]
                refine ⟨k, by omega, Nat.le_refl _, ikn, by omega, by omega, rfl, fun q h1 h2 => absurd h2 (by omega), fun _ => ?_⟩
                rw [Nat.sub_self]
                show _ = (0 : Int)
                omega
          · have hl : bL (B k) = true := by
              rcases p47 with ⟨a, b⟩ | ⟨a, b⟩
              · exact b
              · exact absurd a (by omega)
            have lp178 : ∀ (mz : Nat)  (I175 : pI), FC g [0] I I175 → FQ g [3, 4, 5, 6] I I175 → (∃ k2 : Nat, (I175 (ad g 0) 4).toInt = (k2 : Int) ∧ k ≤ k2 ∧ k2 ≤ n ∧ (I175 (ad g 0) 2).toInt = (n : Int) ∧ (I175 (ad g 0) 3).toInt = (k : Int) ∧ sp bL B (n - k2) k2 = sp bL B (n - k) k) → (n - (I175 (ad g 0) 4).toInt.toNat) < mz → WP g mX11_scan 95 [(0, .ref (ad g 0)), (1, .int v45)] [] I175 J R (fun r I' J' R' => R' = R ∧ FC g [0] I I' ∧ FC g [] J J' ∧ FQ g [3, 4, 5, 6] I I' ∧ r = none ∧ (TPM g B n I' ∧ CUM g B n p I')) := by
              intro mz
              induction mz with
              | zero =>
                intro  I175 fI176 fQ177 hvlp178 hmlp178
                exact absurd hmlp178 (Nat.not_lt_zero _)
              | succ mz ihlp178 =>
                intro  I175 fI176 fQ177 hvlp178 hmlp178
                obtain ⟨w179, ew179⟩ : ∃ w : Int32, I175 (ad g 0) 2 = w := ⟨_, rfl⟩
                obtain ⟨w180, ew180⟩ : ∃ w : Int32, I175 (ad g 0) 3 = w := ⟨_, rfl⟩
                obtain ⟨w181, ew181⟩ : ∃ w : Int32, I175 (ad g 0) 4 = w := ⟨_, rfl⟩
                obtain ⟨w182, ew182⟩ : ∃ w : Int32, I175 (ad g 0) 5 = w := ⟨_, rfl⟩
                obtain ⟨w183, ew183⟩ : ∃ w : Int32, I175 (ad g 0) 6 = w := ⟨_, rfl⟩
                try simp only [ew179, ew180, ew181, ew182, ew183, ew21, ew22, ew23, ew24, ew25] at hvlp178 hmlp178
                obtain ⟨k2, j4, jpk, jkn, j2, j3, isp2⟩ := hvlp178
                refine WP_aload_n dX11_scan_95 rfl ?_
                refine WP_aload_n dX11_scan_96 rfl ?_
                refine WQ_getim dX11_scan_97 fX11_20 rfl (ly_is hy 0 11 rfl) ew181 ?_
                refine WP_callV1 (k := 11) dX11_scan_100 ⟨⟨⟨by decide, by decide⟩, zX11_byteAt⟩, lX11_23, by decide, rfl, vX11_byteAt.1, vX11_byteAt.2⟩ (ly_is hy 0 11 rfl) (em_byteAt hy hr _  (tpm_fc hy hT fI176 (by rw [ew179]; omega)) hn (q := k2) (by omega)) (Nat.le_of_ble_eq_true rfl) ?_
                intro r Ia Ja Ra hq
                obtain ⟨⟨ea, eb, ec⟩, v185, er, p184⟩ := hq
                rw [ea, eb, ec, er]
                clear ea eb ec er Ia Ja Ra r
                refine WP_callS1 dX11_scan_103 ⟨⟨⟨by decide, by decide⟩, zX11_isSmall⟩, lX11_30, tX11_isSmall⟩ (em_isSmall hy hr _  ) (Nat.le_of_ble_eq_true rfl) ?_
                intro r Ia Ja Ra hq
                obtain ⟨⟨ea, eb, ec⟩, v187, er, p186⟩ := hq
                rw [ea, eb, ec, er]
                clear ea eb ec er Ia Ja Ra r
                rw [p184] at p186
                refine WQ_if_eq 122 dX11_scan_106 rfl (fun c187 => ?_) (fun c187 => ?_)
                · have hc : bL (bA B n k2) = false := by
                    rcases p186 with ⟨a, b⟩ | ⟨a, b⟩
                    · exact absurd a (by omega)
                    · exact b
                  have hE2 : sp bL B (n - k) k = k2 := by rw [← isp2]; exact bA_Ln hB hc
                  have tk := tok_let hE (by omega) hl
                  refine WP_aload_n dX11_scan_122 rfl ?_
                  refine WP_aload_n dX11_scan_123 rfl ?_
                  refine WQ_getim dX11_scan_124 fX11_20 rfl (ly_is hy 0 11 rfl) ew181 ?_
                  refine WP_aload_n dX11_scan_127 rfl ?_
                  refine WQ_getim dX11_scan_128 fX11_7 rfl (ly_is hy 0 11 rfl) ew180 ?_
                  refine WQ_isub dX11_scan_131 (by omega) (by omega) (fun v189 hv189 => ?_)
                  refine WQ_bipush (8) (8) dX11_scan_132 rfl rfl (fun v190 hv190 => ?_)
                  refine WQ_icmp_le 141 dX11_scan_134 rfl (fun c190 => ?_) (fun c190 => ?_)
                  · refine WQ_iconst (1) (1) dX11_scan_141 rfl rfl (fun v192 hv192 => ?_)
                    refine WQ_puti dX11_scan_142 fX11_27 rfl rfl (ly_is hy 0 11 rfl) (fun I193 eI193 => ?_)
                    have e194 : I193 (ad g 0) 2 = w179 := by rw [eI193, pp_ne _ _ (Or.inr (by decide))]; exact ew179
                    have e195 : I193 (ad g 0) 3 = w180 := by rw [eI193, pp_ne _ _ (Or.inr (by decide))]; exact ew180
                    have e196 : I193 (ad g 0) 4 = w181 := by rw [eI193, pp_ne _ _ (Or.inr (by decide))]; exact ew181
                    have e197 : I193 (ad g 0) 6 = w183 := by rw [eI193, pp_ne _ _ (Or.inr (by decide))]; exact ew183
                    have e198 : I193 (ad g 0) 5 = v192 := by rw [eI193, pp_self]
                    have fI199 : FC g [0] I I193 := by rw [eI193]; exact FC_pp fI176 (by decide)
                    have fQ200 : FQ g [3, 4, 5, 6] I I193 := by rw [eI193]; exact FQ_pp0 fQ177 (by decide)
                    refine WP_goto 273 dX11_scan_145 rfl ?_
                    exact WP_vret dX11_scan_273 rfl ⟨rfl, fI199, fJ0, fQ200, rfl, by
                      try simp only [e194, e195, e196, e197, e198, ew21, ew22, ew23, ew24, ew25]
                      refine ⟨tpm_fc hy hT fI199 (by first | omega | (rw [e194]; omega)), ?_⟩
                      unfold CUM
                      try simp only [e194, e195, e196, e197, e198]
                      rw [hE, tk.1, tk.2]
                      rw [hE2]
                      exact ⟨by omega, by omega, by split <;> omega, fun h => absurd h (by split <;> decide)⟩⟩
                  · refine WQ_iconst (4) (4) dX11_scan_137 rfl rfl (fun v201 hv201 => ?_)
                    refine WP_goto 142 dX11_scan_138 rfl ?_
                    refine WQ_puti dX11_scan_142 fX11_27 rfl rfl (ly_is hy 0 11 rfl) (fun I202 eI202 => ?_)
                    have e203 : I202 (ad g 0) 2 = w179 := by rw [eI202, pp_ne _ _ (Or.inr (by decide))]; exact ew179
                    have e204 : I202 (ad g 0) 3 = w180 := by rw [eI202, pp_ne _ _ (Or.inr (by decide))]; exact ew180
                    have e205 : I202 (ad g 0) 4 = w181 := by rw [eI202, pp_ne _ _ (Or.inr (by decide))]; exact ew181
                    have e206 : I202 (ad g 0) 6 = w183 := by rw [eI202, pp_ne _ _ (Or.inr (by decide))]; exact ew183
                    have e207 : I202 (ad g 0) 5 = v201 := by rw [eI202, pp_self]
                    have fI208 : FC g [0] I I202 := by rw [eI202]; exact FC_pp fI176 (by decide)
                    have fQ209 : FQ g [3, 4, 5, 6] I I202 := by rw [eI202]; exact FQ_pp0 fQ177 (by decide)
                    refine WP_goto 273 dX11_scan_145 rfl ?_
                    exact WP_vret dX11_scan_273 rfl ⟨rfl, fI208, fJ0, fQ209, rfl, by
                      try simp only [e203, e204, e205, e206, e207, ew21, ew22, ew23, ew24, ew25]
                      refine ⟨tpm_fc hy hT fI208 (by first | omega | (rw [e203]; omega)), ?_⟩
                      unfold CUM
                      try simp only [e203, e204, e205, e206, e207]
                      rw [hE, tk.1, tk.2]
                      rw [hE2]
                      exact ⟨by omega, by omega, by split <;> omega, fun h => absurd h (by split <;> decide)⟩⟩
                · have hc : bL (bA B n k2) = true := by
                    rcases p186 with ⟨a, b⟩ | ⟨a, b⟩
                    · exact b
                    · exact absurd a (by omega)
                  obtain ⟨hk2, hl2⟩ := bA_Ly hB hc
                  refine WP_aload_n dX11_scan_109 rfl ?_
                  refine WP_dup dX11_scan_110 rfl ?_
                  refine WQ_getim dX11_scan_111 fX11_20 rfl (ly_is hy 0 11 rfl) ew181 ?_
                  refine WQ_iconst (1) (1) dX11_scan_114 rfl rfl (fun v210 hv210 => ?_)
                  refine WQ_iadd dX11_scan_115 (by omega) (by omega) (fun v211 hv211 => ?_)
                  refine WQ_puti dX11_scan_116 fX11_20 rfl rfl (ly_is hy 0 11 rfl) (fun I212 eI212 => ?_)
                  have e213 : I212 (ad g 0) 2 = w179 := by rw [eI212, pp_ne _ _ (Or.inr (by decide))]; exact ew179
                  have e214 : I212 (ad g 0) 3 = w180 := by rw [eI212, pp_ne _ _ (Or.inr (by decide))]; exact ew180
                  have e215 : I212 (ad g 0) 5 = w182 := by rw [eI212, pp_ne _ _ (Or.inr (by decide))]; exact ew182
                  have e216 : I212 (ad g 0) 6 = w183 := by rw [eI212, pp_ne _ _ (Or.inr (by decide))]; exact ew183
                  have e217 : I212 (ad g 0) 4 = v211 := by rw [eI212, pp_self]
                  have fI218 : FC g [0] I I212 := by rw [eI212]; exact FC_pp fI176 (by decide)
                  have fQ219 : FQ g [3, 4, 5, 6] I I212 := by rw [eI212]; exact FQ_pp0 fQ177 (by decide)
                  refine WP_goto 95 dX11_scan_119 rfl ?_
                  refine WP_sub (fc rfl (fc rfl fn)) (ihlp178 I212 fI218 fQ219 ?_ ?_)
                  · try simp only [e213, e214, e217, e215, e216, ew21, ew22, ew23, ew24, ew25]
                    refine ⟨k2 + 1, by omega, by omega, by omega, by omega, by omega, ?_⟩
                    rw [← sp_go hk2 hl2]; exact isp2
                  · try simp only [e213, e214, e217, e215, e216, ew21, ew22, ew23, ew24, ew25]
                    omega
            refine WP_sub (fc rfl (fc rfl fn)) (lp178 _ I36 fI42 fQ43 ?_ (Nat.lt_succ_self _))
            · try simp only [e37, e41, e38, e39, e40, ew21, ew22, ew23, ew24, ew25]
              exact ⟨k, by omega, Nat.le_refl _, ikn, by omega, by omega, rfl⟩
        · have tk := tok_end (hE.trans (show k = n by omega))
          refine WP_aload_n dX11_scan_80 rfl ?_
          refine WQ_iconst (0) (0) dX11_scan_81 rfl rfl (fun v220 hv220 => ?_)
          refine WQ_puti dX11_scan_82 fX11_27 rfl rfl (ly_is hy 0 11 rfl) (fun I221 eI221 => ?_)
          have e222 : I221 (ad g 0) 2 = w30 := by rw [eI221, pp_ne _ _ (Or.inr (by decide))]; exact e37
          have e223 : I221 (ad g 0) 4 = w32 := by rw [eI221, pp_ne _ _ (Or.inr (by decide))]; exact e38
          have e224 : I221 (ad g 0) 6 = w34 := by rw [eI221, pp_ne _ _ (Or.inr (by decide))]; exact e40
          have e225 : I221 (ad g 0) 3 = w32 := by rw [eI221, pp_ne _ _ (Or.inr (by decide))]; exact e41
          have e226 : I221 (ad g 0) 5 = v220 := by rw [eI221, pp_self]
          have fI227 : FC g [0] I I221 := by rw [eI221]; exact FC_pp fI42 (by decide)
          have fQ228 : FQ g [3, 4, 5, 6] I I221 := by rw [eI221]; exact FQ_pp0 fQ43 (by decide)
          refine WP_goto 273 dX11_scan_85 rfl ?_
          exact WP_vret dX11_scan_273 rfl ⟨rfl, fI227, fJ0, fQ228, rfl, by
            try simp only [e222, e223, e224, e225, e226, ew21, ew22, ew23, ew24, ew25]
            refine ⟨tpm_fc hy hT fI227 (by first | omega | (rw [e222]; omega)), ?_⟩
            unfold CUM
            try simp only [e222, e223, e224, e225, e226]
            rw [hE, tk.1, tk.2]
            exact ⟨by omega, by omega, by omega, fun h => absurd h (by decide)⟩⟩
      · refine WP_aload_n dX11_scan_11 rfl ?_
        refine WP_getr dX11_scan_12 fX11_16 rfl (ly_is hy 0 11 rfl) (rf hr 0 0 1 (by decide)) ?_
        refine WP_aload_n dX11_scan_15 rfl ?_
        refine WQ_getim dX11_scan_16 fX11_20 rfl (ly_is hy 0 11 rfl) ew32 ?_
        refine WE_ba dX11_scan_19 (ly_is hy 1 12 rfl) (ly_n hy 1 900 rfl) (by omega) (by omega) (fun v229 ev229 => ?_)
        have hb20 : v229.toInt = B k := by rw [← ev229, FC_at hy fI27 1 (by decide) (by decide), show w32.toInt.toNat = k by omega]; exact hT.2 k (by omega)
        refine WQ_bipush (32) (32) dX11_scan_20 rfl rfl (fun v230 hv230 => ?_)
        refine WQ_icmp_eq 39 dX11_scan_22 rfl (fun c230 => ?_) (fun c230 => ?_)
        · have hl : bB (B k) = true := by simp [bB]; omega
          refine WP_aload_n dX11_scan_39 rfl ?_
          refine WP_dup dX11_scan_40 rfl ?_
          refine WQ_getim dX11_scan_41 fX11_20 rfl (ly_is hy 0 11 rfl) ew32 ?_
          refine WQ_iconst (1) (1) dX11_scan_44 rfl rfl (fun v232 hv232 => ?_)
          refine WQ_iadd dX11_scan_45 (by omega) (by omega) (fun v233 hv233 => ?_)
          refine WQ_puti dX11_scan_46 fX11_20 rfl rfl (ly_is hy 0 11 rfl) (fun I234 eI234 => ?_)
          have e235 : I234 (ad g 0) 2 = w30 := by rw [eI234, pp_ne _ _ (Or.inr (by decide))]; exact ew30
          have e236 : I234 (ad g 0) 3 = w31 := by rw [eI234, pp_ne _ _ (Or.inr (by decide))]; exact ew31
          have e237 : I234 (ad g 0) 5 = w33 := by rw [eI234, pp_ne _ _ (Or.inr (by decide))]; exact ew33
          have e238 : I234 (ad g 0) 6 = w34 := by rw [eI234, pp_ne _ _ (Or.inr (by decide))]; exact ew34
          have e239 : I234 (ad g 1) w32.toInt.toNat = v229 := by rw [eI234, pp_ne _ _ (Or.inl (ly_ne hy (by decide) (by decide) (by decide)))]; exact ev229
          have e240 : I234 (ad g 0) 4 = v233 := by rw [eI234, pp_self]
          have fI241 : FC g [0] I I234 := by rw [eI234]; exact FC_pp fI27 (by decide)
          have fQ242 : FQ g [3, 4, 5, 6] I I234 := by rw [eI234]; exact FQ_pp0 fQ28 (by decide)
          refine WP_goto 0 dX11_scan_49 rfl ?_
          refine WP_sub (fc rfl fn) (ihlp29 I234 fI241 fQ242 ?_ ?_)
          · try simp only [e235, e236, e240, e237, e238, ew21, ew22, ew23, ew24, ew25]
            refine ⟨k + 1, by omega, by omega, by omega, by omega, ?_⟩
            rw [← sp_go (by omega) hl]; exact isp
          · try simp only [e235, e236, e240, e237, e238, ew21, ew22, ew23, ew24, ew25]
            omega
        · refine WP_aload_n dX11_scan_25 rfl ?_
          refine WP_getr dX11_scan_26 fX11_16 rfl (ly_is hy 0 11 rfl) (rf hr 0 0 1 (by decide)) ?_
          refine WP_aload_n dX11_scan_29 rfl ?_
          refine WQ_getim dX11_scan_30 fX11_20 rfl (ly_is hy 0 11 rfl) ew32 ?_
          refine WE_ba dX11_scan_33 (ly_is hy 1 12 rfl) (ly_n hy 1 900 rfl) (by omega) (by omega) (fun v243 ev243 => ?_)
          have hb34 : v243.toInt = B k := by rw [← ev243, FC_at hy fI27 1 (by decide) (by decide), show w32.toInt.toNat = k by omega]; exact hT.2 k (by omega)
          refine WQ_bipush (10) (10) dX11_scan_34 rfl rfl (fun v244 hv244 => ?_)
          refine WQ_icmp_ne 52 dX11_scan_36 rfl (fun c244 => ?_) (fun c244 => ?_)
          · have hE : tF B n p = k := by
              unfold tF
              rw [← isp]
              refine sp_no ?_
              simp [bB]
              omega
            refine WP_aload_n dX11_scan_52 rfl ?_
            refine WP_aload_n dX11_scan_53 rfl ?_
            refine WQ_getim dX11_scan_54 fX11_20 rfl (ly_is hy 0 11 rfl) ew32 ?_
            refine WQ_puti dX11_scan_57 fX11_7 rfl rfl (ly_is hy 0 11 rfl) (fun I246 eI246 => ?_)
            have e247 : I246 (ad g 0) 2 = w30 := by rw [eI246, pp_ne _ _ (Or.inr (by decide))]; exact ew30
            have e248 : I246 (ad g 0) 4 = w32 := by rw [eI246, pp_ne _ _ (Or.inr (by decide))]; exact ew32
            have e249 : I246 (ad g 0) 5 = w33 := by rw [eI246, pp_ne _ _ (Or.inr (by decide))]; exact ew33
            have e250 : I246 (ad g 0) 6 = w34 := by rw [eI246, pp_ne _ _ (Or.inr (by decide))]; exact ew34
            have e251 : I246 (ad g 1) w32.toInt.toNat = v243 := by rw [eI246, pp_ne _ _ (Or.inl (ly_ne hy (by decide) (by decide) (by decide)))]; exact ev243
            have e252 : I246 (ad g 0) 3 = w32 := by rw [eI246, pp_self]
            have fI253 : FC g [0] I I246 := by rw [eI246]; exact FC_pp fI27 (by decide)
            have fQ254 : FQ g [3, 4, 5, 6] I I246 := by rw [eI246]; exact FQ_pp0 fQ28 (by decide)
            refine WP_aload_n dX11_scan_60 rfl ?_
            refine WP_aload_n dX11_scan_61 rfl ?_
            refine WQ_getim dX11_scan_62 fX11_7 rfl (ly_is hy 0 11 rfl) e252 ?_
            refine WP_callV1 (k := 11) dX11_scan_65 ⟨⟨⟨by decide, by decide⟩, zX11_byteAt⟩, lX11_23, by decide, rfl, vX11_byteAt.1, vX11_byteAt.2⟩ (ly_is hy 0 11 rfl) (em_byteAt hy hr _  (tpm_fc hy hT fI253 (by rw [e247]; omega)) hn (q := k) (by omega)) (Nat.le_of_ble_eq_true rfl) ?_
            intro r Ia Ja Ra hq
            obtain ⟨⟨ea, eb, ec⟩, v256, er, p255⟩ := hq
            rw [ea, eb, ec, er]
            clear ea eb ec er Ia Ja Ra r
            refine WP_istore_n (ls' := [(0, _), (1, _)]) dX11_scan_68 (by decide) rfl ?_
            refine WP_aload_n dX11_scan_69 rfl ?_
            refine WQ_getim dX11_scan_70 fX11_7 rfl (ly_is hy 0 11 rfl) e252 ?_
            refine WP_aload_n dX11_scan_73 rfl ?_
            refine WQ_getim dX11_scan_74 fX11_13 rfl (ly_is hy 0 11 rfl) e247 ?_
            refine WQ_icmp_ne 88 dX11_scan_77 rfl (fun c256 => ?_) (fun c256 => ?_)
            · refine WP_iload_n dX11_scan_88 rfl ?_
              refine WP_callS1 dX11_scan_89 ⟨⟨⟨by decide, by decide⟩, zX11_isSmall⟩, lX11_30, tX11_isSmall⟩ (em_isSmall hy hr _  ) (Nat.le_of_ble_eq_true rfl) ?_
              intro r Ia Ja Ra hq
              obtain ⟨⟨ea, eb, ec⟩, v259, er, p258⟩ := hq
              rw [ea, eb, ec, er]
              clear ea eb ec er Ia Ja Ra r
              rw [show v256.toInt = bA B n k by omega, bA_L hB (by omega)] at p258
              refine WQ_if_eq 148 dX11_scan_92 rfl (fun c259 => ?_) (fun c259 => ?_)
              · have hl : bL (B k) = false := by
                  rcases p258 with ⟨a, b⟩ | ⟨a, b⟩
                  · exact absurd a (by omega)
                  · exact b
                refine WP_iload_n dX11_scan_148 rfl ?_
                refine WP_callS1 dX11_scan_149 ⟨⟨⟨by decide, by decide⟩, zX11_isDigit⟩, lX11_34, tX11_isDigit⟩ (em_isDigit hy hr _  ) (Nat.le_of_ble_eq_true rfl) ?_
                intro r Ia Ja Ra hq
                obtain ⟨⟨ea, eb, ec⟩, v262, er, p261⟩ := hq
                rw [ea, eb, ec, er]
                clear ea eb ec er Ia Ja Ra r
                rw [show v256.toInt = bA B n k by omega, bA_D hB (by omega)] at p261
                refine WQ_if_eq 248 dX11_scan_152 rfl (fun c262 => ?_) (fun c262 => ?_)
                · have hd : bD (B k) = false := by
                    rcases p261 with ⟨a, b⟩ | ⟨a, b⟩
                    · exact absurd a (by omega)
                    · exact b
                  refine WP_aload_n dX11_scan_248 rfl ?_
                  refine WP_iload_n dX11_scan_249 rfl ?_
                  refine WQ_bipush (59) (59) dX11_scan_250 rfl rfl (fun v264 hv264 => ?_)
                  refine WQ_icmp_ne 259 dX11_scan_252 rfl (fun c264 => ?_) (fun c264 => ?_)
                  · have tk := tok_oth hE (by omega) hl hd
                    have hb59 : bA B n k = B k % 256 := by unfold bA; rw [if_pos (by omega)]
                    have hBk := hB k
                    refine WQ_iconst (4) (4) dX11_scan_259 rfl rfl (fun v266 hv266 => ?_)
                    refine WQ_puti dX11_scan_260 fX11_27 rfl rfl (ly_is hy 0 11 rfl) (fun I267 eI267 => ?_)
                    have e268 : I267 (ad g 0) 2 = w30 := by rw [eI267, pp_ne _ _ (Or.inr (by decide))]; exact e247
                    have e269 : I267 (ad g 0) 4 = w32 := by rw [eI267, pp_ne _ _ (Or.inr (by decide))]; exact e248
                    have e270 : I267 (ad g 0) 6 = w34 := by rw [eI267, pp_ne _ _ (Or.inr (by decide))]; exact e250
                    have e271 : I267 (ad g 1) w32.toInt.toNat = v243 := by rw [eI267, pp_ne _ _ (Or.inl (ly_ne hy (by decide) (by decide) (by decide)))]; exact e251
                    have e272 : I267 (ad g 0) 3 = w32 := by rw [eI267, pp_ne _ _ (Or.inr (by decide))]; exact e252
                    have e273 : I267 (ad g 0) 5 = v266 := by rw [eI267, pp_self]
                    have fI274 : FC g [0] I I267 := by rw [eI267]; exact FC_pp fI253 (by decide)
                    have fQ275 : FQ g [3, 4, 5, 6] I I267 := by rw [eI267]; exact FQ_pp0 fQ254 (by decide)
                    refine WP_aload_n dX11_scan_263 rfl ?_
                    refine WP_dup dX11_scan_264 rfl ?_
                    refine WQ_getim dX11_scan_265 fX11_20 rfl (ly_is hy 0 11 rfl) e269 ?_
                    refine WQ_iconst (1) (1) dX11_scan_268 rfl rfl (fun v276 hv276 => ?_)
                    refine WQ_iadd dX11_scan_269 (by omega) (by omega) (fun v277 hv277 => ?_)
                    refine WQ_puti dX11_scan_270 fX11_20 rfl rfl (ly_is hy 0 11 rfl) (fun I278 eI278 => ?_)
                    have e279 : I278 (ad g 0) 2 = w30 := by rw [eI278, pp_ne _ _ (Or.inr (by decide))]; exact e268
                    have e280 : I278 (ad g 0) 6 = w34 := by rw [eI278, pp_ne _ _ (Or.inr (by decide))]; exact e270
                    have e281 : I278 (ad g 1) w32.toInt.toNat = v243 := by rw [eI278, pp_ne _ _ (Or.inl (ly_ne hy (by decide) (by decide) (by decide)))]; exact e271
                    have e282 : I278 (ad g 0) 3 = w32 := by rw [eI278, pp_ne _ _ (Or.inr (by decide))]; exact e272
                    have e283 : I278 (ad g 0) 5 = v266 := by rw [eI278, pp_ne _ _ (Or.inr (by decide))]; exact e273
                    have e284 : I278 (ad g 0) 4 = v277 := by rw [eI278, pp_self]
                    have fI285 : FC g [0] I I278 := by rw [eI278]; exact FC_pp fI274 (by decide)
                    have fQ286 : FQ g [3, 4, 5, 6] I I278 := by rw [eI278]; exact FQ_pp0 fQ275 (by decide)
                    exact WP_vret dX11_scan_273 rfl ⟨rfl, fI285, fJ0, fQ286, rfl, by
                      try simp only [e279, e280, e282, e283, e284, ew21, ew22, ew23, ew24, ew25]
                      refine ⟨tpm_fc hy hT fI285 (by first | omega | (rw [e279]; omega)), ?_⟩
                      unfold CUM
                      try simp only [e279, e280, e282, e283, e284]
                      rw [hE, tk.1, tk.2]
                      exact ⟨by omega, by omega, by split <;> omega, fun h => absurd h (by split <;> decide)⟩⟩
                  · have tk := tok_oth hE (by omega) hl hd
                    have hb59 : bA B n k = B k % 256 := by unfold bA; rw [if_pos (by omega)]
                    have hBk := hB k
                    refine WQ_iconst (3) (3) dX11_scan_255 rfl rfl (fun v287 hv287 => ?_)
                    refine WP_goto 260 dX11_scan_256 rfl ?_
                    refine WQ_puti dX11_scan_260 fX11_27 rfl rfl (ly_is hy 0 11 rfl) (fun I288 eI288 => ?_)
                    have e289 : I288 (ad g 0) 2 = w30 := by rw [eI288, pp_ne _ _ (Or.inr (by decide))]; exact e247
                    have e290 : I288 (ad g 0) 4 = w32 := by rw [eI288, pp_ne _ _ (Or.inr (by decide))]; exact e248
                    have e291 : I288 (ad g 0) 6 = w34 := by rw [eI288, pp_ne _ _ (Or.inr (by decide))]; exact e250
                    have e292 : I288 (ad g 1) w32.toInt.toNat = v243 := by rw [eI288, pp_ne _ _ (Or.inl (ly_ne hy (by decide) (by decide) (by decide)))]; exact e251
                    have e293 : I288 (ad g 0) 3 = w32 := by rw [eI288, pp_ne _ _ (Or.inr (by decide))]; exact e252
                    have e294 : I288 (ad g 0) 5 = v287 := by rw [eI288, pp_self]
                    have fI295 : FC g [0] I I288 := by rw [eI288]; exact FC_pp fI253 (by decide)
                    have fQ296 : FQ g [3, 4, 5, 6] I I288 := by rw [eI288]; exact FQ_pp0 fQ254 (by decide)
                    refine WP_aload_n dX11_scan_263 rfl ?_
                    refine WP_dup dX11_scan_264 rfl ?_
                    refine WQ_getim dX11_scan_265 fX11_20 rfl (ly_is hy 0 11 rfl) e290 ?_
                    refine WQ_iconst (1) (1) dX11_scan_268 rfl rfl (fun v297 hv297 => ?_)
                    refine WQ_iadd dX11_scan_269 (by omega) (by omega) (fun v298 hv298 => ?_)
                    refine WQ_puti dX11_scan_270 fX11_20 rfl rfl (ly_is hy 0 11 rfl) (fun I299 eI299 => ?_)
                    have e300 : I299 (ad g 0) 2 = w30 := by rw [eI299, pp_ne _ _ (Or.inr (by decide))]; exact e289
                    have e301 : I299 (ad g 0) 6 = w34 := by rw [eI299, pp_ne _ _ (Or.inr (by decide))]; exact e291
                    have e302 : I299 (ad g 1) w32.toInt.toNat = v243 := by rw [eI299, pp_ne _ _ (Or.inl (ly_ne hy (by decide) (by decide) (by decide)))]; exact e292
                    have e303 : I299 (ad g 0) 3 = w32 := by rw [eI299, pp_ne _ _ (Or.inr (by decide))]; exact e293
                    have e304 : I299 (ad g 0) 5 = v287 := by rw [eI299, pp_ne _ _ (Or.inr (by decide))]; exact e294
                    have e305 : I299 (ad g 0) 4 = v298 := by rw [eI299, pp_self]
                    have fI306 : FC g [0] I I299 := by rw [eI299]; exact FC_pp fI295 (by decide)
                    have fQ307 : FQ g [3, 4, 5, 6] I I299 := by rw [eI299]; exact FQ_pp0 fQ296 (by decide)
                    exact WP_vret dX11_scan_273 rfl ⟨rfl, fI306, fJ0, fQ307, rfl, by
                      try simp only [e300, e301, e303, e304, e305, ew21, ew22, ew23, ew24, ew25]
                      refine ⟨tpm_fc hy hT fI306 (by first | omega | (rw [e300]; omega)), ?_⟩
                      unfold CUM
                      try simp only [e300, e301, e303, e304, e305]
                      rw [hE, tk.1, tk.2]
                      exact ⟨by omega, by omega, by split <;> omega, fun h => absurd h (by split <;> decide)⟩⟩
                · have hd : bD (B k) = true := by
                    rcases p261 with ⟨a, b⟩ | ⟨a, b⟩
                    · exact b
                    · exact absurd a (by omega)
                  refine WP_aload_n dX11_scan_155 rfl ?_
                  refine WQ_iconst (0) (0) dX11_scan_156 rfl rfl (fun v308 hv308 => ?_)
                  refine WQ_puti dX11_scan_157 fX11_37 rfl rfl (ly_is hy 0 11 rfl) (fun I309 eI309 => ?_)
                  have e310 : I309 (ad g 0) 2 = w30 := by rw [eI309, pp_ne _ _ (Or.inr (by decide))]; exact e247
                  have e311 : I309 (ad g 0) 4 = w32 := by rw [eI309, pp_ne _ _ (Or.inr (by decide))]; exact e248
                  have e312 : I309 (ad g 0) 5 = w33 := by rw [eI309, pp_ne _ _ (Or.inr (by decide))]; exact e249
                  have e313 : I309 (ad g 1) w32.toInt.toNat = v243 := by rw [eI309, pp_ne _ _ (Or.inl (ly_ne hy (by decide) (by decide) (by decide)))]; exact e251
                  have e314 : I309 (ad g 0) 3 = w32 := by rw [eI309, pp_ne _ _ (Or.inr (by decide))]; exact e252
                  have e315 : I309 (ad g 0) 6 = v308 := by rw [eI309, pp_self]
                  have fI316 : FC g [0] I I309 := by rw [eI309]; exact FC_pp fI253 (by decide)
                  have fQ317 : FQ g [3, 4, 5, 6] I I309 := by rw [eI309]; exact FQ_pp0 fQ254 (by decide)
                  have lp321 : ∀ (mz : Nat)  (I318 : pI), FC g [0] I I318 → FQ g [3, 4, 5, 6] I I318 → (∃ k2 : Nat, (I318 (ad g 0) 4).toInt = (k2 : Int) ∧ k ≤ k2 ∧ k2 ≤ n ∧ (I318 (ad g 0) 2).toInt = (n : Int) ∧ (I318 (ad g 0) 3).toInt = (k : Int) ∧ sp bD B (n - k2) k2 = sp bD B (n - k) k ∧ (∀ q, k ≤ q → q < k2 → bD (B q) = true) ∧ (k2 - k ≤ 4 → (I318 (ad g 0) 6).toInt = nuI B k (k2 - k))) → (n - (I318 (ad g 0) 4).toInt.toNat) < mz → WP g mX11_scan 160 [(0, .ref (ad g 0)), (1, .int v256)] [] I318 J R (fun r I' J' R' => R' = R ∧ FC g [0] I I' ∧ FC g [] J J' ∧ FQ g [3, 4, 5, 6] I I' ∧ r = none ∧ (TPM g B n I' ∧ CUM g B n p I')) := by
                    intro mz
                    induction mz with
                    | zero =>
                      intro  I318 fI319 fQ320 hvlp321 hmlp321
                      exact absurd hmlp321 (Nat.not_lt_zero _)
                    | succ mz ihlp321 =>
                      intro  I318 fI319 fQ320 hvlp321 hmlp321
                      obtain ⟨w322, ew322⟩ : ∃ w : Int32, I318 (ad g 0) 2 = w := ⟨_, rfl⟩
                      obtain ⟨w323, ew323⟩ : ∃ w : Int32, I318 (ad g 0) 3 = w := ⟨_, rfl⟩
                      obtain ⟨w324, ew324⟩ : ∃ w : Int32, I318 (ad g 0) 4 = w := ⟨_, rfl⟩
                      obtain ⟨w325, ew325⟩ : ∃ w : Int32, I318 (ad g 0) 5 = w := ⟨_, rfl⟩
                      obtain ⟨w326, ew326⟩ : ∃ w : Int32, I318 (ad g 0) 6 = w := ⟨_, rfl⟩
                      try simp only [ew322, ew323, ew324, ew325, ew326, ew21, ew22, ew23, ew24, ew25] at hvlp321 hmlp321
                      obtain ⟨k2, j4, jpk, jkn, j2, j3, isp2, iall, ival⟩ := hvlp321
                      refine WP_aload_n dX11_scan_160 rfl ?_
                      refine WP_aload_n dX11_scan_161 rfl ?_
                      refine WQ_getim dX11_scan_162 fX11_20 rfl (ly_is hy 0 11 rfl) ew324 ?_
                      refine WP_callV1 (k := 11) dX11_scan_165 ⟨⟨⟨by decide, by decide⟩, zX11_byteAt⟩, lX11_23, by decide, rfl, vX11_byteAt.1, vX11_byteAt.2⟩ (ly_is hy 0 11 rfl) (em_byteAt hy hr _  (tpm_fc hy hT fI319 (by rw [ew322]; omega)) hn (q := k2) (by omega)) (Nat.le_of_ble_eq_true rfl) ?_
                      intro r Ia Ja Ra hq
                      obtain ⟨⟨ea, eb, ec⟩, v328, er, p327⟩ := hq
                      rw [ea, eb, ec, er]
                      clear ea eb ec er Ia Ja Ra r
                      refine WP_callS1 dX11_scan_168 ⟨⟨⟨by decide, by decide⟩, zX11_isDigit⟩, lX11_34, tX11_isDigit⟩ (em_isDigit hy hr _  ) (Nat.le_of_ble_eq_true rfl) ?_
                      intro r Ia Ja Ra hq
                      obtain ⟨⟨ea, eb, ec⟩, v330, er, p329⟩ := hq
                      rw [ea, eb, ec, er]
                      clear ea eb ec er Ia Ja Ra r
                      rw [p327] at p329
                      refine WQ_if_eq 223 dX11_scan_171 rfl (fun c330 => ?_) (fun c330 => ?_)
                      · have hc : bD (bA B n k2) = false := by
                          rcases p329 with ⟨a, b⟩ | ⟨a, b⟩
                          · exact absurd a (by omega)
                          · exact b
                        have hE2 : sp bD B (n - k) k = k2 := by rw [← isp2]; exact bA_Dn hB hc
                        have tk := tok_dig hE (by omega) hl hd
                        refine WP_aload_n dX11_scan_223 rfl ?_
                        refine WP_aload_n dX11_scan_224 rfl ?_
                        refine WQ_getim dX11_scan_225 fX11_20 rfl (ly_is hy 0 11 rfl) ew324 ?_
                        refine WP_aload_n dX11_scan_228 rfl ?_
                        refine WQ_getim dX11_scan_229 fX11_7 rfl (ly_is hy 0 11 rfl) ew323 ?_
                        refine WQ_isub dX11_scan_232 (by omega) (by omega) (fun v332 hv332 => ?_)
                        refine WQ_iconst (4) (4) dX11_scan_233 rfl rfl (fun v333 hv333 => ?_)
                        refine WQ_icmp_le 241 dX11_scan_234 rfl (fun c333 => ?_) (fun c333 => ?_)
                        · refine WQ_iconst (2) (2) dX11_scan_241 rfl rfl (fun v335 hv335 => ?_)
                          refine WQ_puti dX11_scan_242 fX11_27 rfl rfl (ly_is hy 0 11 rfl) (fun I336 eI336 => ?_)
                          have e337 : I336 (ad g 0) 2 = w322 := by rw [eI336, pp_ne _ _ (Or.inr (by decide))]; exact ew322
                          have e338 : I336 (ad g 0) 3 = w323 := by rw [eI336, pp_ne _ _ (Or.inr (by decide))]; exact ew323
                          have e339 : I336 (ad g 0) 4 = w324 := by rw [eI336, pp_ne _ _ (Or.inr (by decide))]; exact ew324
                          have e340 : I336 (ad g 0) 6 = w326 := by rw [eI336, pp_ne _ _ (Or.inr (by decide))]; exact ew326
                          have e341 : I336 (ad g 0) 5 = v335 := by rw [eI336, pp_self]
                          have fI342 : FC g [0] I I336 := by rw [eI336]; exact FC_pp fI319 (by decide)
                          have fQ343 : FQ g [3, 4, 5, 6] I I336 := by rw [eI336]; exact FQ_pp0 fQ320 (by decide)
                          refine WP_goto 273 dX11_scan_245 rfl ?_
                          exact WP_vret dX11_scan_273 rfl ⟨rfl, fI342, fJ0, fQ343, rfl, by
                            try simp only [e337, e338, e339, e340, e341, ew21, ew22, ew23, ew24, ew25]
                            refine ⟨tpm_fc hy hT fI342 (by first | omega | (rw [e337]; omega)), ?_⟩
                            unfold CUM
                            try simp only [e337, e338, e339, e340, e341]
                            rw [hE, tk.1, tk.2]
                            rw [hE2]
                            refine ⟨by omega, by omega, by split <;> omega, fun h => ?_⟩
                            have h8 : k2 - k ≤ 4 := by
                              split at h
                              · exact absurd h (by decide)
                              · omega
                            unfold tV
                            rw [hE, tk.1, hE2]
                            exact ival h8⟩
                        · refine WQ_iconst (4) (4) dX11_scan_237 rfl rfl (fun v344 hv344 => ?_)
                          refine WP_goto 242 dX11_scan_238 rfl ?_
                          refine WQ_puti dX11_scan_242 fX11_27 rfl rfl (ly_is hy 0 11 rfl) (fun I345 eI345 => ?_)
                          have e346 : I345 (ad g 0) 2 = w322 := by rw [eI345, pp_ne _ _ (Or.inr (by decide))]; exact ew322
                          have e347 : I345 (ad g 0) 3 = w323 := by rw [eI345, pp_ne _ _ (Or.inr (by decide))]; exact ew323
                          have e348 : I345 (ad g 0) 4 = w324 := by rw [eI345, pp_ne _ _ (Or.inr (by decide))]; exact ew324
                          have e349 : I345 (ad g 0) 6 = w326 := by rw [eI345, pp_ne _ _ (Or.inr (by decide))]; exact ew326
                          have e350 : I345 (ad g 0) 5 = v344 := by rw [eI345, pp_self]
                          have fI351 : FC g [0] I I345 := by rw [eI345]; exact FC_pp fI319 (by decide)
                          have fQ352 : FQ g [3, 4, 5, 6] I I345 := by rw [eI345]; exact FQ_pp0 fQ320 (by decide)
                          refine WP_goto 273 dX11_scan_245 rfl ?_
                          exact WP_vret dX11_scan_273 rfl ⟨rfl, fI351, fJ0, fQ352, rfl, by
                            try simp only [e346, e347, e348, e349, e350, ew21, ew22, ew23, ew24, ew25]
                            refine ⟨tpm_fc hy hT fI351 (by first | omega | (rw [e346]; omega)), ?_⟩
                            unfold CUM
                            try simp only [e346, e347, e348, e349, e350]
                            rw [hE, tk.1, tk.2]
                            rw [hE2]
                            refine ⟨by omega, by omega, by split <;> omega, fun h => ?_⟩
                            have h8 : k2 - k ≤ 4 := by
                              split at h
                              · exact absurd h (by decide)
                              · omega
                            unfold tV
                            rw [hE, tk.1, hE2]
                            exact ival h8⟩
                      · have hc : bD (bA B n k2) = true := by
                          rcases p329 with ⟨a, b⟩ | ⟨a, b⟩
                          · exact b
                          · exact absurd a (by omega)
                        obtain ⟨hk2, hl2, hv2⟩ := bA_Dy hB hc
                        refine WP_aload_n dX11_scan_174 rfl ?_
                        refine WQ_getim dX11_scan_175 fX11_20 rfl (ly_is hy 0 11 rfl) ew324 ?_
                        refine WP_aload_n dX11_scan_178 rfl ?_
                        refine WQ_getim dX11_scan_179 fX11_7 rfl (ly_is hy 0 11 rfl) ew323 ?_
                        refine WQ_isub dX11_scan_182 (by omega) (by omega) (fun v353 hv353 => ?_)
                        refine WQ_iconst (4) (4) dX11_scan_183 rfl rfl (fun v354 hv354 => ?_)
                        refine WQ_icmp_ge 210 dX11_scan_184 rfl (fun c354 => ?_) (fun c354 => ?_)
                        · refine WP_aload_n dX11_scan_210 rfl ?_
                          refine WP_dup dX11_scan_211 rfl ?_
                          refine WQ_getim dX11_scan_212 fX11_20 rfl (ly_is hy 0 11 rfl) ew324 ?_
                          refine WQ_iconst (1) (1) dX11_scan_215 rfl rfl (fun v356 hv356 => ?_)
                          refine WQ_iadd dX11_scan_216 (by omega) (by omega) (fun v357 hv357 => ?_)
                          refine WQ_puti dX11_scan_217 fX11_20 rfl rfl (ly_is hy 0 11 rfl) (fun I358 eI358 => ?_)
                          have e359 : I358 (ad g 0) 2 = w322 := by rw [eI358, pp_ne _ _ (Or.inr (by decide))]; exact ew322
                          have e360 : I358 (ad g 0) 3 = w323 := by rw [eI358, pp_ne _ _ (Or.inr (by decide))]; exact ew323
                          have e361 : I358 (ad g 0) 5 = w325 := by rw [eI358, pp_ne _ _ (Or.inr (by decide))]; exact ew325
                          have e362 : I358 (ad g 0) 6 = w326 := by rw [eI358, pp_ne _ _ (Or.inr (by decide))]; exact ew326
                          have e363 : I358 (ad g 0) 4 = v357 := by rw [eI358, pp_self]
                          have fI364 : FC g [0] I I358 := by rw [eI358]; exact FC_pp fI319 (by decide)
                          have fQ365 : FQ g [3, 4, 5, 6] I I358 := by rw [eI358]; exact FQ_pp0 fQ320 (by decide)
                          refine WP_goto 160 dX11_scan_220 rfl ?_
                          refine WP_sub (fc rfl (fc rfl fn)) (ihlp321 I358 fI364 fQ365 ?_ ?_)
                          · try simp only [e359, e360, e363, e361, e362, ew21, ew22, ew23, ew24, ew25]
                            refine ⟨k2 + 1, by omega, by omega, by omega, by omega, by omega, ?_, ?_, ?_⟩
                            · rw [← sp_go hk2 hl2]; exact isp2
                            · intro q h1 h2
                              by_cases e : q = k2
                              · rw [e]; exact hl2
                              · exact iall q h1 (by omega)
                            · intro hk
                              rw [show k2 + 1 - k = (k2 - k) + 1 by omega, nuI, show k + (k2 - k) = k2 by omega]
                              first
                              | omega
                              | exact absurd hk (by omega)
                          · try simp only [e359, e360, e363, e361, e362, ew21, ew22, ew23, ew24, ew25]
                            omega
                        · have hv4 := ival (by omega)
                          have hb4 := nuI_b (B := B) (a := k) (k := k2 - k) (fun q h1 h2 => of_bD (iall q h1 (by omega)))
                          have hp4 := p10 (k2 - k) (by omega)
                          have hdd := of_bD hl2
                          refine WP_aload_n dX11_scan_187 rfl ?_
                          refine WQ_bipush (10) (10) dX11_scan_188 rfl rfl (fun v366 hv366 => ?_)
                          refine WP_aload_n dX11_scan_190 rfl ?_
                          refine WQ_getim dX11_scan_191 fX11_37 rfl (ly_is hy 0 11 rfl) ew326 ?_
                          refine WQ_imulK (10) dX11_scan_194 hv366 (by omega) (by omega) (fun v367 hv367 => ?_)
                          refine WP_aload_n dX11_scan_195 rfl ?_
                          refine WP_aload_n dX11_scan_196 rfl ?_
                          refine WQ_getim dX11_scan_197 fX11_20 rfl (ly_is hy 0 11 rfl) ew324 ?_
                          refine WP_callV1 (k := 11) dX11_scan_200 ⟨⟨⟨by decide, by decide⟩, zX11_byteAt⟩, lX11_23, by decide, rfl, vX11_byteAt.1, vX11_byteAt.2⟩ (ly_is hy 0 11 rfl) (em_byteAt hy hr _  (tpm_fc hy hT fI319 (by rw [ew322]; omega)) hn (q := k2) (by omega)) (Nat.le_of_ble_eq_true rfl) ?_
                          intro r Ia Ja Ra hq
                          obtain ⟨⟨ea, eb, ec⟩, v369, er, p368⟩ := hq
                          rw [ea, eb, ec, er]
                          clear ea eb ec er Ia Ja Ra r
                          rw [hv2] at p368
                          refine WQ_iadd dX11_scan_203 (by omega) (by omega) (fun v370 hv370 => ?_)
                          refine WQ_bipush (48) (48) dX11_scan_204 rfl rfl (fun v371 hv371 => ?_)
                          refine WQ_isub dX11_scan_206 (by omega) (by omega) (fun v372 hv372 => ?_)
                          refine WQ_puti dX11_scan_207 fX11_37 rfl rfl (ly_is hy 0 11 rfl) (fun I373 eI373 => ?_)
                          have e374 : I373 (ad g 0) 2 = w322 := by rw [eI373, pp_ne _ _ (Or.inr (by decide))]; exact ew322
                          have e375 : I373 (ad g 0) 3 = w323 := by rw [eI373, pp_ne _ _ (Or.inr (by decide))]; exact ew323
                          have e376 : I373 (ad g 0) 4 = w324 := by rw [eI373, pp_ne _ _ (Or.inr (by decide))]; exact ew324
                          have e377 : I373 (ad g 0) 5 = w325 := by rw [eI373, pp_ne _ _ (Or.inr (by decide))]; exact ew325
                          have e378 : I373 (ad g 0) 6 = v372 := by rw [eI373, pp_self]
                          have fI379 : FC g [0] I I373 := by rw [eI373]; exact FC_pp fI319 (by decide)
                          have fQ380 : FQ g [3, 4, 5, 6] I I373 := by rw [eI373]; exact FQ_pp0 fQ320 (by decide)
                          refine WP_aload_n dX11_scan_210 rfl ?_
                          refine WP_dup dX11_scan_211 rfl ?_
                          refine WQ_getim dX11_scan_212 fX11_20 rfl (ly_is hy 0 11 rfl) e376 ?_
                          refine WQ_iconst (1) (1) dX11_scan_215 rfl rfl (fun v381 hv381 => ?_)
                          refine WQ_iadd dX11_scan_216 (by omega) (by omega) (fun v382 hv382 => ?_)
                          refine WQ_puti dX11_scan_217 fX11_20 rfl rfl (ly_is hy 0 11 rfl) (fun I383 eI383 => ?_)
                          have e384 : I383 (ad g 0) 2 = w322 := by rw [eI383, pp_ne _ _ (Or.inr (by decide))]; exact e374
                          have e385 : I383 (ad g 0) 3 = w323 := by rw [eI383, pp_ne _ _ (Or.inr (by decide))]; exact e375
                          have e386 : I383 (ad g 0) 5 = w325 := by rw [eI383, pp_ne _ _ (Or.inr (by decide))]; exact e377
                          have e387 : I383 (ad g 0) 6 = v372 := by rw [eI383, pp_ne _ _ (Or.inr (by decide))]; exact e378
                          have e388 : I383 (ad g 0) 4 = v382 := by rw [eI383, pp_self]
                          have fI389 : FC g [0] I I383 := by rw [eI383]; exact FC_pp fI379 (by decide)
                          have fQ390 : FQ g [3, 4, 5, 6] I I383 := by rw [eI383]; exact FQ_pp0 fQ380 (by decide)
                          refine WP_goto 160 dX11_scan_220 rfl ?_
                          refine WP_sub (fc rfl (fc rfl fn)) (ihlp321 I383 fI389 fQ390 ?_ ?_)
                          · try simp only [e384, e385, e388, e386, e387, ew21, ew22, ew23, ew24, ew25]
                            refine ⟨k2 + 1, by omega, by omega, by omega, by omega, by omega, ?_, ?_, ?_⟩
                            · rw [← sp_go hk2 hl2]; exact isp2
                            · intro q h1 h2
                              by_cases e : q = k2
                              · rw [e]; exact hl2
                              · exact iall q h1 (by omega)
                            · intro hk
                              rw [show k2 + 1 - k = (k2 - k) + 1 by omega, nuI, show k + (k2 - k) = k2 by omega]
                              first
                              | omega
                              | exact absurd hk (by omega)
                          · try simp only [e384, e385, e388, e386, e387, ew21, ew22, ew23, ew24, ew25]
                            omega
                  refine WP_sub (fc rfl (fc rfl fn)) (lp321 _ I309 fI316 fQ317 ?_ (Nat.lt_succ_self _))
                  · try simp only [e310, e314, e311, e312, e315, ew21, ew22, ew23, ew24, ew25]
                    refine ⟨k, by omega, Nat.le_refl _, ikn, by omega, by omega, rfl, fun q h1 h2 => absurd h2 (by omega), fun _ => ?_⟩
                    rw [Nat.sub_self]
                    show _ = (0 : Int)
                    omega
              · have hl : bL (B k) = true := by
                  rcases p258 with ⟨a, b⟩ | ⟨a, b⟩
                  · exact b
                  · exact absurd a (by omega)
                have lp394 : ∀ (mz : Nat)  (I391 : pI), FC g [0] I I391 → FQ g [3, 4, 5, 6] I I391 → (∃ k2 : Nat, (I391 (ad g 0) 4).toInt = (k2 : Int) ∧ k ≤ k2 ∧ k2 ≤ n ∧ (I391 (ad g 0) 2).toInt = (n : Int) ∧ (I391 (ad g 0) 3).toInt = (k : Int) ∧ sp bL B (n - k2) k2 = sp bL B (n - k) k) → (n - (I391 (ad g 0) 4).toInt.toNat) < mz → WP g mX11_scan 95 [(0, .ref (ad g 0)), (1, .int v256)] [] I391 J R (fun r I' J' R' => R' = R ∧ FC g [0] I I' ∧ FC g [] J J' ∧ FQ g [3, 4, 5, 6] I I' ∧ r = none ∧ (TPM g B n I' ∧ CUM g B n p I')) := by
                  intro mz
                  induction mz with
                  | zero =>
                    intro  I391 fI392 fQ393 hvlp394 hmlp394
                    exact absurd hmlp394 (Nat.not_lt_zero _)
                  | succ mz ihlp394 =>
                    intro  I391 fI392 fQ393 hvlp394 hmlp394
                    obtain ⟨w395, ew395⟩ : ∃ w : Int32, I391 (ad g 0) 2 = w := ⟨_, rfl⟩
                    obtain ⟨w396, ew396⟩ : ∃ w : Int32, I391 (ad g 0) 3 = w := ⟨_, rfl⟩
                    obtain ⟨w397, ew397⟩ : ∃ w : Int32, I391 (ad g 0) 4 = w := ⟨_, rfl⟩
                    obtain ⟨w398, ew398⟩ : ∃ w : Int32, I391 (ad g 0) 5 = w := ⟨_, rfl⟩
                    obtain ⟨w399, ew399⟩ : ∃ w : Int32, I391 (ad g 0) 6 = w := ⟨_, rfl⟩
                    try simp only [ew395, ew396, ew397, ew398, ew399, ew21, ew22, ew23, ew24, ew25] at hvlp394 hmlp394
                    obtain ⟨k2, j4, jpk, jkn, j2, j3, isp2⟩ := hvlp394
                    refine WP_aload_n dX11_scan_95 rfl ?_
                    refine WP_aload_n dX11_scan_96 rfl ?_
                    refine WQ_getim dX11_scan_97 fX11_20 rfl (ly_is hy 0 11 rfl) ew397 ?_
                    refine WP_callV1 (k := 11) dX11_scan_100 ⟨⟨⟨by decide, by decide⟩, zX11_byteAt⟩, lX11_23, by decide, rfl, vX11_byteAt.1, vX11_byteAt.2⟩ (ly_is hy 0 11 rfl) (em_byteAt hy hr _  (tpm_fc hy hT fI392 (by rw [ew395]; omega)) hn (q := k2) (by omega)) (Nat.le_of_ble_eq_true rfl) ?_
                    intro r Ia Ja Ra hq
                    obtain ⟨⟨ea, eb, ec⟩, v401, er, p400⟩ := hq
                    rw [ea, eb, ec, er]
                    clear ea eb ec er Ia Ja Ra r
                    refine WP_callS1 dX11_scan_103 ⟨⟨⟨by decide, by decide⟩, zX11_isSmall⟩, lX11_30, tX11_isSmall⟩ (em_isSmall hy hr _  ) (Nat.le_of_ble_eq_true rfl) ?_
                    intro r Ia Ja Ra hq
                    obtain ⟨⟨ea, eb, ec⟩, v403, er, p402⟩ := hq
                    rw [ea, eb, ec, er]
                    clear ea eb ec er Ia Ja Ra r
                    rw [p400] at p402
                    refine WQ_if_eq 122 dX11_scan_106 rfl (fun c403 => ?_) (fun c403 => ?_)
                    · have hc : bL (bA B n k2) = false := by
                        rcases p402 with ⟨a, b⟩ | ⟨a, b⟩
                        · exact absurd a (by omega)
                        · exact b
                      have hE2 : sp bL B (n - k) k = k2 := by rw [← isp2]; exact bA_Ln hB hc
                      have tk := tok_let hE (by omega) hl
                      refine WP_aload_n dX11_scan_122 rfl ?_
                      refine WP_aload_n dX11_scan_123 rfl ?_
                      refine WQ_getim dX11_scan_124 fX11_20 rfl (ly_is hy 0 11 rfl) ew397 ?_
                      refine WP_aload_n dX11_scan_127 rfl ?_
                      refine WQ_getim dX11_scan_128 fX11_7 rfl (ly_is hy 0 11 rfl) ew396 ?_
                      refine WQ_isub dX11_scan_131 (by omega) (by omega) (fun v405 hv405 => ?_)
                      refine WQ_bipush (8) (8) dX11_scan_132 rfl rfl (fun v406 hv406 => ?_)
                      refine WQ_icmp_le 141 dX11_scan_134 rfl (fun c406 => ?_) (fun c406 => ?_)
                      · refine WQ_iconst (1) (1) dX11_scan_141 rfl rfl (fun v408 hv408 => ?_)
                        refine WQ_puti dX11_scan_142 fX11_27 rfl rfl (ly_is hy 0 11 rfl) (fun I409 eI409 => ?_)
                        have e410 : I409 (ad g 0) 2 = w395 := by rw [eI409, pp_ne _ _ (Or.inr (by decide))]; exact ew395
                        have e411 : I409 (ad g 0) 3 = w396 := by rw [eI409, pp_ne _ _ (Or.inr (by decide))]; exact ew396
                        have e412 : I409 (ad g 0) 4 = w397 := by rw [eI409, pp_ne _ _ (Or.inr (by decide))]; exact ew397
                        have e413 : I409 (ad g 0) 6 = w399 := by rw [eI409, pp_ne _ _ (Or.inr (by decide))]; exact ew399
                        have e414 : I409 (ad g 0) 5 = v408 := by rw [eI409, pp_self]
                        have fI415 : FC g [0] I I409 := by rw [eI409]; exact FC_pp fI392 (by decide)
                        have fQ416 : FQ g [3, 4, 5, 6] I I409 := by rw [eI409]; exact FQ_pp0 fQ393 (by decide)
                        refine WP_goto 273 dX11_scan_145 rfl ?_
                        exact WP_vret dX11_scan_273 rfl ⟨rfl, fI415, fJ0, fQ416, rfl, by
                          try simp only [e410, e411, e412, e413, e414, ew21, ew22, ew23, ew24, ew25]
                          refine ⟨tpm_fc hy hT fI415 (by first | omega | (rw [e410]; omega)), ?_⟩
                          unfold CUM
                          try simp only [e410, e411, e412, e413, e414]
                          rw [hE, tk.1, tk.2]
                          rw [hE2]
                          exact ⟨by omega, by omega, by split <;> omega, fun h => absurd h (by split <;> decide)⟩⟩
                      · refine WQ_iconst (4) (4) dX11_scan_137 rfl rfl (fun v417 hv417 => ?_)
                        refine WP_goto 142 dX11_scan_138 rfl ?_
                        refine WQ_puti dX11_scan_142 fX11_27 rfl rfl (ly_is hy 0 11 rfl) (fun I418 eI418 => ?_)
                        have e419 : I418 (ad g 0) 2 = w395 := by rw [eI418, pp_ne _ _ (Or.inr (by decide))]; exact ew395
                        have e420 : I418 (ad g 0) 3 = w396 := by rw [eI418, pp_ne _ _ (Or.inr (by decide))]; exact ew396
                        have e421 : I418 (ad g 0) 4 = w397 := by rw [eI418, pp_ne _ _ (Or.inr (by decide))]; exact ew397
                        have e422 : I418 (ad g 0) 6 = w399 := by rw [eI418, pp_ne _ _ (Or.inr (by decide))]; exact ew399
                        have e423 : I418 (ad g 0) 5 = v417 := by rw [eI418, pp_self]
                        have fI424 : FC g [0] I I418 := by rw [eI418]; exact FC_pp fI392 (by decide)
                        have fQ425 : FQ g [3, 4, 5, 6] I I418 := by rw [eI418]; exact FQ_pp0 fQ393 (by decide)
                        refine WP_goto 273 dX11_scan_145 rfl ?_
                        exact WP_vret dX11_scan_273 rfl ⟨rfl, fI424, fJ0, fQ425, rfl, by
                          try simp only [e419, e420, e421, e422, e423, ew21, ew22, ew23, ew24, ew25]
                          refine ⟨tpm_fc hy hT fI424 (by first | omega | (rw [e419]; omega)), ?_⟩
                          unfold CUM
                          try simp only [e419, e420, e421, e422, e423]
                          rw [hE, tk.1, tk.2]
                          rw [hE2]
                          exact ⟨by omega, by omega, by split <;> omega, fun h => absurd h (by split <;> decide)⟩⟩
                    · have hc : bL (bA B n k2) = true := by
                        rcases p402 with ⟨a, b⟩ | ⟨a, b⟩
                        · exact b
                        · exact absurd a (by omega)
                      obtain ⟨hk2, hl2⟩ := bA_Ly hB hc
                      refine WP_aload_n dX11_scan_109 rfl ?_
                      refine WP_dup dX11_scan_110 rfl ?_
                      refine WQ_getim dX11_scan_111 fX11_20 rfl (ly_is hy 0 11 rfl) ew397 ?_
                      refine WQ_iconst (1) (1) dX11_scan_114 rfl rfl (fun v426 hv426 => ?_)
                      refine WQ_iadd dX11_scan_115 (by omega) (by omega) (fun v427 hv427 => ?_)
                      refine WQ_puti dX11_scan_116 fX11_20 rfl rfl (ly_is hy 0 11 rfl) (fun I428 eI428 => ?_)
                      have e429 : I428 (ad g 0) 2 = w395 := by rw [eI428, pp_ne _ _ (Or.inr (by decide))]; exact ew395
                      have e430 : I428 (ad g 0) 3 = w396 := by rw [eI428, pp_ne _ _ (Or.inr (by decide))]; exact ew396
                      have e431 : I428 (ad g 0) 5 = w398 := by rw [eI428, pp_ne _ _ (Or.inr (by decide))]; exact ew398
                      have e432 : I428 (ad g 0) 6 = w399 := by rw [eI428, pp_ne _ _ (Or.inr (by decide))]; exact ew399
                      have e433 : I428 (ad g 0) 4 = v427 := by rw [eI428, pp_self]
                      have fI434 : FC g [0] I I428 := by rw [eI428]; exact FC_pp fI392 (by decide)
                      have fQ435 : FQ g [3, 4, 5, 6] I I428 := by rw [eI428]; exact FQ_pp0 fQ393 (by decide)
                      refine WP_goto 95 dX11_scan_119 rfl ?_
                      refine WP_sub (fc rfl (fc rfl fn)) (ihlp394 I428 fI434 fQ435 ?_ ?_)
                      · try simp only [e429, e430, e433, e431, e432, ew21, ew22, ew23, ew24, ew25]
                        refine ⟨k2 + 1, by omega, by omega, by omega, by omega, by omega, ?_⟩
                        rw [← sp_go hk2 hl2]; exact isp2
                      · try simp only [e429, e430, e433, e431, e432, ew21, ew22, ew23, ew24, ew25]
                        omega
                refine WP_sub (fc rfl (fc rfl fn)) (lp394 _ I246 fI253 fQ254 ?_ (Nat.lt_succ_self _))
                · try simp only [e247, e252, e248, e249, e250, ew21, ew22, ew23, ew24, ew25]
                  exact ⟨k, by omega, Nat.le_refl _, ikn, by omega, by omega, rfl⟩
            · have tk := tok_end (hE.trans (show k = n by omega))
              refine WP_aload_n dX11_scan_80 rfl ?_
              refine WQ_iconst (0) (0) dX11_scan_81 rfl rfl (fun v436 hv436 => ?_)
              refine WQ_puti dX11_scan_82 fX11_27 rfl rfl (ly_is hy 0 11 rfl) (fun I437 eI437 => ?_)
              have e438 : I437 (ad g 0) 2 = w30 := by rw [eI437, pp_ne _ _ (Or.inr (by decide))]; exact e247
              have e439 : I437 (ad g 0) 4 = w32 := by rw [eI437, pp_ne _ _ (Or.inr (by decide))]; exact e248
              have e440 : I437 (ad g 0) 6 = w34 := by rw [eI437, pp_ne _ _ (Or.inr (by decide))]; exact e250
              have e441 : I437 (ad g 1) w32.toInt.toNat = v243 := by rw [eI437, pp_ne _ _ (Or.inl (ly_ne hy (by decide) (by decide) (by decide)))]; exact e251
              have e442 : I437 (ad g 0) 3 = w32 := by rw [eI437, pp_ne _ _ (Or.inr (by decide))]; exact e252
              have e443 : I437 (ad g 0) 5 = v436 := by rw [eI437, pp_self]
              have fI444 : FC g [0] I I437 := by rw [eI437]; exact FC_pp fI253 (by decide)
              have fQ445 : FQ g [3, 4, 5, 6] I I437 := by rw [eI437]; exact FQ_pp0 fQ254 (by decide)
              refine WP_goto 273 dX11_scan_85 rfl ?_
              exact WP_vret dX11_scan_273 rfl ⟨rfl, fI444, fJ0, fQ445, rfl, by
                try simp only [e438, e439, e440, e442, e443, ew21, ew22, ew23, ew24, ew25]
                refine ⟨tpm_fc hy hT fI444 (by first | omega | (rw [e438]; omega)), ?_⟩
                unfold CUM
                try simp only [e438, e439, e440, e442, e443]
                rw [hE, tk.1, tk.2]
                exact ⟨by omega, by omega, by omega, fun h => absurd h (by decide)⟩⟩
          · have hl : bB (B k) = true := by simp [bB]; omega
            refine WP_aload_n dX11_scan_39 rfl ?_
            refine WP_dup dX11_scan_40 rfl ?_
            refine WQ_getim dX11_scan_41 fX11_20 rfl (ly_is hy 0 11 rfl) ew32 ?_
            refine WQ_iconst (1) (1) dX11_scan_44 rfl rfl (fun v446 hv446 => ?_)
            refine WQ_iadd dX11_scan_45 (by omega) (by omega) (fun v447 hv447 => ?_)
            refine WQ_puti dX11_scan_46 fX11_20 rfl rfl (ly_is hy 0 11 rfl) (fun I448 eI448 => ?_)
            have e449 : I448 (ad g 0) 2 = w30 := by rw [eI448, pp_ne _ _ (Or.inr (by decide))]; exact ew30
            have e450 : I448 (ad g 0) 3 = w31 := by rw [eI448, pp_ne _ _ (Or.inr (by decide))]; exact ew31
            have e451 : I448 (ad g 0) 5 = w33 := by rw [eI448, pp_ne _ _ (Or.inr (by decide))]; exact ew33
            have e452 : I448 (ad g 0) 6 = w34 := by rw [eI448, pp_ne _ _ (Or.inr (by decide))]; exact ew34
            have e453 : I448 (ad g 1) w32.toInt.toNat = v243 := by rw [eI448, pp_ne _ _ (Or.inl (ly_ne hy (by decide) (by decide) (by decide)))]; exact ev243
            have e454 : I448 (ad g 0) 4 = v447 := by rw [eI448, pp_self]
            have fI455 : FC g [0] I I448 := by rw [eI448]; exact FC_pp fI27 (by decide)
            have fQ456 : FQ g [3, 4, 5, 6] I I448 := by rw [eI448]; exact FQ_pp0 fQ28 (by decide)
            refine WP_goto 0 dX11_scan_49 rfl ?_
            refine WP_sub (fc rfl fn) (ihlp29 I448 fI455 fQ456 ?_ ?_)
            · try simp only [e449, e450, e454, e451, e452, ew21, ew22, ew23, ew24, ew25]
              refine ⟨k + 1, by omega, by omega, by omega, by omega, ?_⟩
              rw [← sp_go (by omega) hl]; exact isp
            · try simp only [e449, e450, e454, e451, e452, ew21, ew22, ew23, ew24, ew25]
              omega
  refine WP_sub (fc rfl fn) (lp29 _ I fI0 fQ0 ?_ (Nat.lt_succ_self _))
  · try simp only [ew21, ew22, ew23, ew24, ew25]
    exact ⟨p, h4, Nat.le_refl _, hp, hT1, rfl⟩
