set_option maxHeartbeats 4000000 in
set_option maxRecDepth 100000 in
theorem em_is {g : GG} {I : pI} {J : pJ} {R : pR} (hy : Ly g) (hr : Rf g R) {aK aV : Nat → Nat} {fo : Option Nat} (hz : HZ g aK aV fo) {B : Nat → Int} {n p k : Nat} (i : Nat) (hT : TPM g B n I) (hC : CUM g B n p I) (hn : n ≤ 900) (hB : ∀ q, -128 ≤ B q ∧ B q ≤ 127) (hp : p ≤ n) (hi : i = 22 + k) (hk : k < 10) : SP g mX11_is [.ref (ad g 0), .ref (aK (i))] I J R (fun r I' J' R' => (I' = I ∧ J' = J ∧ R' = R) ∧ ∃ v : Int32, r = some (.int v) ∧ ((v.toInt = 1 ∧ tK B n p = 1 ∧ tW B n p = KW k) ∨ (v.toInt = 0 ∧ ¬ (tK B n p = 1 ∧ tW B n p = KW k)))) := by
  refine SP_of ⟨by decide, rfl⟩ (Nat.le_of_ble_eq_true rfl) ?_
  have c3 := hC.1
  have c4 := hC.2.1
  have c5 := hC.2.2.1
  have tl := tT_le B hp
  obtain ⟨w1249, ew1249⟩ : ∃ w : Int32, I (ad g 0) 2 = w := ⟨_, rfl⟩
  obtain ⟨w1250, ew1250⟩ : ∃ w : Int32, I (ad g 0) 3 = w := ⟨_, rfl⟩
  obtain ⟨w1251, ew1251⟩ : ∃ w : Int32, I (ad g 0) 4 = w := ⟨_, rfl⟩
  obtain ⟨w1252, ew1252⟩ : ∃ w : Int32, I (ad g 0) 5 = w := ⟨_, rfl⟩
  try simp only [ew1249, ew1250, ew1251, ew1252] at c3 c4 c5
  have lw : wI (LBx i) 0 (liN.getD i 0) = KW k := by rw [hi]; exact LB_m1 k hk
  have l5 := LB_n i (by omega)
  have ll : ∀ q, q < liN.getD i 0 → 97 ≤ LBx i q ∧ LBx i q ≤ 122 := by rw [hi]; exact LB_m2 k hk
  refine WP_aload_n dX11_is_0 rfl ?_
  refine WQ_getim dX11_is_1 fX11_27 rfl (ly_is hy 0 11 rfl) ew1252 ?_
  refine WQ_iconst (1) (1) dX11_is_4 rfl rfl (fun v1253 hv1253 => ?_)
  refine WQ_icmp_ne 28 dX11_is_5 rfl (fun c1253 => ?_) (fun c1253 => ?_)
  · refine WQ_iconst (0) (0) dX11_is_28 rfl rfl (fun v1255 hv1255 => ?_)
    refine WP_istore_n (ls' := [(0, _), (1, _), (2, _)]) dX11_is_29 (by decide) rfl ?_
    refine WQ_iconst (0) (0) dX11_is_30 rfl rfl (fun v1256 hv1256 => ?_)
    refine WP_istore_n (ls' := [(0, _), (1, _), (2, _), (3, _)]) dX11_is_31 (by decide) rfl ?_
    have lp1259 : ∀ (mz : Nat) (i1257 : Int32) (i1258 : Int32), (∃ j : Nat, i1258.toInt = (j : Int) ∧ j ≤ liN.getD i 0 ∧ (i1257.toInt = 0 ∨ i1257.toInt = 1) ∧ (i1257.toInt = 0 → ¬ (tK B n p = 1 ∧ tW B n p = KW k)) ∧ (i1257.toInt = 1 → tK B n p = 1 ∧ tT B n p - tF B n p = liN.getD i 0 ∧ ∀ q, q < j → B (tF B n p + q) = LBx i q)) → (6 - i1258.toInt.toNat) < mz → WP g mX11_is 32 [(0, .ref (ad g 0)), (1, .ref (aK (i))), (2, .int i1257), (3, .int i1258)] [] I J R (fun r I' J' R' => (I' = I ∧ J' = J ∧ R' = R) ∧ ∃ v : Int32, r = some (.int v) ∧ ((v.toInt = 1 ∧ tK B n p = 1 ∧ tW B n p = KW k) ∨ (v.toInt = 0 ∧ ¬ (tK B n p = 1 ∧ tW B n p = KW k)))) := by
      intro mz
      induction mz with
      | zero =>
        intro i1257 i1258  hvlp1259 hmlp1259
        exact absurd hmlp1259 (Nat.not_lt_zero _)
      | succ mz ihlp1259 =>
        intro i1257 i1258  hvlp1259 hmlp1259
        try simp only [ew1249, ew1250, ew1251, ew1252] at hvlp1259 hmlp1259
        obtain ⟨j, ij, ijn, i01, i0, i1⟩ := hvlp1259
        refine WP_iload_n dX11_is_32 rfl ?_
        refine WP_aload_n dX11_is_33 rfl ?_
        refine WS_call hz (i := i) (by omega) dX11_is_34 ⟨⟨by decide, by decide⟩, zJ0_length_8abf5⟩ lX11_40 vJ0_length_8abf5 (As := []) (rest := [.int i1258]) (j_length hz (i := i) (by omega)) rfl rfl (Nat.le_of_ble_eq_true rfl) ?_
        intro r Ia Ja Ra hq
        obtain ⟨⟨ea, eb, ec⟩, v1260, rfl, cv1260⟩ := hq
        show WP _ _ _ _ (.int _ :: _) _ _ _ _
        rw [ea, eb, ec]
        clear ea eb ec Ia Ja Ra
        have lv1260 := (li_len (i) (by omega)).2.2
        refine WQ_icmp_ge 75 dX11_is_37 rfl (fun c1260 => ?_) (fun c1260 => ?_)
        · refine WP_iload_n dX11_is_75 rfl ?_
          exact WP_zret dX11_is_76 rfl (nar_z (by omega)) ⟨⟨rfl, rfl, rfl⟩, i1257, rfl, by
            try simp only [ew1249, ew1250, ew1251, ew1252]
            rcases i01 with z | z
            · exact Or.inr ⟨z, i0 z⟩
            · obtain ⟨i1a, i1b, i1c⟩ := i1 z
              refine Or.inl ⟨z, i1a, ?_⟩
              have hj : j = liN.getD i 0 := by omega
              rw [← lw]
              unfold tW
              rw [i1b]
              exact wI_ext (fun q hq => by rw [Nat.zero_add]; exact i1c q (by omega))⟩
        · refine WP_iload_n dX11_is_40 rfl ?_
          refine WQ_if_eq 75 dX11_is_41 rfl (fun c1261 => ?_) (fun c1261 => ?_)
          · refine WP_iload_n dX11_is_75 rfl ?_
            exact WP_zret dX11_is_76 rfl (nar_z (by omega)) ⟨⟨rfl, rfl, rfl⟩, i1257, rfl, by
              try simp only [ew1249, ew1250, ew1251, ew1252]
              rcases i01 with z | z
              · exact Or.inr ⟨z, i0 z⟩
              · obtain ⟨i1a, i1b, i1c⟩ := i1 z
                refine Or.inl ⟨z, i1a, ?_⟩
                have hj : j = liN.getD i 0 := by omega
                rw [← lw]
                unfold tW
                rw [i1b]
                exact wI_ext (fun q hq => by rw [Nat.zero_add]; exact i1c q (by omega))⟩
          · obtain ⟨i1a, i1b, i1c⟩ := i1 (by omega)
            have hTB := hT.2
            refine WP_aload_n dX11_is_44 rfl ?_
            refine WP_getr dX11_is_45 fX11_16 rfl (ly_is hy 0 11 rfl) (rf hr 0 0 1 (by decide)) ?_
            refine WP_aload_n dX11_is_48 rfl ?_
            refine WQ_getim dX11_is_49 fX11_7 rfl (ly_is hy 0 11 rfl) ew1250 ?_
            refine WP_iload_n dX11_is_52 rfl ?_
            refine WQ_iadd dX11_is_53 (by omega) (by omega) (fun v1263 hv1263 => ?_)
            refine WE_ba dX11_is_54 (ly_is hy 1 12 rfl) (ly_n hy 1 900 rfl) (by omega) (by omega) (fun v1264 ev1264 => ?_)
            have hb54 : v1264.toInt = B (tF B n p + j) := by rw [← ev1264, show v1263.toInt.toNat = tF B n p + j by omega]; exact hTB _ (by omega)
            refine WP_aload_n dX11_is_55 rfl ?_
            refine WP_iload_n dX11_is_56 rfl ?_
            refine WS_call hz (i := i) (by omega) dX11_is_57 ⟨⟨by decide, by decide⟩, zJ0_charAt_5068e⟩ lX11_45 vJ0_charAt_5068e (As := [.int i1258]) (rest := [.int v1264]) (j_charAt hz (i := i) (k := i1258) (by omega) (by omega) (by omega)) rfl rfl (Nat.le_of_ble_eq_true rfl) ?_
            intro r Ia Ja Ra hq
            obtain ⟨⟨ea, eb, ec⟩, v1265, rfl, cv1265⟩ := hq
            show WP _ _ _ _ (.int _ :: _) _ _ _ _
            rw [ea, eb, ec]
            clear ea eb ec Ia Ja Ra
            have hb60 : v1265.toInt = LBx i j := by rw [cv1265, show i1258.toInt.toNat = j by omega]; rfl
            refine WQ_icmp_ne 67 dX11_is_60 rfl (fun c1265 => ?_) (fun c1265 => ?_)
            · refine WQ_iconst (0) (0) dX11_is_67 rfl rfl (fun v1267 hv1267 => ?_)
              refine WP_istore_n (ls' := [(0, _), (1, _), (2, _), (3, _)]) dX11_is_68 (by decide) rfl ?_
              refine WP_iinc (ls' := [(0, _), (1, _), (2, _), (3, _)]) dX11_is_69 rfl (by decide) rfl ?_
              have hv1268 : (i1258 + Int32.ofInt (1)).toInt = i1258.toInt + (1) := ia_n rfl (by omega) (by omega)
              generalize i1258 + Int32.ofInt (1) = v1268 at hv1268 ⊢
              refine WP_goto 32 dX11_is_72 rfl ?_
              refine WP_sub (fc rfl (fc rfl (fc rfl (fc rfl fn)))) (ihlp1259 v1267 v1268  ?_ ?_)
              · try simp only [ew1249, ew1250, ew1251, ew1252]
                refine ⟨j + 1, by omega, by omega, by omega, fun z => ?_, fun z => ?_⟩
                · first
                  | exact absurd z (by omega)
                  | (rintro ⟨z1, z2⟩
                     obtain ⟨w1, w2, w3, w4⟩ := tok_w hp z1
                     have wj := wI_inj (B := B) (a := tF B n p) (k := tT B n p - tF B n p) (B' := LBx i) (a' := 0) (k' := liN.getD i 0) (fun q hq => w4 _ (by omega) (by omega)) (fun q hq => by rw [Nat.zero_add]; exact ll q hq) (by rw [lw]; exact z2)
                     have wz := wj.2 j (by omega)
                     rw [Nat.zero_add] at wz
                     omega)
                · first
                  | exact absurd z (by omega)
                  | (refine ⟨by omega, by omega, fun q hq => ?_⟩; by_cases e : q = j; (· subst e; omega); (· exact i1c q (by omega)))
              · try simp only [ew1249, ew1250, ew1251, ew1252]
                omega
            · refine WQ_iconst (1) (1) dX11_is_63 rfl rfl (fun v1269 hv1269 => ?_)
              refine WP_goto 68 dX11_is_64 rfl ?_
              refine WP_istore_n (ls' := [(0, _), (1, _), (2, _), (3, _)]) dX11_is_68 (by decide) rfl ?_
              refine WP_iinc (ls' := [(0, _), (1, _), (2, _), (3, _)]) dX11_is_69 rfl (by decide) rfl ?_
              have hv1270 : (i1258 + Int32.ofInt (1)).toInt = i1258.toInt + (1) := ia_n rfl (by omega) (by omega)
              generalize i1258 + Int32.ofInt (1) = v1270 at hv1270 ⊢
              refine WP_goto 32 dX11_is_72 rfl ?_
              refine WP_sub (fc rfl (fc rfl (fc rfl (fc rfl fn)))) (ihlp1259 v1269 v1270  ?_ ?_)
              · try simp only [ew1249, ew1250, ew1251, ew1252]
                refine ⟨j + 1, by omega, by omega, by omega, fun z => ?_, fun z => ?_⟩
                · first
                  | exact absurd z (by omega)
                  | (rintro ⟨z1, z2⟩
                     obtain ⟨w1, w2, w3, w4⟩ := tok_w hp z1
                     have wj := wI_inj (B := B) (a := tF B n p) (k := tT B n p - tF B n p) (B' := LBx i) (a' := 0) (k' := liN.getD i 0) (fun q hq => w4 _ (by omega) (by omega)) (fun q hq => by rw [Nat.zero_add]; exact ll q hq) (by rw [lw]; exact z2)
                     have wz := wj.2 j (by omega)
                     rw [Nat.zero_add] at wz
                     omega)
                · first
                  | exact absurd z (by omega)
                  | (refine ⟨by omega, by omega, fun q hq => ?_⟩; by_cases e : q = j; (· subst e; omega); (· exact i1c q (by omega)))
              · try simp only [ew1249, ew1250, ew1251, ew1252]
                omega
    refine WP_sub (fc rfl (fc rfl (fc rfl (fc rfl fn)))) (lp1259 _ v1255 v1256  ?_ (Nat.lt_succ_self _))
    · try simp only [ew1249, ew1250, ew1251, ew1252]
      refine ⟨0, by omega, by omega, by omega, fun z => ?_, fun z => ?_⟩
      · first
        | exact absurd z (by omega)
        | (rintro ⟨z1, z2⟩
           obtain ⟨w1, w2, w3, w4⟩ := tok_w hp z1
           have wj := wI_inj (B := B) (a := tF B n p) (k := tT B n p - tF B n p) (B' := LBx i) (a' := 0) (k' := liN.getD i 0) (fun q hq => w4 _ (by omega) (by omega)) (fun q hq => by rw [Nat.zero_add]; exact ll q hq) (by rw [lw]; exact z2)
           omega)
        | (rintro ⟨z1, z2⟩; omega)
      · first
        | exact absurd z (by omega)
        | exact ⟨by omega, by omega, fun q hq => absurd hq (Nat.not_lt_zero _)⟩
  · refine WP_aload_n dX11_is_8 rfl ?_
    refine WQ_getim dX11_is_9 fX11_20 rfl (ly_is hy 0 11 rfl) ew1251 ?_
    refine WP_aload_n dX11_is_12 rfl ?_
    refine WQ_getim dX11_is_13 fX11_7 rfl (ly_is hy 0 11 rfl) ew1250 ?_
    refine WQ_isub dX11_is_16 (by omega) (by omega) (fun v1271 hv1271 => ?_)
    refine WP_aload_n dX11_is_17 rfl ?_
    refine WS_call hz (i := i) (by omega) dX11_is_18 ⟨⟨by decide, by decide⟩, zJ0_length_8abf5⟩ lX11_40 vJ0_length_8abf5 (As := []) (rest := [.int v1271]) (j_length hz (i := i) (by omega)) rfl rfl (Nat.le_of_ble_eq_true rfl) ?_
    intro r Ia Ja Ra hq
    obtain ⟨⟨ea, eb, ec⟩, v1272, rfl, cv1272⟩ := hq
    show WP _ _ _ _ (.int _ :: _) _ _ _ _
    rw [ea, eb, ec]
    clear ea eb ec Ia Ja Ra
    have lv1272 := (li_len (i) (by omega)).2.2
    refine WQ_icmp_ne 28 dX11_is_21 rfl (fun c1272 => ?_) (fun c1272 => ?_)
    · refine WQ_iconst (0) (0) dX11_is_28 rfl rfl (fun v1274 hv1274 => ?_)
      refine WP_istore_n (ls' := [(0, _), (1, _), (2, _)]) dX11_is_29 (by decide) rfl ?_
      refine WQ_iconst (0) (0) dX11_is_30 rfl rfl (fun v1275 hv1275 => ?_)
      refine WP_istore_n (ls' := [(0, _), (1, _), (2, _), (3, _)]) dX11_is_31 (by decide) rfl ?_
      have lp1278 : ∀ (mz : Nat) (i1276 : Int32) (i1277 : Int32), (∃ j : Nat, i1277.toInt = (j : Int) ∧ j ≤ liN.getD i 0 ∧ (i1276.toInt = 0 ∨ i1276.toInt = 1) ∧ (i1276.toInt = 0 → ¬ (tK B n p = 1 ∧ tW B n p = KW k)) ∧ (i1276.toInt = 1 → tK B n p = 1 ∧ tT B n p - tF B n p = liN.getD i 0 ∧ ∀ q, q < j → B (tF B n p + q) = LBx i q)) → (6 - i1277.toInt.toNat) < mz → WP g mX11_is 32 [(0, .ref (ad g 0)), (1, .ref (aK (i))), (2, .int i1276), (3, .int i1277)] [] I J R (fun r I' J' R' => (I' = I ∧ J' = J ∧ R' = R) ∧ ∃ v : Int32, r = some (.int v) ∧ ((v.toInt = 1 ∧ tK B n p = 1 ∧ tW B n p = KW k) ∨ (v.toInt = 0 ∧ ¬ (tK B n p = 1 ∧ tW B n p = KW k)))) := by
        intro mz
        induction mz with
        | zero =>
          intro i1276 i1277  hvlp1278 hmlp1278
          exact absurd hmlp1278 (Nat.not_lt_zero _)
        | succ mz ihlp1278 =>
          intro i1276 i1277  hvlp1278 hmlp1278
          try simp only [ew1249, ew1250, ew1251, ew1252] at hvlp1278 hmlp1278
          obtain ⟨j, ij, ijn, i01, i0, i1⟩ := hvlp1278
          refine WP_iload_n dX11_is_32 rfl ?_
          refine WP_aload_n dX11_is_33 rfl ?_
          refine WS_call hz (i := i) (by omega) dX11_is_34 ⟨⟨by decide, by decide⟩, zJ0_length_8abf5⟩ lX11_40 vJ0_length_8abf5 (As := []) (rest := [.int i1277]) (j_length hz (i := i) (by omega)) rfl rfl (Nat.le_of_ble_eq_true rfl) ?_
          intro r Ia Ja Ra hq
          obtain ⟨⟨ea, eb, ec⟩, v1279, rfl, cv1279⟩ := hq
          show WP _ _ _ _ (.int _ :: _) _ _ _ _
          rw [ea, eb, ec]
          clear ea eb ec Ia Ja Ra
          have lv1279 := (li_len (i) (by omega)).2.2
          refine WQ_icmp_ge 75 dX11_is_37 rfl (fun c1279 => ?_) (fun c1279 => ?_)
          · refine WP_iload_n dX11_is_75 rfl ?_
            exact WP_zret dX11_is_76 rfl (nar_z (by omega)) ⟨⟨rfl, rfl, rfl⟩, i1276, rfl, by
              try simp only [ew1249, ew1250, ew1251, ew1252]
              rcases i01 with z | z
              · exact Or.inr ⟨z, i0 z⟩
              · obtain ⟨i1a, i1b, i1c⟩ := i1 z
                refine Or.inl ⟨z, i1a, ?_⟩
                have hj : j = liN.getD i 0 := by omega
                rw [← lw]
                unfold tW
                rw [i1b]
                exact wI_ext (fun q hq => by rw [Nat.zero_add]; exact i1c q (by omega))⟩
          · refine WP_iload_n dX11_is_40 rfl ?_
            refine WQ_if_eq 75 dX11_is_41 rfl (fun c1280 => ?_) (fun c1280 => ?_)
            · refine WP_iload_n dX11_is_75 rfl ?_
              exact WP_zret dX11_is_76 rfl (nar_z (by omega)) ⟨⟨rfl, rfl, rfl⟩, i1276, rfl, by
                try simp only [ew1249, ew1250, ew1251, ew1252]
                rcases i01 with z | z
                · exact Or.inr ⟨z, i0 z⟩
                · obtain ⟨i1a, i1b, i1c⟩ := i1 z
                  refine Or.inl ⟨z, i1a, ?_⟩
                  have hj : j = liN.getD i 0 := by omega
                  rw [← lw]
                  unfold tW
                  rw [i1b]
                  exact wI_ext (fun q hq => by rw [Nat.zero_add]; exact i1c q (by omega))⟩
            · obtain ⟨i1a, i1b, i1c⟩ := i1 (by omega)
              have hTB := hT.2
              refine WP_aload_n dX11_is_44 rfl ?_
              refine WP_getr dX11_is_45 fX11_16 rfl (ly_is hy 0 11 rfl) (rf hr 0 0 1 (by decide)) ?_
              refine WP_aload_n dX11_is_48 rfl ?_
              refine WQ_getim dX11_is_49 fX11_7 rfl (ly_is hy 0 11 rfl) ew1250 ?_
              refine WP_iload_n dX11_is_52 rfl ?_
              refine WQ_iadd dX11_is_53 (by omega) (by omega) (fun v1282 hv1282 => ?_)
              refine WE_ba dX11_is_54 (ly_is hy 1 12 rfl) (ly_n hy 1 900 rfl) (by omega) (by omega) (fun v1283 ev1283 => ?_)
              have hb54 : v1283.toInt = B (tF B n p + j) := by rw [← ev1283, show v1282.toInt.toNat = tF B n p + j by omega]; exact hTB _ (by omega)
              refine WP_aload_n dX11_is_55 rfl ?_
              refine WP_iload_n dX11_is_56 rfl ?_
              refine WS_call hz (i := i) (by omega) dX11_is_57 ⟨⟨by decide, by decide⟩, zJ0_charAt_5068e⟩ lX11_45 vJ0_charAt_5068e (As := [.int i1277]) (rest := [.int v1283]) (j_charAt hz (i := i) (k := i1277) (by omega) (by omega) (by omega)) rfl rfl (Nat.le_of_ble_eq_true rfl) ?_
              intro r Ia Ja Ra hq
              obtain ⟨⟨ea, eb, ec⟩, v1284, rfl, cv1284⟩ := hq
              show WP _ _ _ _ (.int _ :: _) _ _ _ _
              rw [ea, eb, ec]
              clear ea eb ec Ia Ja Ra
              have hb60 : v1284.toInt = LBx i j := by rw [cv1284, show i1277.toInt.toNat = j by omega]; rfl
              refine WQ_icmp_ne 67 dX11_is_60 rfl (fun c1284 => ?_) (fun c1284 => ?_)
              · refine WQ_iconst (0) (0) dX11_is_67 rfl rfl (fun v1286 hv1286 => ?_)
                refine WP_istore_n (ls' := [(0, _), (1, _), (2, _), (3, _)]) dX11_is_68 (by decide) rfl ?_
                refine WP_iinc (ls' := [(0, _), (1, _), (2, _), (3, _)]) dX11_is_69 rfl (by decide) rfl ?_
                have hv1287 : (i1277 + Int32.ofInt (1)).toInt = i1277.toInt + (1) := ia_n rfl (by omega) (by omega)
                generalize i1277 + Int32.ofInt (1) = v1287 at hv1287 ⊢
                refine WP_goto 32 dX11_is_72 rfl ?_
                refine WP_sub (fc rfl (fc rfl (fc rfl (fc rfl fn)))) (ihlp1278 v1286 v1287  ?_ ?_)
                · try simp only [ew1249, ew1250, ew1251, ew1252]
                  refine ⟨j + 1, by omega, by omega, by omega, fun z => ?_, fun z => ?_⟩
                  · first
                    | exact absurd z (by omega)
                    | (rintro ⟨z1, z2⟩
                       obtain ⟨w1, w2, w3, w4⟩ := tok_w hp z1
                       have wj := wI_inj (B := B) (a := tF B n p) (k := tT B n p - tF B n p) (B' := LBx i) (a' := 0) (k' := liN.getD i 0) (fun q hq => w4 _ (by omega) (by omega)) (fun q hq => by rw [Nat.zero_add]; exact ll q hq) (by rw [lw]; exact z2)
                       have wz := wj.2 j (by omega)
                       rw [Nat.zero_add] at wz
                       omega)
                  · first
                    | exact absurd z (by omega)
                    | (refine ⟨by omega, by omega, fun q hq => ?_⟩; by_cases e : q = j; (· subst e; omega); (· exact i1c q (by omega)))
                · try simp only [ew1249, ew1250, ew1251, ew1252]
                  omega
              · refine WQ_iconst (1) (1) dX11_is_63 rfl rfl (fun v1288 hv1288 => ?_)
                refine WP_goto 68 dX11_is_64 rfl ?_
                refine WP_istore_n (ls' := [(0, _), (1, _), (2, _), (3, _)]) dX11_is_68 (by decide) rfl ?_
                refine WP_iinc (ls' := [(0, _), (1, _), (2, _), (3, _)]) dX11_is_69 rfl (by decide) rfl ?_
                have hv1289 : (i1277 + Int32.ofInt (1)).toInt = i1277.toInt + (1) := ia_n rfl (by omega) (by omega)
                generalize i1277 + Int32.ofInt (1) = v1289 at hv1289 ⊢
                refine WP_goto 32 dX11_is_72 rfl ?_
                refine WP_sub (fc rfl (fc rfl (fc rfl (fc rfl fn)))) (ihlp1278 v1288 v1289  ?_ ?_)
                · try simp only [ew1249, ew1250, ew1251, ew1252]
                  refine ⟨j + 1, by omega, by omega, by omega, fun z => ?_, fun z => ?_⟩
                  · first
                    | exact absurd z (by omega)
                    | (rintro ⟨z1, z2⟩
                       obtain ⟨w1, w2, w3, w4⟩ := tok_w hp z1
                       have wj := wI_inj (B := B) (a := tF B n p) (k := tT B n p - tF B n p) (B' := LBx i) (a' := 0) (k' := liN.getD i 0) (fun q hq => w4 _ (by omega) (by omega)) (fun q hq => by rw [Nat.zero_add]; exact ll q hq) (by rw [lw]; exact z2)
                       have wz := wj.2 j (by omega)
                       rw [Nat.zero_add] at wz
                       omega)
                  · first
                    | exact absurd z (by omega)
                    | (refine ⟨by omega, by omega, fun q hq => ?_⟩; by_cases e : q = j; (· subst e; omega); (· exact i1c q (by omega)))
                · try simp only [ew1249, ew1250, ew1251, ew1252]
                  omega
      refine WP_sub (fc rfl (fc rfl (fc rfl (fc rfl fn)))) (lp1278 _ v1274 v1275  ?_ (Nat.lt_succ_self _))
      · try simp only [ew1249, ew1250, ew1251, ew1252]
        refine ⟨0, by omega, by omega, by omega, fun z => ?_, fun z => ?_⟩
        · first
          | exact absurd z (by omega)
          | (rintro ⟨z1, z2⟩
             obtain ⟨w1, w2, w3, w4⟩ := tok_w hp z1
             have wj := wI_inj (B := B) (a := tF B n p) (k := tT B n p - tF B n p) (B' := LBx i) (a' := 0) (k' := liN.getD i 0) (fun q hq => w4 _ (by omega) (by omega)) (fun q hq => by rw [Nat.zero_add]; exact ll q hq) (by rw [lw]; exact z2)
             omega)
          | (rintro ⟨z1, z2⟩; omega)
        · first
          | exact absurd z (by omega)
          | exact ⟨by omega, by omega, fun q hq => absurd hq (Nat.not_lt_zero _)⟩
    · refine WQ_iconst (1) (1) dX11_is_24 rfl rfl (fun v1290 hv1290 => ?_)
      refine WP_goto 29 dX11_is_25 rfl ?_
      refine WP_istore_n (ls' := [(0, _), (1, _), (2, _)]) dX11_is_29 (by decide) rfl ?_
      refine WQ_iconst (0) (0) dX11_is_30 rfl rfl (fun v1291 hv1291 => ?_)
      refine WP_istore_n (ls' := [(0, _), (1, _), (2, _), (3, _)]) dX11_is_31 (by decide) rfl ?_
      have lp1294 : ∀ (mz : Nat) (i1292 : Int32) (i1293 : Int32), (∃ j : Nat, i1293.toInt = (j : Int) ∧ j ≤ liN.getD i 0 ∧ (i1292.toInt = 0 ∨ i1292.toInt = 1) ∧ (i1292.toInt = 0 → ¬ (tK B n p = 1 ∧ tW B n p = KW k)) ∧ (i1292.toInt = 1 → tK B n p = 1 ∧ tT B n p - tF B n p = liN.getD i 0 ∧ ∀ q, q < j → B (tF B n p + q) = LBx i q)) → (6 - i1293.toInt.toNat) < mz → WP g mX11_is 32 [(0, .ref (ad g 0)), (1, .ref (aK (i))), (2, .int i1292), (3, .int i1293)] [] I J R (fun r I' J' R' => (I' = I ∧ J' = J ∧ R' = R) ∧ ∃ v : Int32, r = some (.int v) ∧ ((v.toInt = 1 ∧ tK B n p = 1 ∧ tW B n p = KW k) ∨ (v.toInt = 0 ∧ ¬ (tK B n p = 1 ∧ tW B n p = KW k)))) := by
        intro mz
        induction mz with
        | zero =>
          intro i1292 i1293  hvlp1294 hmlp1294
          exact absurd hmlp1294 (Nat.not_lt_zero _)
        | succ mz ihlp1294 =>
          intro i1292 i1293  hvlp1294 hmlp1294
          try simp only [ew1249, ew1250, ew1251, ew1252] at hvlp1294 hmlp1294
          obtain ⟨j, ij, ijn, i01, i0, i1⟩ := hvlp1294
          refine WP_iload_n dX11_is_32 rfl ?_
          refine WP_aload_n dX11_is_33 rfl ?_
          refine WS_call hz (i := i) (by omega) dX11_is_34 ⟨⟨by decide, by decide⟩, zJ0_length_8abf5⟩ lX11_40 vJ0_length_8abf5 (As := []) (rest := [.int i1293]) (j_length hz (i := i) (by omega)) rfl rfl (Nat.le_of_ble_eq_true rfl) ?_
          intro r Ia Ja Ra hq
          obtain ⟨⟨ea, eb, ec⟩, v1295, rfl, cv1295⟩ := hq
          show WP _ _ _ _ (.int _ :: _) _ _ _ _
          rw [ea, eb, ec]
          clear ea eb ec Ia Ja Ra
          have lv1295 := (li_len (i) (by omega)).2.2
          refine WQ_icmp_ge 75 dX11_is_37 rfl (fun c1295 => ?_) (fun c1295 => ?_)
          · refine WP_iload_n dX11_is_75 rfl ?_
            exact WP_zret dX11_is_76 rfl (nar_z (by omega)) ⟨⟨rfl, rfl, rfl⟩, i1292, rfl, by
              try simp only [ew1249, ew1250, ew1251, ew1252]
              rcases i01 with z | z
              · exact Or.inr ⟨z, i0 z⟩
              · obtain ⟨i1a, i1b, i1c⟩ := i1 z
                refine Or.inl ⟨z, i1a, ?_⟩
                have hj : j = liN.getD i 0 := by omega
                rw [← lw]
                unfold tW
                rw [i1b]
                exact wI_ext (fun q hq => by rw [Nat.zero_add]; exact i1c q (by omega))⟩
          · refine WP_iload_n dX11_is_40 rfl ?_
            refine WQ_if_eq 75 dX11_is_41 rfl (fun c1296 => ?_) (fun c1296 => ?_)
            · refine WP_iload_n dX11_is_75 rfl ?_
              exact WP_zret dX11_is_76 rfl (nar_z (by omega)) ⟨⟨rfl, rfl, rfl⟩, i1292, rfl, by
                try simp only [ew1249, ew1250, ew1251, ew1252]
                rcases i01 with z | z
                · exact Or.inr ⟨z, i0 z⟩
                · obtain ⟨i1a, i1b, i1c⟩ := i1 z
                  refine Or.inl ⟨z, i1a, ?_⟩
                  have hj : j = liN.getD i 0 := by omega
                  rw [← lw]
                  unfold tW
                  rw [i1b]
                  exact wI_ext (fun q hq => by rw [Nat.zero_add]; exact i1c q (by omega))⟩
            · obtain ⟨i1a, i1b, i1c⟩ := i1 (by omega)
              have hTB := hT.2
              refine WP_aload_n dX11_is_44 rfl ?_
              refine WP_getr dX11_is_45 fX11_16 rfl (ly_is hy 0 11 rfl) (rf hr 0 0 1 (by decide)) ?_
              refine WP_aload_n dX11_is_48 rfl ?_
              refine WQ_getim dX11_is_49 fX11_7 rfl (ly_is hy 0 11 rfl) ew1250 ?_
              refine WP_iload_n dX11_is_52 rfl ?_
              refine WQ_iadd dX11_is_53 (by omega) (by omega) (fun v1298 hv1298 => ?_)
              refine WE_ba dX11_is_54 (ly_is hy 1 12 rfl) (ly_n hy 1 900 rfl) (by omega) (by omega) (fun v1299 ev1299 => ?_)
              have hb54 : v1299.toInt = B (tF B n p + j) := by rw [← ev1299, show v1298.toInt.toNat = tF B n p + j by omega]; exact hTB _ (by omega)
              refine WP_aload_n dX11_is_55 rfl ?_
              refine WP_iload_n dX11_is_56 rfl ?_
              refine WS_call hz (i := i) (by omega) dX11_is_57 ⟨⟨by decide, by decide⟩, zJ0_charAt_5068e⟩ lX11_45 vJ0_charAt_5068e (As := [.int i1293]) (rest := [.int v1299]) (j_charAt hz (i := i) (k := i1293) (by omega) (by omega) (by omega)) rfl rfl (Nat.le_of_ble_eq_true rfl) ?_
              intro r Ia Ja Ra hq
              obtain ⟨⟨ea, eb, ec⟩, v1300, rfl, cv1300⟩ := hq
              show WP _ _ _ _ (.int _ :: _) _ _ _ _
              rw [ea, eb, ec]
              clear ea eb ec Ia Ja Ra
              have hb60 : v1300.toInt = LBx i j := by rw [cv1300, show i1293.toInt.toNat = j by omega]; rfl
              refine WQ_icmp_ne 67 dX11_is_60 rfl (fun c1300 => ?_) (fun c1300 => ?_)
              · refine WQ_iconst (0) (0) dX11_is_67 rfl rfl (fun v1302 hv1302 => ?_)
                refine WP_istore_n (ls' := [(0, _), (1, _), (2, _), (3, _)]) dX11_is_68 (by decide) rfl ?_
                refine WP_iinc (ls' := [(0, _), (1, _), (2, _), (3, _)]) dX11_is_69 rfl (by decide) rfl ?_
                have hv1303 : (i1293 + Int32.ofInt (1)).toInt = i1293.toInt + (1) := ia_n rfl (by omega) (by omega)
                generalize i1293 + Int32.ofInt (1) = v1303 at hv1303 ⊢
                refine WP_goto 32 dX11_is_72 rfl ?_
                refine WP_sub (fc rfl (fc rfl (fc rfl (fc rfl fn)))) (ihlp1294 v1302 v1303  ?_ ?_)
                · try simp only [ew1249, ew1250, ew1251, ew1252]
                  refine ⟨j + 1, by omega, by omega, by omega, fun z => ?_, fun z => ?_⟩
                  · first
                    | exact absurd z (by omega)
                    | (rintro ⟨z1, z2⟩
                       obtain ⟨w1, w2, w3, w4⟩ := tok_w hp z1
                       have wj := wI_inj (B := B) (a := tF B n p) (k := tT B n p - tF B n p) (B' := LBx i) (a' := 0) (k' := liN.getD i 0) (fun q hq => w4 _ (by omega) (by omega)) (fun q hq => by rw [Nat.zero_add]; exact ll q hq) (by rw [lw]; exact z2)
                       have wz := wj.2 j (by omega)
                       rw [Nat.zero_add] at wz
                       omega)
                  · first
                    | exact absurd z (by omega)
                    | (refine ⟨by omega, by omega, fun q hq => ?_⟩; by_cases e : q = j; (· subst e; omega); (· exact i1c q (by omega)))
                · try simp only [ew1249, ew1250, ew1251, ew1252]
                  omega
              · refine WQ_iconst (1) (1) dX11_is_63 rfl rfl (fun v1304 hv1304 => ?_)
                refine WP_goto 68 dX11_is_64 rfl ?_
                refine WP_istore_n (ls' := [(0, _), (1, _), (2, _), (3, _)]) dX11_is_68 (by decide) rfl ?_
                refine WP_iinc (ls' := [(0, _), (1, _), (2, _), (3, _)]) dX11_is_69 rfl (by decide) rfl ?_
                have hv1305 : (i1293 + Int32.ofInt (1)).toInt = i1293.toInt + (1) := ia_n rfl (by omega) (by omega)
                generalize i1293 + Int32.ofInt (1) = v1305 at hv1305 ⊢
                refine WP_goto 32 dX11_is_72 rfl ?_
                refine WP_sub (fc rfl (fc rfl (fc rfl (fc rfl fn)))) (ihlp1294 v1304 v1305  ?_ ?_)
                · try simp only [ew1249, ew1250, ew1251, ew1252]
                  refine ⟨j + 1, by omega, by omega, by omega, fun z => ?_, fun z => ?_⟩
                  · first
                    | exact absurd z (by omega)
                    | (rintro ⟨z1, z2⟩
                       obtain ⟨w1, w2, w3, w4⟩ := tok_w hp z1
                       have wj := wI_inj (B := B) (a := tF B n p) (k := tT B n p - tF B n p) (B' := LBx i) (a' := 0) (k' := liN.getD i 0) (fun q hq => w4 _ (by omega) (by omega)) (fun q hq => by rw [Nat.zero_add]; exact ll q hq) (by rw [lw]; exact z2)
                       have wz := wj.2 j (by omega)
                       rw [Nat.zero_add] at wz
                       omega)
                  · first
                    | exact absurd z (by omega)
                    | (refine ⟨by omega, by omega, fun q hq => ?_⟩; by_cases e : q = j; (· subst e; omega); (· exact i1c q (by omega)))
                · try simp only [ew1249, ew1250, ew1251, ew1252]
                  omega
      refine WP_sub (fc rfl (fc rfl (fc rfl (fc rfl fn)))) (lp1294 _ v1290 v1291  ?_ (Nat.lt_succ_self _))
      · try simp only [ew1249, ew1250, ew1251, ew1252]
        refine ⟨0, by omega, by omega, by omega, fun z => ?_, fun z => ?_⟩
        · first
          | exact absurd z (by omega)
          | (rintro ⟨z1, z2⟩
             obtain ⟨w1, w2, w3, w4⟩ := tok_w hp z1
             have wj := wI_inj (B := B) (a := tF B n p) (k := tT B n p - tF B n p) (B' := LBx i) (a' := 0) (k' := liN.getD i 0) (fun q hq => w4 _ (by omega) (by omega)) (fun q hq => by rw [Nat.zero_add]; exact ll q hq) (by rw [lw]; exact z2)
             omega)
          | (rintro ⟨z1, z2⟩; omega)
        · first
          | exact absurd z (by omega)
          | exact ⟨by omega, by omega, fun q hq => absurd hq (Nat.not_lt_zero _)⟩
