set_option maxHeartbeats 4000000 in
set_option maxRecDepth 100000 in
theorem sm_is {g : GG} {n : Int} {L : Int32} (hy : Ly g) {aK aV : Nat → Nat} {fo : Option Nat} (hz : HZ g aK aV fo)  {I : pI} {J : pJ} {R : pR} (hr : Rf g R) (hI : MP g n L I) (ii : Nat) (ii_lt : ii < 32) : SP g mX11_is [.ref (ad g 0), .ref (aK (ii))] I J R (fun r I' J' R' => (I' = I ∧ J' = J ∧ R' = R) ∧ ∃ v : Int32, r = some (.int v) ∧ 0 ≤ v.toInt ∧ v.toInt ≤ 1) := by
  refine SP_of ⟨by decide, rfl⟩ (Nat.le_of_ble_eq_true rfl) ?_
  have e8897 : I (ad g 0) 1 = L := hI.1.2
  have b8898 := BT_get hI.1.1 0 1 2 (0) (0) (900) (by decide) 1 (by decide) (by decide)
  rw [e8897] at b8898
  obtain ⟨w8899, ew8899⟩ : ∃ w : Int32, I (ad g 0) 3 = w := ⟨_, rfl⟩
  have bw8899 := BT_get hI.1.1 0 3 4 (0) (0) (900) (by decide) 3 (by decide) (by decide)
  rw [ew8899] at bw8899
  obtain ⟨w8900, ew8900⟩ : ∃ w : Int32, I (ad g 0) 4 = w := ⟨_, rfl⟩
  have bw8900 := BT_get hI.1.1 0 4 5 (0) (0) (900) (by decide) 4 (by decide) (by decide)
  rw [ew8900] at bw8900
  have l5 := (li_len ii ii_lt).2.2
  refine WP_aload_n dX11_is_0 rfl ?_
  refine WQ_geti dX11_is_1 fX11_27 rfl (ly_is hy 0 11 rfl) (BT_get hI.1.1 0 5 6 (0) (0) (4) (by decide) 5 (by decide) (by decide)) (fun v8901 ev8901 av8901 bv8901 => ?_)
  refine WQ_iconst (1) (1) dX11_is_4 rfl rfl (fun v8902 hv8902 => ?_)
  refine WQ_icmp_ne 28 dX11_is_5 rfl (fun c8902 => ?_) (fun c8902 => ?_)
  · refine WQ_iconst (0) (0) dX11_is_28 rfl rfl (fun v8904 hv8904 => ?_)
    refine WP_istore_n (ls' := [(0, _), (1, _), (2, _)]) dX11_is_29 (by decide) rfl ?_
    refine WQ_iconst (0) (0) dX11_is_30 rfl rfl (fun v8905 hv8905 => ?_)
    refine WP_istore_n (ls' := [(0, _), (1, _), (2, _), (3, _)]) dX11_is_31 (by decide) rfl ?_
    have lp32_8907 : ∀ (mz : Nat) (i8906 : Int32) (i8907 : Int32), 0 ≤ i8906.toInt → i8906.toInt ≤ 1 → 0 ≤ i8907.toInt → i8907.toInt ≤ 5 → (i8906.toInt = 0 ∨ w8900.toInt - w8899.toInt = ((liN.getD ii 0 : Nat) : Int)) → (6 - i8907.toInt).toNat < mz → WP g mX11_is 32 [(0, .ref (ad g 0)), (1, .ref (aK (ii))), (2, .int i8906), (3, .int i8907)] [] I J R (fun r I' J' R' => (I' = I ∧ J' = J ∧ R' = R) ∧ ∃ v : Int32, r = some (.int v) ∧ 0 ≤ v.toInt ∧ v.toInt ≤ 1) := by
      intro mz
      induction mz with
      | zero =>
        intro i8906 i8907 ai8906 bi8906 ai8907 bi8907 j0_I hmlp32_8907
        exact absurd hmlp32_8907 (Nat.not_lt_zero _)
      | succ mz ihlp32_8907 =>
        intro i8906 i8907 ai8906 bi8906 ai8907 bi8907 j0_I hmlp32_8907
        refine WP_iload_n dX11_is_32 rfl ?_
        refine WP_aload_n dX11_is_33 rfl ?_
        refine WS_call hz (i := ii) (by omega) dX11_is_34 ⟨⟨by decide, by decide⟩, zJ0_length_8abf5⟩ lX11_40 vJ0_length_8abf5 (As := []) (rest := [.int i8907]) (j_length hz (i := ii) (by omega)) rfl rfl (Nat.le_of_ble_eq_true rfl) ?_
        intro r Ia Ja Ra hq
        obtain ⟨⟨ea, eb, ec⟩, v8909, rfl, cv8909⟩ := hq
        show WP _ _ _ _ (.int _ :: _) _ _ _ _
        rw [ea, eb, ec]
        clear ea eb ec Ia Ja Ra
        have lv8909 := (li_len (ii) (by omega)).2.2
        refine WQ_icmp_ge 75 dX11_is_37 rfl (fun c8909 => ?_) (fun c8909 => ?_)
        · refine WP_iload_n dX11_is_75 rfl ?_
          exact WP_zret dX11_is_76 rfl (nar_z (by omega)) ⟨⟨rfl, rfl, rfl⟩, _, rfl, by omega, by omega⟩
        · refine WP_iload_n dX11_is_40 rfl ?_
          refine WQ_if_eq 75 dX11_is_41 rfl (fun c8910 => ?_) (fun c8910 => ?_)
          · refine WP_iload_n dX11_is_75 rfl ?_
            exact WP_zret dX11_is_76 rfl (nar_z (by omega)) ⟨⟨rfl, rfl, rfl⟩, _, rfl, by omega, by omega⟩
          · refine WP_aload_n dX11_is_44 rfl ?_
            refine WP_getr dX11_is_45 fX11_16 rfl (ly_is hy 0 11 rfl) (rf hr 0 0 1 (by decide)) ?_
            refine WP_aload_n dX11_is_48 rfl ?_
            refine WQ_getim dX11_is_49 fX11_7 rfl (ly_is hy 0 11 rfl) ew8899 ?_
            refine WP_iload_n dX11_is_52 rfl ?_
            refine WQ_iadd dX11_is_53 (by omega) (by omega) (fun v8912 hv8912 => ?_)
            refine WQ_baldu dX11_is_54 (ly_is hy 1 12 rfl) (ly_n hy 1 900 rfl) (by omega) (by omega) (fun v8913 => ?_)
            refine WP_aload_n dX11_is_55 rfl ?_
            refine WP_iload_n dX11_is_56 rfl ?_
            refine WS_call hz (i := ii) (by omega) dX11_is_57 ⟨⟨by decide, by decide⟩, zJ0_charAt_5068e⟩ lX11_45 vJ0_charAt_5068e (As := [.int i8907]) (rest := [.int v8913]) (j_charAt hz (i := ii) (k := i8907) (by omega) (by omega) (by omega)) rfl rfl (Nat.le_of_ble_eq_true rfl) ?_
            intro r Ia Ja Ra hq
            obtain ⟨⟨ea, eb, ec⟩, v8914, rfl, cv8914⟩ := hq
            show WP _ _ _ _ (.int _ :: _) _ _ _ _
            rw [ea, eb, ec]
            clear ea eb ec Ia Ja Ra
            have jn68_8917 : ∀ (v8917 : Int32), 0 ≤ v8917.toInt → v8917.toInt ≤ 1 → WP g mX11_is 68 [(0, .ref (ad g 0)), (1, .ref (aK (ii))), (2, .int i8906), (3, .int i8907)] [.int v8917] I J R (fun r I' J' R' => (I' = I ∧ J' = J ∧ R' = R) ∧ ∃ v : Int32, r = some (.int v) ∧ 0 ≤ v.toInt ∧ v.toInt ≤ 1) := by
              intro v8917 av8917 bv8917
              refine WP_istore_n (ls' := [(0, _), (1, _), (2, _), (3, _)]) dX11_is_68 (by decide) rfl ?_
              refine WP_iinc (ls' := [(0, _), (1, _), (2, _), (3, _)]) dX11_is_69 rfl (by decide) rfl ?_
              have hv8919 : (i8907 + Int32.ofInt (1)).toInt = i8907.toInt + (1) := ia_n rfl (by omega) (by omega)
              generalize i8907 + Int32.ofInt (1) = v8919 at hv8919 ⊢
              refine WP_goto 32 dX11_is_72 rfl ?_
              exact WP_sub (fc rfl (fc rfl (fc rfl (fc rfl fn)))) (ihlp32_8907 v8917 v8919 (by omega) (by omega) (by omega) (by omega) (by omega) (by omega))
            refine WQ_icmp_ne 67 dX11_is_60 rfl (fun c8919 => ?_) (fun c8919 => ?_)
            · refine WQ_iconst (0) (0) dX11_is_67 rfl rfl (fun v8921 hv8921 => ?_)
              exact WP_sub (fc rfl (fc rfl (fc rfl (fc rfl fn)))) (jn68_8917 v8921 (by omega) (by omega))
            · refine WQ_iconst (1) (1) dX11_is_63 rfl rfl (fun v8922 hv8922 => ?_)
              refine WP_goto 68 dX11_is_64 rfl ?_
              exact WP_sub (fc rfl (fc rfl (fc rfl (fc rfl fn)))) (jn68_8917 v8922 (by omega) (by omega))
    exact WP_sub (fc rfl (fc rfl (fc rfl (fc rfl fn)))) (lp32_8907 _ v8904 v8905 (by omega) (by omega) (by omega) (by omega) (by omega) (Nat.lt_succ_self _))
  · refine WP_aload_n dX11_is_8 rfl ?_
    refine WQ_getim dX11_is_9 fX11_20 rfl (ly_is hy 0 11 rfl) ew8900 ?_
    refine WP_aload_n dX11_is_12 rfl ?_
    refine WQ_getim dX11_is_13 fX11_7 rfl (ly_is hy 0 11 rfl) ew8899 ?_
    refine WQ_isub dX11_is_16 (by omega) (by omega) (fun v8923 hv8923 => ?_)
    refine WP_aload_n dX11_is_17 rfl ?_
    refine WS_call hz (i := ii) (by omega) dX11_is_18 ⟨⟨by decide, by decide⟩, zJ0_length_8abf5⟩ lX11_40 vJ0_length_8abf5 (As := []) (rest := [.int v8923]) (j_length hz (i := ii) (by omega)) rfl rfl (Nat.le_of_ble_eq_true rfl) ?_
    intro r Ia Ja Ra hq
    obtain ⟨⟨ea, eb, ec⟩, v8924, rfl, cv8924⟩ := hq
    show WP _ _ _ _ (.int _ :: _) _ _ _ _
    rw [ea, eb, ec]
    clear ea eb ec Ia Ja Ra
    have lv8924 := (li_len (ii) (by omega)).2.2
    refine WQ_icmp_ne 28 dX11_is_21 rfl (fun c8924 => ?_) (fun c8924 => ?_)
    · refine WQ_iconst (0) (0) dX11_is_28 rfl rfl (fun v8926 hv8926 => ?_)
      refine WP_istore_n (ls' := [(0, _), (1, _), (2, _)]) dX11_is_29 (by decide) rfl ?_
      refine WQ_iconst (0) (0) dX11_is_30 rfl rfl (fun v8927 hv8927 => ?_)
      refine WP_istore_n (ls' := [(0, _), (1, _), (2, _), (3, _)]) dX11_is_31 (by decide) rfl ?_
      have lp32_8929 : ∀ (mz : Nat) (i8928 : Int32) (i8929 : Int32), 0 ≤ i8928.toInt → i8928.toInt ≤ 1 → 0 ≤ i8929.toInt → i8929.toInt ≤ 5 → (i8928.toInt = 0 ∨ w8900.toInt - w8899.toInt = ((liN.getD ii 0 : Nat) : Int)) → (6 - i8929.toInt).toNat < mz → WP g mX11_is 32 [(0, .ref (ad g 0)), (1, .ref (aK (ii))), (2, .int i8928), (3, .int i8929)] [] I J R (fun r I' J' R' => (I' = I ∧ J' = J ∧ R' = R) ∧ ∃ v : Int32, r = some (.int v) ∧ 0 ≤ v.toInt ∧ v.toInt ≤ 1) := by
        intro mz
        induction mz with
        | zero =>
          intro i8928 i8929 ai8928 bi8928 ai8929 bi8929 j0_I hmlp32_8929
          exact absurd hmlp32_8929 (Nat.not_lt_zero _)
        | succ mz ihlp32_8929 =>
          intro i8928 i8929 ai8928 bi8928 ai8929 bi8929 j0_I hmlp32_8929
          refine WP_iload_n dX11_is_32 rfl ?_
          refine WP_aload_n dX11_is_33 rfl ?_
          refine WS_call hz (i := ii) (by omega) dX11_is_34 ⟨⟨by decide, by decide⟩, zJ0_length_8abf5⟩ lX11_40 vJ0_length_8abf5 (As := []) (rest := [.int i8929]) (j_length hz (i := ii) (by omega)) rfl rfl (Nat.le_of_ble_eq_true rfl) ?_
          intro r Ia Ja Ra hq
          obtain ⟨⟨ea, eb, ec⟩, v8931, rfl, cv8931⟩ := hq
          show WP _ _ _ _ (.int _ :: _) _ _ _ _
          rw [ea, eb, ec]
          clear ea eb ec Ia Ja Ra
          have lv8931 := (li_len (ii) (by omega)).2.2
          refine WQ_icmp_ge 75 dX11_is_37 rfl (fun c8931 => ?_) (fun c8931 => ?_)
          · refine WP_iload_n dX11_is_75 rfl ?_
            exact WP_zret dX11_is_76 rfl (nar_z (by omega)) ⟨⟨rfl, rfl, rfl⟩, _, rfl, by omega, by omega⟩
          · refine WP_iload_n dX11_is_40 rfl ?_
            refine WQ_if_eq 75 dX11_is_41 rfl (fun c8932 => ?_) (fun c8932 => ?_)
            · refine WP_iload_n dX11_is_75 rfl ?_
              exact WP_zret dX11_is_76 rfl (nar_z (by omega)) ⟨⟨rfl, rfl, rfl⟩, _, rfl, by omega, by omega⟩
            · refine WP_aload_n dX11_is_44 rfl ?_
              refine WP_getr dX11_is_45 fX11_16 rfl (ly_is hy 0 11 rfl) (rf hr 0 0 1 (by decide)) ?_
              refine WP_aload_n dX11_is_48 rfl ?_
              refine WQ_getim dX11_is_49 fX11_7 rfl (ly_is hy 0 11 rfl) ew8899 ?_
              refine WP_iload_n dX11_is_52 rfl ?_
              refine WQ_iadd dX11_is_53 (by omega) (by omega) (fun v8934 hv8934 => ?_)
              refine WQ_baldu dX11_is_54 (ly_is hy 1 12 rfl) (ly_n hy 1 900 rfl) (by omega) (by omega) (fun v8935 => ?_)
              refine WP_aload_n dX11_is_55 rfl ?_
              refine WP_iload_n dX11_is_56 rfl ?_
              refine WS_call hz (i := ii) (by omega) dX11_is_57 ⟨⟨by decide, by decide⟩, zJ0_charAt_5068e⟩ lX11_45 vJ0_charAt_5068e (As := [.int i8929]) (rest := [.int v8935]) (j_charAt hz (i := ii) (k := i8929) (by omega) (by omega) (by omega)) rfl rfl (Nat.le_of_ble_eq_true rfl) ?_
              intro r Ia Ja Ra hq
              obtain ⟨⟨ea, eb, ec⟩, v8936, rfl, cv8936⟩ := hq
              show WP _ _ _ _ (.int _ :: _) _ _ _ _
              rw [ea, eb, ec]
              clear ea eb ec Ia Ja Ra
              have jn68_8939 : ∀ (v8939 : Int32), 0 ≤ v8939.toInt → v8939.toInt ≤ 1 → WP g mX11_is 68 [(0, .ref (ad g 0)), (1, .ref (aK (ii))), (2, .int i8928), (3, .int i8929)] [.int v8939] I J R (fun r I' J' R' => (I' = I ∧ J' = J ∧ R' = R) ∧ ∃ v : Int32, r = some (.int v) ∧ 0 ≤ v.toInt ∧ v.toInt ≤ 1) := by
                intro v8939 av8939 bv8939
                refine WP_istore_n (ls' := [(0, _), (1, _), (2, _), (3, _)]) dX11_is_68 (by decide) rfl ?_
                refine WP_iinc (ls' := [(0, _), (1, _), (2, _), (3, _)]) dX11_is_69 rfl (by decide) rfl ?_
                have hv8941 : (i8929 + Int32.ofInt (1)).toInt = i8929.toInt + (1) := ia_n rfl (by omega) (by omega)
                generalize i8929 + Int32.ofInt (1) = v8941 at hv8941 ⊢
                refine WP_goto 32 dX11_is_72 rfl ?_
                exact WP_sub (fc rfl (fc rfl (fc rfl (fc rfl fn)))) (ihlp32_8929 v8939 v8941 (by omega) (by omega) (by omega) (by omega) (by omega) (by omega))
              refine WQ_icmp_ne 67 dX11_is_60 rfl (fun c8941 => ?_) (fun c8941 => ?_)
              · refine WQ_iconst (0) (0) dX11_is_67 rfl rfl (fun v8943 hv8943 => ?_)
                exact WP_sub (fc rfl (fc rfl (fc rfl (fc rfl fn)))) (jn68_8939 v8943 (by omega) (by omega))
              · refine WQ_iconst (1) (1) dX11_is_63 rfl rfl (fun v8944 hv8944 => ?_)
                refine WP_goto 68 dX11_is_64 rfl ?_
                exact WP_sub (fc rfl (fc rfl (fc rfl (fc rfl fn)))) (jn68_8939 v8944 (by omega) (by omega))
      exact WP_sub (fc rfl (fc rfl (fc rfl (fc rfl fn)))) (lp32_8929 _ v8926 v8927 (by omega) (by omega) (by omega) (by omega) (by omega) (Nat.lt_succ_self _))
    · refine WQ_iconst (1) (1) dX11_is_24 rfl rfl (fun v8945 hv8945 => ?_)
      refine WP_goto 29 dX11_is_25 rfl ?_
      refine WP_istore_n (ls' := [(0, _), (1, _), (2, _)]) dX11_is_29 (by decide) rfl ?_
      refine WQ_iconst (0) (0) dX11_is_30 rfl rfl (fun v8946 hv8946 => ?_)
      refine WP_istore_n (ls' := [(0, _), (1, _), (2, _), (3, _)]) dX11_is_31 (by decide) rfl ?_
      have lp32_8948 : ∀ (mz : Nat) (i8947 : Int32) (i8948 : Int32), 0 ≤ i8947.toInt → i8947.toInt ≤ 1 → 0 ≤ i8948.toInt → i8948.toInt ≤ 5 → (i8947.toInt = 0 ∨ w8900.toInt - w8899.toInt = ((liN.getD ii 0 : Nat) : Int)) → (6 - i8948.toInt).toNat < mz → WP g mX11_is 32 [(0, .ref (ad g 0)), (1, .ref (aK (ii))), (2, .int i8947), (3, .int i8948)] [] I J R (fun r I' J' R' => (I' = I ∧ J' = J ∧ R' = R) ∧ ∃ v : Int32, r = some (.int v) ∧ 0 ≤ v.toInt ∧ v.toInt ≤ 1) := by
        intro mz
        induction mz with
        | zero =>
          intro i8947 i8948 ai8947 bi8947 ai8948 bi8948 j0_I hmlp32_8948
          exact absurd hmlp32_8948 (Nat.not_lt_zero _)
        | succ mz ihlp32_8948 =>
          intro i8947 i8948 ai8947 bi8947 ai8948 bi8948 j0_I hmlp32_8948
          refine WP_iload_n dX11_is_32 rfl ?_
          refine WP_aload_n dX11_is_33 rfl ?_
          refine WS_call hz (i := ii) (by omega) dX11_is_34 ⟨⟨by decide, by decide⟩, zJ0_length_8abf5⟩ lX11_40 vJ0_length_8abf5 (As := []) (rest := [.int i8948]) (j_length hz (i := ii) (by omega)) rfl rfl (Nat.le_of_ble_eq_true rfl) ?_
          intro r Ia Ja Ra hq
          obtain ⟨⟨ea, eb, ec⟩, v8950, rfl, cv8950⟩ := hq
          show WP _ _ _ _ (.int _ :: _) _ _ _ _
          rw [ea, eb, ec]
          clear ea eb ec Ia Ja Ra
          have lv8950 := (li_len (ii) (by omega)).2.2
          refine WQ_icmp_ge 75 dX11_is_37 rfl (fun c8950 => ?_) (fun c8950 => ?_)
          · refine WP_iload_n dX11_is_75 rfl ?_
            exact WP_zret dX11_is_76 rfl (nar_z (by omega)) ⟨⟨rfl, rfl, rfl⟩, _, rfl, by omega, by omega⟩
          · refine WP_iload_n dX11_is_40 rfl ?_
            refine WQ_if_eq 75 dX11_is_41 rfl (fun c8951 => ?_) (fun c8951 => ?_)
            · refine WP_iload_n dX11_is_75 rfl ?_
              exact WP_zret dX11_is_76 rfl (nar_z (by omega)) ⟨⟨rfl, rfl, rfl⟩, _, rfl, by omega, by omega⟩
            · refine WP_aload_n dX11_is_44 rfl ?_
              refine WP_getr dX11_is_45 fX11_16 rfl (ly_is hy 0 11 rfl) (rf hr 0 0 1 (by decide)) ?_
              refine WP_aload_n dX11_is_48 rfl ?_
              refine WQ_getim dX11_is_49 fX11_7 rfl (ly_is hy 0 11 rfl) ew8899 ?_
              refine WP_iload_n dX11_is_52 rfl ?_
              refine WQ_iadd dX11_is_53 (by omega) (by omega) (fun v8953 hv8953 => ?_)
              refine WQ_baldu dX11_is_54 (ly_is hy 1 12 rfl) (ly_n hy 1 900 rfl) (by omega) (by omega) (fun v8954 => ?_)
              refine WP_aload_n dX11_is_55 rfl ?_
              refine WP_iload_n dX11_is_56 rfl ?_
              refine WS_call hz (i := ii) (by omega) dX11_is_57 ⟨⟨by decide, by decide⟩, zJ0_charAt_5068e⟩ lX11_45 vJ0_charAt_5068e (As := [.int i8948]) (rest := [.int v8954]) (j_charAt hz (i := ii) (k := i8948) (by omega) (by omega) (by omega)) rfl rfl (Nat.le_of_ble_eq_true rfl) ?_
              intro r Ia Ja Ra hq
              obtain ⟨⟨ea, eb, ec⟩, v8955, rfl, cv8955⟩ := hq
              show WP _ _ _ _ (.int _ :: _) _ _ _ _
              rw [ea, eb, ec]
              clear ea eb ec Ia Ja Ra
              have jn68_8958 : ∀ (v8958 : Int32), 0 ≤ v8958.toInt → v8958.toInt ≤ 1 → WP g mX11_is 68 [(0, .ref (ad g 0)), (1, .ref (aK (ii))), (2, .int i8947), (3, .int i8948)] [.int v8958] I J R (fun r I' J' R' => (I' = I ∧ J' = J ∧ R' = R) ∧ ∃ v : Int32, r = some (.int v) ∧ 0 ≤ v.toInt ∧ v.toInt ≤ 1) := by
                intro v8958 av8958 bv8958
                refine WP_istore_n (ls' := [(0, _), (1, _), (2, _), (3, _)]) dX11_is_68 (by decide) rfl ?_
                refine WP_iinc (ls' := [(0, _), (1, _), (2, _), (3, _)]) dX11_is_69 rfl (by decide) rfl ?_
                have hv8960 : (i8948 + Int32.ofInt (1)).toInt = i8948.toInt + (1) := ia_n rfl (by omega) (by omega)
                generalize i8948 + Int32.ofInt (1) = v8960 at hv8960 ⊢
                refine WP_goto 32 dX11_is_72 rfl ?_
                exact WP_sub (fc rfl (fc rfl (fc rfl (fc rfl fn)))) (ihlp32_8948 v8958 v8960 (by omega) (by omega) (by omega) (by omega) (by omega) (by omega))
              refine WQ_icmp_ne 67 dX11_is_60 rfl (fun c8960 => ?_) (fun c8960 => ?_)
              · refine WQ_iconst (0) (0) dX11_is_67 rfl rfl (fun v8962 hv8962 => ?_)
                exact WP_sub (fc rfl (fc rfl (fc rfl (fc rfl fn)))) (jn68_8958 v8962 (by omega) (by omega))
              · refine WQ_iconst (1) (1) dX11_is_63 rfl rfl (fun v8963 hv8963 => ?_)
                refine WP_goto 68 dX11_is_64 rfl ?_
                exact WP_sub (fc rfl (fc rfl (fc rfl (fc rfl fn)))) (jn68_8958 v8963 (by omega) (by omega))
      exact WP_sub (fc rfl (fc rfl (fc rfl (fc rfl fn)))) (lp32_8948 _ v8945 v8946 (by omega) (by omega) (by omega) (by omega) (by omega) (Nat.lt_succ_self _))
set_option maxHeartbeats 4000000 in
set_option maxRecDepth 100000 in
theorem sm_readOnce {g : GG} {n : Int} {L : Int32} (hy : Ly g) {aK aV : Nat → Nat} {fo : Option Nat} (hz : HZ g aK aV fo)  {I : pI} {J : pJ} {R : pR} (hr : Rf g R) (hI : MP g n L I)   (hb : ((I (ad g 0) 4).toInt ≤ (I (ad g 0) 2).toInt ∧ (I (ad g 0) 3).toInt ≤ (I (ad g 0) 4).toInt ∧ ((I (ad g 0) 5).toInt = 0 ∨ (I (ad g 0) 3).toInt < (I (ad g 0) 4).toInt)) ∧ (I (ad g 0) 17).toInt < (I (ad g 0) 15).toInt) (hw : WRt (I (ad g 30)) (I (ad g 31)) (7 * (I (ad g 0) 15).toInt)) : SP g mX11_readOnce [.ref (ad g 0)] I J R (fun r I' J' R' => (MP g n L I' ∧ R' = R ∧ fz 49 g [0] I I' ∧ (((I' (ad g 0) 4).toInt ≤ (I' (ad g 0) 2).toInt ∧ (I' (ad g 0) 3).toInt ≤ (I' (ad g 0) 4).toInt ∧ ((I' (ad g 0) 5).toInt = 0 ∨ (I' (ad g 0) 3).toInt < (I' (ad g 0) 4).toInt)) ∧ (I (ad g 0) 3).toInt ≤ (I' (ad g 0) 3).toInt ∧ (I' (ad g 0) 17).toInt < (I' (ad g 0) 15).toInt)) ∧ ∃ v : Int32, r = some (.int v) ∧ 0 ≤ v.toInt ∧ v.toInt ≤ 1 ∧ (v.toInt = 1 → WRt (I' (ad g 30)) (I' (ad g 31)) (7 * (I' (ad g 0) 15).toInt))) := by
  refine SP_of ⟨by decide, rfl⟩ (Nat.le_of_ble_eq_true rfl) ?_
  have e8964 : I (ad g 0) 1 = L := hI.1.2
  have b8965 := BT_get hI.1.1 0 1 2 (0) (0) (900) (by decide) 1 (by decide) (by decide)
  rw [e8964] at b8965
  have fr0 : fz 49 g [0] I I := fz_rf
  obtain ⟨w8966, ew8966⟩ : ∃ w : Int32, I (ad g 0) 2 = w := ⟨_, rfl⟩
  have bw8966 := BT_get hI.1.1 0 2 3 (0) (0) (900) (by decide) 2 (by decide) (by decide)
  rw [ew8966] at bw8966
  obtain ⟨w8967, ew8967⟩ : ∃ w : Int32, I (ad g 0) 3 = w := ⟨_, rfl⟩
  have bw8967 := BT_get hI.1.1 0 3 4 (0) (0) (900) (by decide) 3 (by decide) (by decide)
  rw [ew8967] at bw8967
  obtain ⟨w8968, ew8968⟩ : ∃ w : Int32, I (ad g 0) 4 = w := ⟨_, rfl⟩
  have bw8968 := BT_get hI.1.1 0 4 5 (0) (0) (900) (by decide) 4 (by decide) (by decide)
  rw [ew8968] at bw8968
  obtain ⟨w8969, ew8969⟩ : ∃ w : Int32, I (ad g 0) 5 = w := ⟨_, rfl⟩
  have bw8969 := BT_get hI.1.1 0 5 6 (0) (0) (4) (by decide) 5 (by decide) (by decide)
  rw [ew8969] at bw8969
  obtain ⟨w8970, ew8970⟩ : ∃ w : Int32, I (ad g 0) 15 = w := ⟨_, rfl⟩
  have bw8970 := BT_get hI.1.1 0 15 16 (0) (0) (4) (by decide) 15 (by decide) (by decide)
  rw [ew8970] at bw8970
  obtain ⟨w8971, ew8971⟩ : ∃ w : Int32, I (ad g 0) 17 = w := ⟨_, rfl⟩
  have bw8971 := BT_get hI.1.1 0 17 18 (-1) (0) (3) (by decide) 17 (by decide) (by decide)
  rw [ew8971] at bw8971
  rw [ew8966, ew8967, ew8968, ew8969, ew8970, ew8971] at hb
  refine WP_aload_n dX11_readOnce_0 rfl ?_
  refine WS_ldc hz 30 rfl dX11_readOnce_1 ?_
  refine WP_callV1 (k := 11) dX11_readOnce_3 ⟨⟨⟨by decide, by decide⟩, zX11_is⟩, lX11_152, by decide, rfl, vX11_is.1, vX11_is.2⟩ (ly_is hy 0 11 rfl) (sm_is hy hz hr hI (30) (by omega)) (Nat.le_of_ble_eq_true rfl) ?_
  intro r Ia Ja Ra hq
  obtain ⟨⟨ea, eb, ec⟩, v8972, rfl, av8972, bv8972⟩ := hq
  show WP _ _ _ _ (.int _ :: _) _ _ _ _
  rw [ea, eb, ec]
  clear ea eb ec Ia Ja Ra
  refine WP_istore_n (ls' := [(0, _), (1, _)]) dX11_readOnce_6 (by decide) rfl ?_
  refine WP_iload_n dX11_readOnce_7 rfl ?_
  refine WQ_if_ne 26 dX11_readOnce_8 rfl (fun c8972 => ?_) (fun c8972 => ?_)
  · refine WP_iload_n dX11_readOnce_26 rfl ?_
    refine WQ_if_eq 41 dX11_readOnce_27 rfl (fun c8973 => False.elim (by omega)) (fun c8973 => ?_)
    refine WP_aload_n dX11_readOnce_30 rfl ?_
    refine WQ_getim dX11_readOnce_31 fX11_158 rfl (ly_is hy 0 11 rfl) ew8971 ?_
    refine WQ_iconst (-1) (-1) dX11_readOnce_34 rfl rfl (fun v8975 hv8975 => ?_)
    refine WQ_icmp_eq 55 dX11_readOnce_35 rfl (fun c8975 => ?_) (fun c8975 => ?_)
    · refine WP_aload_n dX11_readOnce_55 rfl ?_
      refine WP_callV0 (k := 11) dX11_readOnce_56 ⟨⟨⟨by decide, by decide⟩, zX11_scan⟩, lX11_63, by decide, rfl, vX11_scan.1, vX11_scan.2⟩ (ly_is hy 0 11 rfl) (sm_scanx hy hr hI   (by rw [ew8968, ew8966]; omega)) (Nat.le_of_ble_eq_true rfl) ?_
      intro r I8977 J8978 Ra hq
      obtain ⟨⟨hI8977, ec, fiI8977, ⟨pI8977, sI8977_0_7, sI8977_0_15, sI8977_0_16, sI8977_0_17, sI8977_0_18⟩⟩, rfl⟩ := hq
      rw [ec]
      clear ec Ra
      have fr8979 : fz 49 g [0] I I8977 := fz_tr fr0 (fz_mono fiI8977 (by decide))
      have e8980 : I8977 (ad g 0) 15 = w8970 := by rw [sI8977_0_15]; exact ew8970
      have e8981 : I8977 (ad g 0) 17 = w8971 := by rw [sI8977_0_17]; exact ew8971
      have e8982 : I8977 (ad g 0) 1 = L := hI8977.1.2
      have b8983 := BT_get hI8977.1.1 0 1 2 (0) (0) (900) (by decide) 1 (by decide) (by decide)
      rw [e8982] at b8983
      obtain ⟨w8984, ew8984⟩ : ∃ w : Int32, I8977 (ad g 0) 2 = w := ⟨_, rfl⟩
      have bw8984 := BT_get hI8977.1.1 0 2 3 (0) (0) (900) (by decide) 2 (by decide) (by decide)
      rw [ew8984] at bw8984
      obtain ⟨w8985, ew8985⟩ : ∃ w : Int32, I8977 (ad g 0) 3 = w := ⟨_, rfl⟩
      have bw8985 := BT_get hI8977.1.1 0 3 4 (0) (0) (900) (by decide) 3 (by decide) (by decide)
      rw [ew8985] at bw8985
      obtain ⟨w8986, ew8986⟩ : ∃ w : Int32, I8977 (ad g 0) 4 = w := ⟨_, rfl⟩
      have bw8986 := BT_get hI8977.1.1 0 4 5 (0) (0) (900) (by decide) 4 (by decide) (by decide)
      rw [ew8986] at bw8986
      obtain ⟨w8987, ew8987⟩ : ∃ w : Int32, I8977 (ad g 0) 5 = w := ⟨_, rfl⟩
      have bw8987 := BT_get hI8977.1.1 0 5 6 (0) (0) (4) (by decide) 5 (by decide) (by decide)
      rw [ew8987] at bw8987
      rw [ew8984, ew8985, ew8986, ew8987, ew8968] at pI8977
      refine WP_iload_n dX11_readOnce_59 rfl ?_
      refine WQ_if_eq 81 dX11_readOnce_60 rfl (fun c8987 => False.elim (by omega)) (fun c8987 => ?_)
      refine WP_aload_n dX11_readOnce_63 rfl ?_
      refine WP_aload_n dX11_readOnce_64 rfl ?_
      refine WP_getr dX11_readOnce_65 fX11_91 rfl (ly_is hy 0 11 rfl) (rf hr 0 22 4 (by decide)) ?_
      refine WP_aload_n dX11_readOnce_68 rfl ?_
      refine WQ_getim dX11_readOnce_69 fX11_88 rfl (ly_is hy 0 11 rfl) e8980 ?_
      refine WP_callV2 (k := 11) dX11_readOnce_72 ⟨⟨⟨by decide, by decide⟩, zX11_known⟩, lX11_147, by decide, rfl, vX11_known.1, vX11_known.2⟩ (ly_is hy 0 11 rfl) (sm_knownx_4 hy hr hI8977 w8970 (by omega) (by omega) (by rw [ew8984, ew8985, ew8986, ew8987]; omega)) (Nat.le_of_ble_eq_true rfl) ?_
      intro r I8989 J8990 Ra hq
      obtain ⟨⟨hI8989, ec, fiI8989, ⟨pI8989, sI8989_0_15, sI8989_0_16, sI8989_0_17, sI8989_0_18⟩⟩, v8991, rfl, av8991, bv8991, cv8991⟩ := hq
      show WP _ _ _ _ (.int _ :: _) _ _ _ _
      rw [ec]
      clear ec Ra
      have fr8992 : fz 49 g [0] I I8989 := fz_tr fr8979 (fz_mono fiI8989 (by decide))
      have e8993 : I8989 (ad g 0) 15 = w8970 := by rw [sI8989_0_15]; exact e8980
      have e8994 : I8989 (ad g 0) 17 = w8971 := by rw [sI8989_0_17]; exact e8981
      have e8995 : I8989 (ad g 0) 1 = L := hI8989.1.2
      have b8996 := BT_get hI8989.1.1 0 1 2 (0) (0) (900) (by decide) 1 (by decide) (by decide)
      rw [e8995] at b8996
      obtain ⟨w8997, ew8997⟩ : ∃ w : Int32, I8989 (ad g 0) 2 = w := ⟨_, rfl⟩
      have bw8997 := BT_get hI8989.1.1 0 2 3 (0) (0) (900) (by decide) 2 (by decide) (by decide)
      rw [ew8997] at bw8997
      obtain ⟨w8998, ew8998⟩ : ∃ w : Int32, I8989 (ad g 0) 3 = w := ⟨_, rfl⟩
      have bw8998 := BT_get hI8989.1.1 0 3 4 (0) (0) (900) (by decide) 3 (by decide) (by decide)
      rw [ew8998] at bw8998
      obtain ⟨w8999, ew8999⟩ : ∃ w : Int32, I8989 (ad g 0) 4 = w := ⟨_, rfl⟩
      have bw8999 := BT_get hI8989.1.1 0 4 5 (0) (0) (900) (by decide) 4 (by decide) (by decide)
      rw [ew8999] at bw8999
      obtain ⟨w9000, ew9000⟩ : ∃ w : Int32, I8989 (ad g 0) 5 = w := ⟨_, rfl⟩
      have bw9000 := BT_get hI8989.1.1 0 5 6 (0) (0) (4) (by decide) 5 (by decide) (by decide)
      rw [ew9000] at bw9000
      rw [ew8997, ew8998, ew8999, ew9000, ew8985] at pI8989
      obtain ⟨w9001, ew9001⟩ : ∃ w : Int32, I8989 (ad g 0) 7 = w := ⟨_, rfl⟩
      have bw9001 := BT_get hI8989.1.1 0 7 8 (-1) (0) (1000) (by decide) 7 (by decide) (by decide)
      rw [ew9001] at bw9001
      rw [ew9001] at cv8991
      refine WQ_if_eq 96 dX11_readOnce_75 rfl (fun c9001 => ?_) (fun c9001 => ?_)
      · refine WQ_iconst (0) (0) dX11_readOnce_96 rfl rfl (fun v9003 hv9003 => ?_)
        exact WP_zret dX11_readOnce_97 rfl (nar_z (by omega)) ⟨⟨hI8989, rfl, fr8992, (by rw [ew8997, ew8998, ew8999, ew9000, e8993, e8994, ew8967]; omega)⟩, _, rfl, by omega, by omega, (fun h => False.elim (by omega))⟩
      · refine WP_goto 98 dX11_readOnce_78 rfl ?_
        refine WP_iload_n dX11_readOnce_98 rfl ?_
        refine WQ_if_eq 113 dX11_readOnce_99 rfl (fun c9003 => False.elim (by omega)) (fun c9003 => ?_)
        refine WP_aload_n dX11_readOnce_102 rfl ?_
        refine WP_aload_n dX11_readOnce_103 rfl ?_
        refine WQ_getim dX11_readOnce_104 fX11_56 rfl (ly_is hy 0 11 rfl) ew9001 ?_
        refine WQ_puti dX11_readOnce_107 fX11_158 rfl rfl (ly_is hy 0 11 rfl) (fun I9005 eI9005 => ?_)
        have hI9005 : MP g n L I9005 := by rw [eI9005]; exact (mp_w hy hI8989 (c := 0) (mi_f hy hI8989.1 (c := 0) (-1) (0) (3) (by decide) (Or.inr (by decide)) (by decide) (by omega) (by omega)) (by decide) (by decide) (Or.inr (by decide)))
        have e9006 : I9005 (ad g 0) 15 = w8970 := by rw [eI9005, pp_ne _ _ (Or.inr (by decide))]; exact e8993
        have e9007 : I9005 (ad g 0) 1 = L := by rw [eI9005, pp_ne _ _ (Or.inr (by decide))]; exact e8995
        have e9008 : I9005 (ad g 0) 2 = w8997 := by rw [eI9005, pp_ne _ _ (Or.inr (by decide))]; exact ew8997
        have e9009 : I9005 (ad g 0) 3 = w8998 := by rw [eI9005, pp_ne _ _ (Or.inr (by decide))]; exact ew8998
        have e9010 : I9005 (ad g 0) 4 = w8999 := by rw [eI9005, pp_ne _ _ (Or.inr (by decide))]; exact ew8999
        have e9011 : I9005 (ad g 0) 5 = w9000 := by rw [eI9005, pp_ne _ _ (Or.inr (by decide))]; exact ew9000
        have e9012 : I9005 (ad g 0) 7 = w9001 := by rw [eI9005, pp_ne _ _ (Or.inr (by decide))]; exact ew9001
        have e9013 : I9005 (ad g 0) 17 = w9001 := by rw [eI9005, pp_self]
        have fr9014 : fz 49 g [0] I I9005 := by rw [eI9005]; exact fzm_pp hy fr8992 (by decide) (by decide)
        clear eI9005
        refine WP_goto 121 dX11_readOnce_110 rfl ?_
        refine WQ_iconst (1) (1) dX11_readOnce_121 rfl rfl (fun v9015 hv9015 => ?_)
        exact WP_zret dX11_readOnce_122 rfl (nar_z (by omega)) ⟨⟨hI9005, rfl, fr9014, (by rw [e9008, e9009, e9010, e9011, e9006, e9013, ew8967]; omega)⟩, _, rfl, by omega, by omega, (fun _ => by rw [fz_at fr9014 30 (by decide) (by decide), fz_at fr9014 31 (by decide) (by decide), show I9005 (ad g 0) 15 = I (ad g 0) 15 from (by rw [e9006, ew8970] <;> exact (eq32 _ _).mpr (by omega))]; exact hw)⟩
    · refine WP_goto 49 dX11_readOnce_38 rfl ?_
      refine WP_aload_n dX11_readOnce_49 rfl ?_
      refine WQ_iconst (3) (3) dX11_readOnce_50 rfl rfl (fun v9016 hv9016 => ?_)
      refine WP_callV1 (k := 11) dX11_readOnce_51 ⟨⟨⟨by decide, by decide⟩, zX11_bad⟩, lX11_49, by decide, rfl, vX11_bad.1, vX11_bad.2⟩ (ly_is hy 0 11 rfl) (sm_badx hy hr hI v9016  (by rw [ew8966, ew8967, ew8968, ew8969]; omega)) (Nat.le_of_ble_eq_true rfl) ?_
      intro r I9017 J9018 Ra hq
      obtain ⟨⟨hI9017, ec, fiI9017, ⟨pI9017, sI9017_0_15, sI9017_0_16, sI9017_0_17, sI9017_0_18⟩⟩, v9019, rfl, av9019, bv9019⟩ := hq
      show WP _ _ _ _ (.int _ :: _) _ _ _ _
      rw [ec]
      clear ec Ra
      have fr9020 : fz 49 g [0] I I9017 := fz_tr fr0 (fz_mono fiI9017 (by decide))
      have e9021 : I9017 (ad g 0) 15 = w8970 := by rw [sI9017_0_15]; exact ew8970
      have e9022 : I9017 (ad g 0) 17 = w8971 := by rw [sI9017_0_17]; exact ew8971
      have e9023 : I9017 (ad g 0) 1 = L := hI9017.1.2
      have b9024 := BT_get hI9017.1.1 0 1 2 (0) (0) (900) (by decide) 1 (by decide) (by decide)
      rw [e9023] at b9024
      obtain ⟨w9025, ew9025⟩ : ∃ w : Int32, I9017 (ad g 0) 2 = w := ⟨_, rfl⟩
      have bw9025 := BT_get hI9017.1.1 0 2 3 (0) (0) (900) (by decide) 2 (by decide) (by decide)
      rw [ew9025] at bw9025
      obtain ⟨w9026, ew9026⟩ : ∃ w : Int32, I9017 (ad g 0) 3 = w := ⟨_, rfl⟩
      have bw9026 := BT_get hI9017.1.1 0 3 4 (0) (0) (900) (by decide) 3 (by decide) (by decide)
      rw [ew9026] at bw9026
      obtain ⟨w9027, ew9027⟩ : ∃ w : Int32, I9017 (ad g 0) 4 = w := ⟨_, rfl⟩
      have bw9027 := BT_get hI9017.1.1 0 4 5 (0) (0) (900) (by decide) 4 (by decide) (by decide)
      rw [ew9027] at bw9027
      obtain ⟨w9028, ew9028⟩ : ∃ w : Int32, I9017 (ad g 0) 5 = w := ⟨_, rfl⟩
      have bw9028 := BT_get hI9017.1.1 0 5 6 (0) (0) (4) (by decide) 5 (by decide) (by decide)
      rw [ew9028] at bw9028
      rw [ew9025, ew9026, ew9027, ew9028, ew8967] at pI9017
      exact WP_zret dX11_readOnce_54 rfl (nar_z (by omega)) ⟨⟨hI9017, rfl, fr9020, (by rw [ew9025, ew9026, ew9027, ew9028, e9021, e9022, ew8967]; omega)⟩, _, rfl, by omega, by omega, (fun h => False.elim (by omega))⟩
  · refine WP_aload_n dX11_readOnce_11 rfl ?_
    refine WS_ldc hz 31 rfl dX11_readOnce_12 ?_
    refine WP_callV1 (k := 11) dX11_readOnce_14 ⟨⟨⟨by decide, by decide⟩, zX11_is⟩, lX11_152, by decide, rfl, vX11_is.1, vX11_is.2⟩ (ly_is hy 0 11 rfl) (sm_is hy hz hr hI (31) (by omega)) (Nat.le_of_ble_eq_true rfl) ?_
    intro r Ia Ja Ra hq
    obtain ⟨⟨ea, eb, ec⟩, v9029, rfl, av9029, bv9029⟩ := hq
    show WP _ _ _ _ (.int _ :: _) _ _ _ _
    rw [ea, eb, ec]
    clear ea eb ec Ia Ja Ra
    refine WQ_if_ne 26 dX11_readOnce_17 rfl (fun c9029 => ?_) (fun c9029 => ?_)
    · refine WP_iload_n dX11_readOnce_26 rfl ?_
      refine WQ_if_eq 41 dX11_readOnce_27 rfl (fun c9030 => ?_) (fun c9030 => False.elim (by omega))
      refine WP_aload_n dX11_readOnce_41 rfl ?_
      refine WQ_geti dX11_readOnce_42 fX11_161 rfl (ly_is hy 0 11 rfl) (BT_get hI.1.1 0 18 19 (-1) (0) (2) (by decide) 18 (by decide) (by decide)) (fun v9032 ev9032 av9032 bv9032 => ?_)
      refine WQ_iconst (-1) (-1) dX11_readOnce_45 rfl rfl (fun v9033 hv9033 => ?_)
      refine WQ_icmp_eq 55 dX11_readOnce_46 rfl (fun c9033 => ?_) (fun c9033 => ?_)
      · refine WP_aload_n dX11_readOnce_55 rfl ?_
        refine WP_callV0 (k := 11) dX11_readOnce_56 ⟨⟨⟨by decide, by decide⟩, zX11_scan⟩, lX11_63, by decide, rfl, vX11_scan.1, vX11_scan.2⟩ (ly_is hy 0 11 rfl) (sm_scanx hy hr hI   (by rw [ew8968, ew8966]; omega)) (Nat.le_of_ble_eq_true rfl) ?_
        intro r I9035 J9036 Ra hq
        obtain ⟨⟨hI9035, ec, fiI9035, ⟨pI9035, sI9035_0_7, sI9035_0_15, sI9035_0_16, sI9035_0_17, sI9035_0_18⟩⟩, rfl⟩ := hq
        rw [ec]
        clear ec Ra
        have fr9037 : fz 49 g [0] I I9035 := fz_tr fr0 (fz_mono fiI9035 (by decide))
        have e9038 : I9035 (ad g 0) 15 = w8970 := by rw [sI9035_0_15]; exact ew8970
        have e9039 : I9035 (ad g 0) 17 = w8971 := by rw [sI9035_0_17]; exact ew8971
        have e9040 : I9035 (ad g 0) 18 = v9032 := by rw [sI9035_0_18]; exact ev9032
        have e9041 : I9035 (ad g 0) 1 = L := hI9035.1.2
        have b9042 := BT_get hI9035.1.1 0 1 2 (0) (0) (900) (by decide) 1 (by decide) (by decide)
        rw [e9041] at b9042
        obtain ⟨w9043, ew9043⟩ : ∃ w : Int32, I9035 (ad g 0) 2 = w := ⟨_, rfl⟩
        have bw9043 := BT_get hI9035.1.1 0 2 3 (0) (0) (900) (by decide) 2 (by decide) (by decide)
        rw [ew9043] at bw9043
        obtain ⟨w9044, ew9044⟩ : ∃ w : Int32, I9035 (ad g 0) 3 = w := ⟨_, rfl⟩
        have bw9044 := BT_get hI9035.1.1 0 3 4 (0) (0) (900) (by decide) 3 (by decide) (by decide)
        rw [ew9044] at bw9044
        obtain ⟨w9045, ew9045⟩ : ∃ w : Int32, I9035 (ad g 0) 4 = w := ⟨_, rfl⟩
        have bw9045 := BT_get hI9035.1.1 0 4 5 (0) (0) (900) (by decide) 4 (by decide) (by decide)
        rw [ew9045] at bw9045
        obtain ⟨w9046, ew9046⟩ : ∃ w : Int32, I9035 (ad g 0) 5 = w := ⟨_, rfl⟩
        have bw9046 := BT_get hI9035.1.1 0 5 6 (0) (0) (4) (by decide) 5 (by decide) (by decide)
        rw [ew9046] at bw9046
        rw [ew9043, ew9044, ew9045, ew9046, ew8968] at pI9035
        refine WP_iload_n dX11_readOnce_59 rfl ?_
        refine WQ_if_eq 81 dX11_readOnce_60 rfl (fun c9046 => ?_) (fun c9046 => False.elim (by omega))
        refine WP_aload_n dX11_readOnce_81 rfl ?_
        refine WP_aload_n dX11_readOnce_82 rfl ?_
        refine WP_getr dX11_readOnce_83 fX11_129 rfl (ly_is hy 0 11 rfl) (rf hr 0 23 5 (by decide)) ?_
        refine WP_aload_n dX11_readOnce_86 rfl ?_
        refine WQ_geti dX11_readOnce_87 fX11_126 rfl (ly_is hy 0 11 rfl) (BT_get hI9035.1.1 0 16 17 (0) (0) (3) (by decide) 16 (by decide) (by decide)) (fun v9048 ev9048 av9048 bv9048 => ?_)
        refine WP_callV2 (k := 11) dX11_readOnce_90 ⟨⟨⟨by decide, by decide⟩, zX11_known⟩, lX11_147, by decide, rfl, vX11_known.1, vX11_known.2⟩ (ly_is hy 0 11 rfl) (sm_knownx_5 hy hr hI9035 v9048 (by omega) (by omega) (by rw [ew9043, ew9044, ew9045, ew9046]; omega)) (Nat.le_of_ble_eq_true rfl) ?_
        intro r I9049 J9050 Ra hq
        obtain ⟨⟨hI9049, ec, fiI9049, ⟨pI9049, sI9049_0_15, sI9049_0_16, sI9049_0_17, sI9049_0_18⟩⟩, v9051, rfl, av9051, bv9051, cv9051⟩ := hq
        show WP _ _ _ _ (.int _ :: _) _ _ _ _
        rw [ec]
        clear ec Ra
        have fr9052 : fz 49 g [0] I I9049 := fz_tr fr9037 (fz_mono fiI9049 (by decide))
        have e9053 : I9049 (ad g 0) 15 = w8970 := by rw [sI9049_0_15]; exact e9038
        have e9054 : I9049 (ad g 0) 16 = v9048 := by rw [sI9049_0_16]; exact ev9048
        have e9055 : I9049 (ad g 0) 17 = w8971 := by rw [sI9049_0_17]; exact e9039
        have e9056 : I9049 (ad g 0) 18 = v9032 := by rw [sI9049_0_18]; exact e9040
        have e9057 : I9049 (ad g 0) 1 = L := hI9049.1.2
        have b9058 := BT_get hI9049.1.1 0 1 2 (0) (0) (900) (by decide) 1 (by decide) (by decide)
        rw [e9057] at b9058
        obtain ⟨w9059, ew9059⟩ : ∃ w : Int32, I9049 (ad g 0) 2 = w := ⟨_, rfl⟩
        have bw9059 := BT_get hI9049.1.1 0 2 3 (0) (0) (900) (by decide) 2 (by decide) (by decide)
        rw [ew9059] at bw9059
        obtain ⟨w9060, ew9060⟩ : ∃ w : Int32, I9049 (ad g 0) 3 = w := ⟨_, rfl⟩
        have bw9060 := BT_get hI9049.1.1 0 3 4 (0) (0) (900) (by decide) 3 (by decide) (by decide)
        rw [ew9060] at bw9060
        obtain ⟨w9061, ew9061⟩ : ∃ w : Int32, I9049 (ad g 0) 4 = w := ⟨_, rfl⟩
        have bw9061 := BT_get hI9049.1.1 0 4 5 (0) (0) (900) (by decide) 4 (by decide) (by decide)
        rw [ew9061] at bw9061
        obtain ⟨w9062, ew9062⟩ : ∃ w : Int32, I9049 (ad g 0) 5 = w := ⟨_, rfl⟩
        have bw9062 := BT_get hI9049.1.1 0 5 6 (0) (0) (4) (by decide) 5 (by decide) (by decide)
        rw [ew9062] at bw9062
        rw [ew9059, ew9060, ew9061, ew9062, ew9044] at pI9049
        obtain ⟨w9063, ew9063⟩ : ∃ w : Int32, I9049 (ad g 0) 7 = w := ⟨_, rfl⟩
        have bw9063 := BT_get hI9049.1.1 0 7 8 (-1) (0) (1000) (by decide) 7 (by decide) (by decide)
        rw [ew9063] at bw9063
        rw [ew9063] at cv9051
        refine WQ_if_ne 98 dX11_readOnce_93 rfl (fun c9063 => ?_) (fun c9063 => ?_)
        · refine WP_iload_n dX11_readOnce_98 rfl ?_
          refine WQ_if_eq 113 dX11_readOnce_99 rfl (fun c9064 => ?_) (fun c9064 => False.elim (by omega))
          refine WP_aload_n dX11_readOnce_113 rfl ?_
          refine WP_aload_n dX11_readOnce_114 rfl ?_
          refine WQ_getim dX11_readOnce_115 fX11_56 rfl (ly_is hy 0 11 rfl) ew9063 ?_
          refine WQ_puti dX11_readOnce_118 fX11_161 rfl rfl (ly_is hy 0 11 rfl) (fun I9066 eI9066 => ?_)
          have hI9066 : MP g n L I9066 := by rw [eI9066]; exact (mp_w hy hI9049 (c := 0) (mi_f hy hI9049.1 (c := 0) (-1) (0) (2) (by decide) (Or.inr (by decide)) (by decide) (by omega) (by omega)) (by decide) (by decide) (Or.inr (by decide)))
          have e9067 : I9066 (ad g 0) 15 = w8970 := by rw [eI9066, pp_ne _ _ (Or.inr (by decide))]; exact e9053
          have e9068 : I9066 (ad g 0) 16 = v9048 := by rw [eI9066, pp_ne _ _ (Or.inr (by decide))]; exact e9054
          have e9069 : I9066 (ad g 0) 17 = w8971 := by rw [eI9066, pp_ne _ _ (Or.inr (by decide))]; exact e9055
          have e9070 : I9066 (ad g 0) 1 = L := by rw [eI9066, pp_ne _ _ (Or.inr (by decide))]; exact e9057
          have e9071 : I9066 (ad g 0) 2 = w9059 := by rw [eI9066, pp_ne _ _ (Or.inr (by decide))]; exact ew9059
          have e9072 : I9066 (ad g 0) 3 = w9060 := by rw [eI9066, pp_ne _ _ (Or.inr (by decide))]; exact ew9060
          have e9073 : I9066 (ad g 0) 4 = w9061 := by rw [eI9066, pp_ne _ _ (Or.inr (by decide))]; exact ew9061
          have e9074 : I9066 (ad g 0) 5 = w9062 := by rw [eI9066, pp_ne _ _ (Or.inr (by decide))]; exact ew9062
          have e9075 : I9066 (ad g 0) 7 = w9063 := by rw [eI9066, pp_ne _ _ (Or.inr (by decide))]; exact ew9063
          have e9076 : I9066 (ad g 0) 18 = w9063 := by rw [eI9066, pp_self]
          have fr9077 : fz 49 g [0] I I9066 := by rw [eI9066]; exact fzm_pp hy fr9052 (by decide) (by decide)
          clear eI9066
          refine WQ_iconst (1) (1) dX11_readOnce_121 rfl rfl (fun v9078 hv9078 => ?_)
          exact WP_zret dX11_readOnce_122 rfl (nar_z (by omega)) ⟨⟨hI9066, rfl, fr9077, (by rw [e9071, e9072, e9073, e9074, e9067, e9069, ew8967]; omega)⟩, _, rfl, by omega, by omega, (fun _ => by rw [fz_at fr9077 30 (by decide) (by decide), fz_at fr9077 31 (by decide) (by decide), show I9066 (ad g 0) 15 = I (ad g 0) 15 from (by rw [e9067, ew8970] <;> exact (eq32 _ _).mpr (by omega))]; exact hw)⟩
        · refine WQ_iconst (0) (0) dX11_readOnce_96 rfl rfl (fun v9079 hv9079 => ?_)
          exact WP_zret dX11_readOnce_97 rfl (nar_z (by omega)) ⟨⟨hI9049, rfl, fr9052, (by rw [ew9059, ew9060, ew9061, ew9062, e9053, e9055, ew8967]; omega)⟩, _, rfl, by omega, by omega, (fun h => False.elim (by omega))⟩
      · refine WP_aload_n dX11_readOnce_49 rfl ?_
        refine WQ_iconst (3) (3) dX11_readOnce_50 rfl rfl (fun v9080 hv9080 => ?_)
        refine WP_callV1 (k := 11) dX11_readOnce_51 ⟨⟨⟨by decide, by decide⟩, zX11_bad⟩, lX11_49, by decide, rfl, vX11_bad.1, vX11_bad.2⟩ (ly_is hy 0 11 rfl) (sm_badx hy hr hI v9080  (by rw [ew8966, ew8967, ew8968, ew8969]; omega)) (Nat.le_of_ble_eq_true rfl) ?_
        intro r I9081 J9082 Ra hq
        obtain ⟨⟨hI9081, ec, fiI9081, ⟨pI9081, sI9081_0_15, sI9081_0_16, sI9081_0_17, sI9081_0_18⟩⟩, v9083, rfl, av9083, bv9083⟩ := hq
        show WP _ _ _ _ (.int _ :: _) _ _ _ _
        rw [ec]
        clear ec Ra
        have fr9084 : fz 49 g [0] I I9081 := fz_tr fr0 (fz_mono fiI9081 (by decide))
        have e9085 : I9081 (ad g 0) 15 = w8970 := by rw [sI9081_0_15]; exact ew8970
        have e9086 : I9081 (ad g 0) 17 = w8971 := by rw [sI9081_0_17]; exact ew8971
        have e9087 : I9081 (ad g 0) 18 = v9032 := by rw [sI9081_0_18]; exact ev9032
        have e9088 : I9081 (ad g 0) 1 = L := hI9081.1.2
        have b9089 := BT_get hI9081.1.1 0 1 2 (0) (0) (900) (by decide) 1 (by decide) (by decide)
        rw [e9088] at b9089
        obtain ⟨w9090, ew9090⟩ : ∃ w : Int32, I9081 (ad g 0) 2 = w := ⟨_, rfl⟩
        have bw9090 := BT_get hI9081.1.1 0 2 3 (0) (0) (900) (by decide) 2 (by decide) (by decide)
        rw [ew9090] at bw9090
        obtain ⟨w9091, ew9091⟩ : ∃ w : Int32, I9081 (ad g 0) 3 = w := ⟨_, rfl⟩
        have bw9091 := BT_get hI9081.1.1 0 3 4 (0) (0) (900) (by decide) 3 (by decide) (by decide)
        rw [ew9091] at bw9091
        obtain ⟨w9092, ew9092⟩ : ∃ w : Int32, I9081 (ad g 0) 4 = w := ⟨_, rfl⟩
        have bw9092 := BT_get hI9081.1.1 0 4 5 (0) (0) (900) (by decide) 4 (by decide) (by decide)
        rw [ew9092] at bw9092
        obtain ⟨w9093, ew9093⟩ : ∃ w : Int32, I9081 (ad g 0) 5 = w := ⟨_, rfl⟩
        have bw9093 := BT_get hI9081.1.1 0 5 6 (0) (0) (4) (by decide) 5 (by decide) (by decide)
        rw [ew9093] at bw9093
        rw [ew9090, ew9091, ew9092, ew9093, ew8967] at pI9081
        exact WP_zret dX11_readOnce_54 rfl (nar_z (by omega)) ⟨⟨hI9081, rfl, fr9084, (by rw [ew9090, ew9091, ew9092, ew9093, e9085, e9086, ew8967]; omega)⟩, _, rfl, by omega, by omega, (fun h => False.elim (by omega))⟩
    · refine WP_aload_n dX11_readOnce_20 rfl ?_
      refine WQ_iconst (1) (1) dX11_readOnce_21 rfl rfl (fun v9094 hv9094 => ?_)
      refine WP_callV1 (k := 11) dX11_readOnce_22 ⟨⟨⟨by decide, by decide⟩, zX11_bad⟩, lX11_49, by decide, rfl, vX11_bad.1, vX11_bad.2⟩ (ly_is hy 0 11 rfl) (sm_badx hy hr hI v9094  (by rw [ew8966, ew8967, ew8968, ew8969]; omega)) (Nat.le_of_ble_eq_true rfl) ?_
      intro r I9095 J9096 Ra hq
      obtain ⟨⟨hI9095, ec, fiI9095, ⟨pI9095, sI9095_0_15, sI9095_0_16, sI9095_0_17, sI9095_0_18⟩⟩, v9097, rfl, av9097, bv9097⟩ := hq
      show WP _ _ _ _ (.int _ :: _) _ _ _ _
      rw [ec]
      clear ec Ra
      have fr9098 : fz 49 g [0] I I9095 := fz_tr fr0 (fz_mono fiI9095 (by decide))
      have e9099 : I9095 (ad g 0) 15 = w8970 := by rw [sI9095_0_15]; exact ew8970
      have e9100 : I9095 (ad g 0) 17 = w8971 := by rw [sI9095_0_17]; exact ew8971
      have e9101 : I9095 (ad g 0) 1 = L := hI9095.1.2
      have b9102 := BT_get hI9095.1.1 0 1 2 (0) (0) (900) (by decide) 1 (by decide) (by decide)
      rw [e9101] at b9102
      obtain ⟨w9103, ew9103⟩ : ∃ w : Int32, I9095 (ad g 0) 2 = w := ⟨_, rfl⟩
      have bw9103 := BT_get hI9095.1.1 0 2 3 (0) (0) (900) (by decide) 2 (by decide) (by decide)
      rw [ew9103] at bw9103
      obtain ⟨w9104, ew9104⟩ : ∃ w : Int32, I9095 (ad g 0) 3 = w := ⟨_, rfl⟩
      have bw9104 := BT_get hI9095.1.1 0 3 4 (0) (0) (900) (by decide) 3 (by decide) (by decide)
      rw [ew9104] at bw9104
      obtain ⟨w9105, ew9105⟩ : ∃ w : Int32, I9095 (ad g 0) 4 = w := ⟨_, rfl⟩
      have bw9105 := BT_get hI9095.1.1 0 4 5 (0) (0) (900) (by decide) 4 (by decide) (by decide)
      rw [ew9105] at bw9105
      obtain ⟨w9106, ew9106⟩ : ∃ w : Int32, I9095 (ad g 0) 5 = w := ⟨_, rfl⟩
      have bw9106 := BT_get hI9095.1.1 0 5 6 (0) (0) (4) (by decide) 5 (by decide) (by decide)
      rw [ew9106] at bw9106
      rw [ew9103, ew9104, ew9105, ew9106, ew8967] at pI9095
      exact WP_zret dX11_readOnce_25 rfl (nar_z (by omega)) ⟨⟨hI9095, rfl, fr9098, (by rw [ew9103, ew9104, ew9105, ew9106, e9099, e9100, ew8967]; omega)⟩, _, rfl, by omega, by omega, (fun h => False.elim (by omega))⟩
set_option maxHeartbeats 4000000 in
set_option maxRecDepth 100000 in
theorem sm_readClause {g : GG} {n : Int} {L : Int32} (hy : Ly g) {aK aV : Nat → Nat} {fo : Option Nat} (hz : HZ g aK aV fo)  {I : pI} {J : pJ} {R : pR} (hr : Rf g R) (hI : MP g n L I)   (hb : ((I (ad g 0) 4).toInt ≤ (I (ad g 0) 2).toInt ∧ (I (ad g 0) 3).toInt ≤ (I (ad g 0) 4).toInt ∧ ((I (ad g 0) 5).toInt = 0 ∨ (I (ad g 0) 3).toInt < (I (ad g 0) 4).toInt)) ∧ (I (ad g 0) 17).toInt < (I (ad g 0) 15).toInt) (hw : WRt (I (ad g 30)) (I (ad g 31)) (7 * (I (ad g 0) 15).toInt)) : SP g mX11_readClause [.ref (ad g 0)] I J R (fun r I' J' R' => (MP g n L I' ∧ R' = R ∧ fz 49 g [0, 7, 14, 15, 16, 17, 18, 19, 27, 28, 29, 30, 31, 32, 33, 34] I I' ∧ (((I' (ad g 0) 4).toInt ≤ (I' (ad g 0) 2).toInt ∧ (I' (ad g 0) 3).toInt ≤ (I' (ad g 0) 4).toInt ∧ ((I' (ad g 0) 5).toInt = 0 ∨ (I' (ad g 0) 3).toInt < (I' (ad g 0) 4).toInt)) ∧ (I (ad g 0) 3).toInt ≤ (I' (ad g 0) 3).toInt ∧ (I' (ad g 0) 17).toInt < (I' (ad g 0) 15).toInt)) ∧ ∃ v : Int32, r = some (.int v) ∧ 0 ≤ v.toInt ∧ v.toInt ≤ 1 ∧ (v.toInt = 1 → WRt (I' (ad g 30)) (I' (ad g 31)) (7 * (I' (ad g 0) 15).toInt))) := by
  refine SP_of ⟨by decide, rfl⟩ (Nat.le_of_ble_eq_true rfl) ?_
  have e9107 : I (ad g 0) 1 = L := hI.1.2
  have b9108 := BT_get hI.1.1 0 1 2 (0) (0) (900) (by decide) 1 (by decide) (by decide)
  rw [e9107] at b9108
  have fr0 : fz 49 g [0, 7, 14, 15, 16, 17, 18, 19, 27, 28, 29, 30, 31, 32, 33, 34] I I := fz_rf
  obtain ⟨w9109, ew9109⟩ : ∃ w : Int32, I (ad g 0) 2 = w := ⟨_, rfl⟩
  have bw9109 := BT_get hI.1.1 0 2 3 (0) (0) (900) (by decide) 2 (by decide) (by decide)
  rw [ew9109] at bw9109
  obtain ⟨w9110, ew9110⟩ : ∃ w : Int32, I (ad g 0) 3 = w := ⟨_, rfl⟩
  have bw9110 := BT_get hI.1.1 0 3 4 (0) (0) (900) (by decide) 3 (by decide) (by decide)
  rw [ew9110] at bw9110
  obtain ⟨w9111, ew9111⟩ : ∃ w : Int32, I (ad g 0) 4 = w := ⟨_, rfl⟩
  have bw9111 := BT_get hI.1.1 0 4 5 (0) (0) (900) (by decide) 4 (by decide) (by decide)
  rw [ew9111] at bw9111
  obtain ⟨w9112, ew9112⟩ : ∃ w : Int32, I (ad g 0) 5 = w := ⟨_, rfl⟩
  have bw9112 := BT_get hI.1.1 0 5 6 (0) (0) (4) (by decide) 5 (by decide) (by decide)
  rw [ew9112] at bw9112
  obtain ⟨w9113, ew9113⟩ : ∃ w : Int32, I (ad g 0) 15 = w := ⟨_, rfl⟩
  have bw9113 := BT_get hI.1.1 0 15 16 (0) (0) (4) (by decide) 15 (by decide) (by decide)
  rw [ew9113] at bw9113
  obtain ⟨w9114, ew9114⟩ : ∃ w : Int32, I (ad g 0) 17 = w := ⟨_, rfl⟩
  have bw9114 := BT_get hI.1.1 0 17 18 (-1) (0) (3) (by decide) 17 (by decide) (by decide)
  rw [ew9114] at bw9114
  rw [ew9109, ew9110, ew9111, ew9112, ew9113, ew9114] at hb
  refine WP_aload_n dX11_readClause_0 rfl ?_
  refine WS_ldc hz 22 rfl dX11_readClause_1 ?_
  refine WP_callV1 (k := 11) dX11_readClause_3 ⟨⟨⟨by decide, by decide⟩, zX11_is⟩, lX11_152, by decide, rfl, vX11_is.1, vX11_is.2⟩ (ly_is hy 0 11 rfl) (sm_is hy hz hr hI (22) (by omega)) (Nat.le_of_ble_eq_true rfl) ?_
  intro r Ia Ja Ra hq
  obtain ⟨⟨ea, eb, ec⟩, v9115, rfl, av9115, bv9115⟩ := hq
  show WP _ _ _ _ (.int _ :: _) _ _ _ _
  rw [ea, eb, ec]
  clear ea eb ec Ia Ja Ra
  refine WQ_if_eq 14 dX11_readClause_6 rfl (fun c9115 => ?_) (fun c9115 => ?_)
  · refine WP_aload_n dX11_readClause_14 rfl ?_
    refine WS_ldc hz 23 rfl dX11_readClause_15 ?_
    refine WP_callV1 (k := 11) dX11_readClause_17 ⟨⟨⟨by decide, by decide⟩, zX11_is⟩, lX11_152, by decide, rfl, vX11_is.1, vX11_is.2⟩ (ly_is hy 0 11 rfl) (sm_is hy hz hr hI (23) (by omega)) (Nat.le_of_ble_eq_true rfl) ?_
    intro r Ia Ja Ra hq
    obtain ⟨⟨ea, eb, ec⟩, v9117, rfl, av9117, bv9117⟩ := hq
    show WP _ _ _ _ (.int _ :: _) _ _ _ _
    rw [ea, eb, ec]
    clear ea eb ec Ia Ja Ra
    refine WQ_if_eq 28 dX11_readClause_20 rfl (fun c9117 => ?_) (fun c9117 => ?_)
    · refine WP_aload_n dX11_readClause_28 rfl ?_
      refine WS_ldc hz 24 rfl dX11_readClause_29 ?_
      refine WP_callV1 (k := 11) dX11_readClause_31 ⟨⟨⟨by decide, by decide⟩, zX11_is⟩, lX11_152, by decide, rfl, vX11_is.1, vX11_is.2⟩ (ly_is hy 0 11 rfl) (sm_is hy hz hr hI (24) (by omega)) (Nat.le_of_ble_eq_true rfl) ?_
      intro r Ia Ja Ra hq
      obtain ⟨⟨ea, eb, ec⟩, v9119, rfl, av9119, bv9119⟩ := hq
      show WP _ _ _ _ (.int _ :: _) _ _ _ _
      rw [ea, eb, ec]
      clear ea eb ec Ia Ja Ra
      refine WQ_if_eq 42 dX11_readClause_34 rfl (fun c9119 => ?_) (fun c9119 => ?_)
      · refine WP_aload_n dX11_readClause_42 rfl ?_
        refine WS_ldc hz 25 rfl dX11_readClause_43 ?_
        refine WP_callV1 (k := 11) dX11_readClause_45 ⟨⟨⟨by decide, by decide⟩, zX11_is⟩, lX11_152, by decide, rfl, vX11_is.1, vX11_is.2⟩ (ly_is hy 0 11 rfl) (sm_is hy hz hr hI (25) (by omega)) (Nat.le_of_ble_eq_true rfl) ?_
        intro r Ia Ja Ra hq
        obtain ⟨⟨ea, eb, ec⟩, v9121, rfl, av9121, bv9121⟩ := hq
        show WP _ _ _ _ (.int _ :: _) _ _ _ _
        rw [ea, eb, ec]
        clear ea eb ec Ia Ja Ra
        refine WQ_if_eq 56 dX11_readClause_48 rfl (fun c9121 => ?_) (fun c9121 => ?_)
        · refine WP_aload_n dX11_readClause_56 rfl ?_
          refine WS_ldc hz 26 rfl dX11_readClause_57 ?_
          refine WP_callV1 (k := 11) dX11_readClause_59 ⟨⟨⟨by decide, by decide⟩, zX11_is⟩, lX11_152, by decide, rfl, vX11_is.1, vX11_is.2⟩ (ly_is hy 0 11 rfl) (sm_is hy hz hr hI (26) (by omega)) (Nat.le_of_ble_eq_true rfl) ?_
          intro r Ia Ja Ra hq
          obtain ⟨⟨ea, eb, ec⟩, v9123, rfl, av9123, bv9123⟩ := hq
          show WP _ _ _ _ (.int _ :: _) _ _ _ _
          rw [ea, eb, ec]
          clear ea eb ec Ia Ja Ra
          refine WQ_if_eq 70 dX11_readClause_62 rfl (fun c9123 => ?_) (fun c9123 => ?_)
          · refine WP_aload_n dX11_readClause_70 rfl ?_
            refine WS_ldc hz 27 rfl dX11_readClause_71 ?_
            refine WP_callV1 (k := 11) dX11_readClause_73 ⟨⟨⟨by decide, by decide⟩, zX11_is⟩, lX11_152, by decide, rfl, vX11_is.1, vX11_is.2⟩ (ly_is hy 0 11 rfl) (sm_is hy hz hr hI (27) (by omega)) (Nat.le_of_ble_eq_true rfl) ?_
            intro r Ia Ja Ra hq
            obtain ⟨⟨ea, eb, ec⟩, v9125, rfl, av9125, bv9125⟩ := hq
            show WP _ _ _ _ (.int _ :: _) _ _ _ _
            rw [ea, eb, ec]
            clear ea eb ec Ia Ja Ra
            refine WQ_if_eq 84 dX11_readClause_76 rfl (fun c9125 => ?_) (fun c9125 => ?_)
            · refine WP_aload_n dX11_readClause_84 rfl ?_
              refine WS_ldc hz 28 rfl dX11_readClause_85 ?_
              refine WP_callV1 (k := 11) dX11_readClause_87 ⟨⟨⟨by decide, by decide⟩, zX11_is⟩, lX11_152, by decide, rfl, vX11_is.1, vX11_is.2⟩ (ly_is hy 0 11 rfl) (sm_is hy hz hr hI (28) (by omega)) (Nat.le_of_ble_eq_true rfl) ?_
              intro r Ia Ja Ra hq
              obtain ⟨⟨ea, eb, ec⟩, v9127, rfl, av9127, bv9127⟩ := hq
              show WP _ _ _ _ (.int _ :: _) _ _ _ _
              rw [ea, eb, ec]
              clear ea eb ec Ia Ja Ra
              refine WQ_if_eq 98 dX11_readClause_90 rfl (fun c9127 => ?_) (fun c9127 => ?_)
              · refine WP_aload_n dX11_readClause_98 rfl ?_
                refine WS_ldc hz 29 rfl dX11_readClause_99 ?_
                refine WP_callV1 (k := 11) dX11_readClause_101 ⟨⟨⟨by decide, by decide⟩, zX11_is⟩, lX11_152, by decide, rfl, vX11_is.1, vX11_is.2⟩ (ly_is hy 0 11 rfl) (sm_is hy hz hr hI (29) (by omega)) (Nat.le_of_ble_eq_true rfl) ?_
                intro r Ia Ja Ra hq
                obtain ⟨⟨ea, eb, ec⟩, v9129, rfl, av9129, bv9129⟩ := hq
                show WP _ _ _ _ (.int _ :: _) _ _ _ _
                rw [ea, eb, ec]
                clear ea eb ec Ia Ja Ra
                refine WQ_if_eq 114 dX11_readClause_104 rfl (fun c9129 => ?_) (fun c9129 => ?_)
                · refine WP_aload_n dX11_readClause_114 rfl ?_
                  refine WP_callV0 (k := 11) dX11_readClause_115 ⟨⟨⟨by decide, by decide⟩, zX11_readOnce⟩, lX11_204, by decide, rfl, vX11_readOnce.1, vX11_readOnce.2⟩ (ly_is hy 0 11 rfl) (sm_readOnce hy hz hr hI   (by rw [ew9109, ew9110, ew9111, ew9112, ew9113, ew9114]; omega) hw) (Nat.le_of_ble_eq_true rfl) ?_
                  intro r I9131 J9132 Ra hq
                  obtain ⟨⟨hI9131, ec, fiI9131, pI9131⟩, v9133, rfl, av9133, bv9133, cv9133⟩ := hq
                  show WP _ _ _ _ (.int _ :: _) _ _ _ _
                  rw [ec]
                  clear ec Ra
                  have fr9134 : fz 49 g [0, 7, 14, 15, 16, 17, 18, 19, 27, 28, 29, 30, 31, 32, 33, 34] I I9131 := fz_tr fr0 (fz_mono fiI9131 (by decide))
                  have e9135 : I9131 (ad g 0) 1 = L := hI9131.1.2
                  have b9136 := BT_get hI9131.1.1 0 1 2 (0) (0) (900) (by decide) 1 (by decide) (by decide)
                  rw [e9135] at b9136
                  obtain ⟨w9137, ew9137⟩ : ∃ w : Int32, I9131 (ad g 0) 2 = w := ⟨_, rfl⟩
                  have bw9137 := BT_get hI9131.1.1 0 2 3 (0) (0) (900) (by decide) 2 (by decide) (by decide)
                  rw [ew9137] at bw9137
                  obtain ⟨w9138, ew9138⟩ : ∃ w : Int32, I9131 (ad g 0) 3 = w := ⟨_, rfl⟩
                  have bw9138 := BT_get hI9131.1.1 0 3 4 (0) (0) (900) (by decide) 3 (by decide) (by decide)
                  rw [ew9138] at bw9138
                  obtain ⟨w9139, ew9139⟩ : ∃ w : Int32, I9131 (ad g 0) 4 = w := ⟨_, rfl⟩
                  have bw9139 := BT_get hI9131.1.1 0 4 5 (0) (0) (900) (by decide) 4 (by decide) (by decide)
                  rw [ew9139] at bw9139
                  obtain ⟨w9140, ew9140⟩ : ∃ w : Int32, I9131 (ad g 0) 5 = w := ⟨_, rfl⟩
                  have bw9140 := BT_get hI9131.1.1 0 5 6 (0) (0) (4) (by decide) 5 (by decide) (by decide)
                  rw [ew9140] at bw9140
                  obtain ⟨w9141, ew9141⟩ : ∃ w : Int32, I9131 (ad g 0) 15 = w := ⟨_, rfl⟩
                  have bw9141 := BT_get hI9131.1.1 0 15 16 (0) (0) (4) (by decide) 15 (by decide) (by decide)
                  rw [ew9141] at bw9141
                  obtain ⟨w9142, ew9142⟩ : ∃ w : Int32, I9131 (ad g 0) 17 = w := ⟨_, rfl⟩
                  have bw9142 := BT_get hI9131.1.1 0 17 18 (-1) (0) (3) (by decide) 17 (by decide) (by decide)
                  rw [ew9142] at bw9142
                  rw [ew9137, ew9138, ew9139, ew9140, ew9141, ew9142, ew9110] at pI9131
                  exact WP_zret dX11_readClause_118 rfl (nar_z (by omega)) ⟨⟨hI9131, rfl, fr9134, (by rw [ew9137, ew9138, ew9139, ew9140, ew9141, ew9142, ew9110]; omega)⟩, _, rfl, by omega, by omega, (fun h => cv9133 h)⟩
                · refine WP_aload_n dX11_readClause_107 rfl ?_
                  refine WP_callV0 (k := 11) dX11_readClause_108 ⟨⟨⟨by decide, by decide⟩, zX11_readIlls⟩, lX11_201, by decide, rfl, vX11_readIlls.1, vX11_readIlls.2⟩ (ly_is hy 0 11 rfl) (sm_readIllsx hy hr hI   (by rw [ew9109, ew9110, ew9111, ew9112, ew9113, ew9114]; omega) hw) (Nat.le_of_ble_eq_true rfl) ?_
                  intro r I9143 J9144 Ra hq
                  obtain ⟨⟨hI9143, ec, fiI9143, pI9143⟩, v9145, rfl, av9145, bv9145, cv9145⟩ := hq
                  show WP _ _ _ _ (.int _ :: _) _ _ _ _
                  rw [ec]
                  clear ec Ra
                  have fr9146 : fz 49 g [0, 7, 14, 15, 16, 17, 18, 19, 27, 28, 29, 30, 31, 32, 33, 34] I I9143 := fz_tr fr0 (fz_mono fiI9143 (by decide))
                  have e9147 : I9143 (ad g 0) 1 = L := hI9143.1.2
                  have b9148 := BT_get hI9143.1.1 0 1 2 (0) (0) (900) (by decide) 1 (by decide) (by decide)
                  rw [e9147] at b9148
                  obtain ⟨w9149, ew9149⟩ : ∃ w : Int32, I9143 (ad g 0) 2 = w := ⟨_, rfl⟩
                  have bw9149 := BT_get hI9143.1.1 0 2 3 (0) (0) (900) (by decide) 2 (by decide) (by decide)
                  rw [ew9149] at bw9149
                  obtain ⟨w9150, ew9150⟩ : ∃ w : Int32, I9143 (ad g 0) 3 = w := ⟨_, rfl⟩
                  have bw9150 := BT_get hI9143.1.1 0 3 4 (0) (0) (900) (by decide) 3 (by decide) (by decide)
                  rw [ew9150] at bw9150
                  obtain ⟨w9151, ew9151⟩ : ∃ w : Int32, I9143 (ad g 0) 4 = w := ⟨_, rfl⟩
                  have bw9151 := BT_get hI9143.1.1 0 4 5 (0) (0) (900) (by decide) 4 (by decide) (by decide)
                  rw [ew9151] at bw9151
                  obtain ⟨w9152, ew9152⟩ : ∃ w : Int32, I9143 (ad g 0) 5 = w := ⟨_, rfl⟩
                  have bw9152 := BT_get hI9143.1.1 0 5 6 (0) (0) (4) (by decide) 5 (by decide) (by decide)
                  rw [ew9152] at bw9152
                  obtain ⟨w9153, ew9153⟩ : ∃ w : Int32, I9143 (ad g 0) 15 = w := ⟨_, rfl⟩
                  have bw9153 := BT_get hI9143.1.1 0 15 16 (0) (0) (4) (by decide) 15 (by decide) (by decide)
                  rw [ew9153] at bw9153
                  obtain ⟨w9154, ew9154⟩ : ∃ w : Int32, I9143 (ad g 0) 17 = w := ⟨_, rfl⟩
                  have bw9154 := BT_get hI9143.1.1 0 17 18 (-1) (0) (3) (by decide) 17 (by decide) (by decide)
                  rw [ew9154] at bw9154
                  rw [ew9149, ew9150, ew9151, ew9152, ew9153, ew9154, ew9110] at pI9143
                  refine WP_goto 118 dX11_readClause_111 rfl ?_
                  exact WP_zret dX11_readClause_118 rfl (nar_z (by omega)) ⟨⟨hI9143, rfl, fr9146, (by rw [ew9149, ew9150, ew9151, ew9152, ew9153, ew9154, ew9110]; omega)⟩, _, rfl, by omega, by omega, (fun h => cv9145 h)⟩
              · refine WP_aload_n dX11_readClause_93 rfl ?_
                refine WP_callV0 (k := 11) dX11_readClause_94 ⟨⟨⟨by decide, by decide⟩, zX11_readWants⟩, lX11_196, by decide, rfl, vX11_readWants.1, vX11_readWants.2⟩ (ly_is hy 0 11 rfl) (sm_readWantsx hy hr hI   (by rw [ew9109, ew9110, ew9111, ew9112, ew9113, ew9114]; omega) hw) (Nat.le_of_ble_eq_true rfl) ?_
                intro r I9155 J9156 Ra hq
                obtain ⟨⟨hI9155, ec, fiI9155, pI9155⟩, v9157, rfl, av9157, bv9157, cv9157⟩ := hq
                show WP _ _ _ _ (.int _ :: _) _ _ _ _
                rw [ec]
                clear ec Ra
                have fr9158 : fz 49 g [0, 7, 14, 15, 16, 17, 18, 19, 27, 28, 29, 30, 31, 32, 33, 34] I I9155 := fz_tr fr0 (fz_mono fiI9155 (by decide))
                have e9159 : I9155 (ad g 0) 1 = L := hI9155.1.2
                have b9160 := BT_get hI9155.1.1 0 1 2 (0) (0) (900) (by decide) 1 (by decide) (by decide)
                rw [e9159] at b9160
                obtain ⟨w9161, ew9161⟩ : ∃ w : Int32, I9155 (ad g 0) 2 = w := ⟨_, rfl⟩
                have bw9161 := BT_get hI9155.1.1 0 2 3 (0) (0) (900) (by decide) 2 (by decide) (by decide)
                rw [ew9161] at bw9161
                obtain ⟨w9162, ew9162⟩ : ∃ w : Int32, I9155 (ad g 0) 3 = w := ⟨_, rfl⟩
                have bw9162 := BT_get hI9155.1.1 0 3 4 (0) (0) (900) (by decide) 3 (by decide) (by decide)
                rw [ew9162] at bw9162
                obtain ⟨w9163, ew9163⟩ : ∃ w : Int32, I9155 (ad g 0) 4 = w := ⟨_, rfl⟩
                have bw9163 := BT_get hI9155.1.1 0 4 5 (0) (0) (900) (by decide) 4 (by decide) (by decide)
                rw [ew9163] at bw9163
                obtain ⟨w9164, ew9164⟩ : ∃ w : Int32, I9155 (ad g 0) 5 = w := ⟨_, rfl⟩
                have bw9164 := BT_get hI9155.1.1 0 5 6 (0) (0) (4) (by decide) 5 (by decide) (by decide)
                rw [ew9164] at bw9164
                obtain ⟨w9165, ew9165⟩ : ∃ w : Int32, I9155 (ad g 0) 15 = w := ⟨_, rfl⟩
                have bw9165 := BT_get hI9155.1.1 0 15 16 (0) (0) (4) (by decide) 15 (by decide) (by decide)
                rw [ew9165] at bw9165
                obtain ⟨w9166, ew9166⟩ : ∃ w : Int32, I9155 (ad g 0) 17 = w := ⟨_, rfl⟩
                have bw9166 := BT_get hI9155.1.1 0 17 18 (-1) (0) (3) (by decide) 17 (by decide) (by decide)
                rw [ew9166] at bw9166
                rw [ew9161, ew9162, ew9163, ew9164, ew9165, ew9166, ew9110] at pI9155
                exact WP_zret dX11_readClause_97 rfl (nar_z (by omega)) ⟨⟨hI9155, rfl, fr9158, (by rw [ew9161, ew9162, ew9163, ew9164, ew9165, ew9166, ew9110]; omega)⟩, _, rfl, by omega, by omega, (fun h => cv9157 h)⟩
            · refine WP_aload_n dX11_readClause_79 rfl ?_
              refine WP_callV0 (k := 11) dX11_readClause_80 ⟨⟨⟨by decide, by decide⟩, zX11_readMakes⟩, lX11_191, by decide, rfl, vX11_readMakes.1, vX11_readMakes.2⟩ (ly_is hy 0 11 rfl) (sm_readMakesx hy hr hI   (by rw [ew9109, ew9110, ew9111, ew9112, ew9113, ew9114]; omega) hw) (Nat.le_of_ble_eq_true rfl) ?_
              intro r I9167 J9168 Ra hq
              obtain ⟨⟨hI9167, ec, fiI9167, pI9167⟩, v9169, rfl, av9169, bv9169, cv9169⟩ := hq
              show WP _ _ _ _ (.int _ :: _) _ _ _ _
              rw [ec]
              clear ec Ra
              have fr9170 : fz 49 g [0, 7, 14, 15, 16, 17, 18, 19, 27, 28, 29, 30, 31, 32, 33, 34] I I9167 := fz_tr fr0 (fz_mono fiI9167 (by decide))
              have e9171 : I9167 (ad g 0) 1 = L := hI9167.1.2
              have b9172 := BT_get hI9167.1.1 0 1 2 (0) (0) (900) (by decide) 1 (by decide) (by decide)
              rw [e9171] at b9172
              obtain ⟨w9173, ew9173⟩ : ∃ w : Int32, I9167 (ad g 0) 2 = w := ⟨_, rfl⟩
              have bw9173 := BT_get hI9167.1.1 0 2 3 (0) (0) (900) (by decide) 2 (by decide) (by decide)
              rw [ew9173] at bw9173
              obtain ⟨w9174, ew9174⟩ : ∃ w : Int32, I9167 (ad g 0) 3 = w := ⟨_, rfl⟩
              have bw9174 := BT_get hI9167.1.1 0 3 4 (0) (0) (900) (by decide) 3 (by decide) (by decide)
              rw [ew9174] at bw9174
              obtain ⟨w9175, ew9175⟩ : ∃ w : Int32, I9167 (ad g 0) 4 = w := ⟨_, rfl⟩
              have bw9175 := BT_get hI9167.1.1 0 4 5 (0) (0) (900) (by decide) 4 (by decide) (by decide)
              rw [ew9175] at bw9175
              obtain ⟨w9176, ew9176⟩ : ∃ w : Int32, I9167 (ad g 0) 5 = w := ⟨_, rfl⟩
              have bw9176 := BT_get hI9167.1.1 0 5 6 (0) (0) (4) (by decide) 5 (by decide) (by decide)
              rw [ew9176] at bw9176
              obtain ⟨w9177, ew9177⟩ : ∃ w : Int32, I9167 (ad g 0) 15 = w := ⟨_, rfl⟩
              have bw9177 := BT_get hI9167.1.1 0 15 16 (0) (0) (4) (by decide) 15 (by decide) (by decide)
              rw [ew9177] at bw9177
              obtain ⟨w9178, ew9178⟩ : ∃ w : Int32, I9167 (ad g 0) 17 = w := ⟨_, rfl⟩
              have bw9178 := BT_get hI9167.1.1 0 17 18 (-1) (0) (3) (by decide) 17 (by decide) (by decide)
              rw [ew9178] at bw9178
              rw [ew9173, ew9174, ew9175, ew9176, ew9177, ew9178, ew9110] at pI9167
              exact WP_zret dX11_readClause_83 rfl (nar_z (by omega)) ⟨⟨hI9167, rfl, fr9170, (by rw [ew9173, ew9174, ew9175, ew9176, ew9177, ew9178, ew9110]; omega)⟩, _, rfl, by omega, by omega, (fun h => cv9169 h)⟩
          · refine WP_aload_n dX11_readClause_65 rfl ?_
            refine WP_callV0 (k := 11) dX11_readClause_66 ⟨⟨⟨by decide, by decide⟩, zX11_readPrices⟩, lX11_186, by decide, rfl, vX11_readPrices.1, vX11_readPrices.2⟩ (ly_is hy 0 11 rfl) (sm_readPricesx hy hr hI   (by rw [ew9109, ew9110, ew9111, ew9112, ew9113, ew9114]; omega) hw) (Nat.le_of_ble_eq_true rfl) ?_
            intro r I9179 J9180 Ra hq
            obtain ⟨⟨hI9179, ec, fiI9179, pI9179⟩, v9181, rfl, av9181, bv9181, cv9181⟩ := hq
            show WP _ _ _ _ (.int _ :: _) _ _ _ _
            rw [ec]
            clear ec Ra
            have fr9182 : fz 49 g [0, 7, 14, 15, 16, 17, 18, 19, 27, 28, 29, 30, 31, 32, 33, 34] I I9179 := fz_tr fr0 (fz_mono fiI9179 (by decide))
            have e9183 : I9179 (ad g 0) 1 = L := hI9179.1.2
            have b9184 := BT_get hI9179.1.1 0 1 2 (0) (0) (900) (by decide) 1 (by decide) (by decide)
            rw [e9183] at b9184
            obtain ⟨w9185, ew9185⟩ : ∃ w : Int32, I9179 (ad g 0) 2 = w := ⟨_, rfl⟩
            have bw9185 := BT_get hI9179.1.1 0 2 3 (0) (0) (900) (by decide) 2 (by decide) (by decide)
            rw [ew9185] at bw9185
            obtain ⟨w9186, ew9186⟩ : ∃ w : Int32, I9179 (ad g 0) 3 = w := ⟨_, rfl⟩
            have bw9186 := BT_get hI9179.1.1 0 3 4 (0) (0) (900) (by decide) 3 (by decide) (by decide)
            rw [ew9186] at bw9186
            obtain ⟨w9187, ew9187⟩ : ∃ w : Int32, I9179 (ad g 0) 4 = w := ⟨_, rfl⟩
            have bw9187 := BT_get hI9179.1.1 0 4 5 (0) (0) (900) (by decide) 4 (by decide) (by decide)
            rw [ew9187] at bw9187
            obtain ⟨w9188, ew9188⟩ : ∃ w : Int32, I9179 (ad g 0) 5 = w := ⟨_, rfl⟩
            have bw9188 := BT_get hI9179.1.1 0 5 6 (0) (0) (4) (by decide) 5 (by decide) (by decide)
            rw [ew9188] at bw9188
            obtain ⟨w9189, ew9189⟩ : ∃ w : Int32, I9179 (ad g 0) 15 = w := ⟨_, rfl⟩
            have bw9189 := BT_get hI9179.1.1 0 15 16 (0) (0) (4) (by decide) 15 (by decide) (by decide)
            rw [ew9189] at bw9189
            obtain ⟨w9190, ew9190⟩ : ∃ w : Int32, I9179 (ad g 0) 17 = w := ⟨_, rfl⟩
            have bw9190 := BT_get hI9179.1.1 0 17 18 (-1) (0) (3) (by decide) 17 (by decide) (by decide)
            rw [ew9190] at bw9190
            rw [ew9185, ew9186, ew9187, ew9188, ew9189, ew9190, ew9110] at pI9179
            exact WP_zret dX11_readClause_69 rfl (nar_z (by omega)) ⟨⟨hI9179, rfl, fr9182, (by rw [ew9185, ew9186, ew9187, ew9188, ew9189, ew9190, ew9110]; omega)⟩, _, rfl, by omega, by omega, (fun h => cv9181 h)⟩
        · refine WP_aload_n dX11_readClause_51 rfl ?_
          refine WP_callV0 (k := 11) dX11_readClause_52 ⟨⟨⟨by decide, by decide⟩, zX11_readEarns⟩, lX11_181, by decide, rfl, vX11_readEarns.1, vX11_readEarns.2⟩ (ly_is hy 0 11 rfl) (sm_readEarnsx hy hr hI   (by rw [ew9109, ew9110, ew9111, ew9112, ew9113, ew9114]; omega) hw) (Nat.le_of_ble_eq_true rfl) ?_
          intro r I9191 J9192 Ra hq
          obtain ⟨⟨hI9191, ec, fiI9191, pI9191⟩, v9193, rfl, av9193, bv9193, cv9193⟩ := hq
          show WP _ _ _ _ (.int _ :: _) _ _ _ _
          rw [ec]
          clear ec Ra
          have fr9194 : fz 49 g [0, 7, 14, 15, 16, 17, 18, 19, 27, 28, 29, 30, 31, 32, 33, 34] I I9191 := fz_tr fr0 (fz_mono fiI9191 (by decide))
          have e9195 : I9191 (ad g 0) 1 = L := hI9191.1.2
          have b9196 := BT_get hI9191.1.1 0 1 2 (0) (0) (900) (by decide) 1 (by decide) (by decide)
          rw [e9195] at b9196
          obtain ⟨w9197, ew9197⟩ : ∃ w : Int32, I9191 (ad g 0) 2 = w := ⟨_, rfl⟩
          have bw9197 := BT_get hI9191.1.1 0 2 3 (0) (0) (900) (by decide) 2 (by decide) (by decide)
          rw [ew9197] at bw9197
          obtain ⟨w9198, ew9198⟩ : ∃ w : Int32, I9191 (ad g 0) 3 = w := ⟨_, rfl⟩
          have bw9198 := BT_get hI9191.1.1 0 3 4 (0) (0) (900) (by decide) 3 (by decide) (by decide)
          rw [ew9198] at bw9198
          obtain ⟨w9199, ew9199⟩ : ∃ w : Int32, I9191 (ad g 0) 4 = w := ⟨_, rfl⟩
          have bw9199 := BT_get hI9191.1.1 0 4 5 (0) (0) (900) (by decide) 4 (by decide) (by decide)
          rw [ew9199] at bw9199
          obtain ⟨w9200, ew9200⟩ : ∃ w : Int32, I9191 (ad g 0) 5 = w := ⟨_, rfl⟩
          have bw9200 := BT_get hI9191.1.1 0 5 6 (0) (0) (4) (by decide) 5 (by decide) (by decide)
          rw [ew9200] at bw9200
          obtain ⟨w9201, ew9201⟩ : ∃ w : Int32, I9191 (ad g 0) 15 = w := ⟨_, rfl⟩
          have bw9201 := BT_get hI9191.1.1 0 15 16 (0) (0) (4) (by decide) 15 (by decide) (by decide)
          rw [ew9201] at bw9201
          obtain ⟨w9202, ew9202⟩ : ∃ w : Int32, I9191 (ad g 0) 17 = w := ⟨_, rfl⟩
          have bw9202 := BT_get hI9191.1.1 0 17 18 (-1) (0) (3) (by decide) 17 (by decide) (by decide)
          rw [ew9202] at bw9202
          rw [ew9197, ew9198, ew9199, ew9200, ew9201, ew9202, ew9110] at pI9191
          exact WP_zret dX11_readClause_55 rfl (nar_z (by omega)) ⟨⟨hI9191, rfl, fr9194, (by rw [ew9197, ew9198, ew9199, ew9200, ew9201, ew9202, ew9110]; omega)⟩, _, rfl, by omega, by omega, (fun h => cv9193 h)⟩
      · refine WP_aload_n dX11_readClause_37 rfl ?_
        refine WP_callV0 (k := 11) dX11_readClause_38 ⟨⟨⟨by decide, by decide⟩, zX11_readThingOf⟩, lX11_176, by decide, rfl, vX11_readThingOf.1, vX11_readThingOf.2⟩ (ly_is hy 0 11 rfl) (sm_readThingOfx hy hr hI   (by rw [ew9109, ew9110, ew9111, ew9112, ew9113, ew9114]; omega) hw) (Nat.le_of_ble_eq_true rfl) ?_
        intro r I9203 J9204 Ra hq
        obtain ⟨⟨hI9203, ec, fiI9203, pI9203⟩, v9205, rfl, av9205, bv9205, cv9205⟩ := hq
        show WP _ _ _ _ (.int _ :: _) _ _ _ _
        rw [ec]
        clear ec Ra
        have fr9206 : fz 49 g [0, 7, 14, 15, 16, 17, 18, 19, 27, 28, 29, 30, 31, 32, 33, 34] I I9203 := fz_tr fr0 (fz_mono fiI9203 (by decide))
        have e9207 : I9203 (ad g 0) 1 = L := hI9203.1.2
        have b9208 := BT_get hI9203.1.1 0 1 2 (0) (0) (900) (by decide) 1 (by decide) (by decide)
        rw [e9207] at b9208
        obtain ⟨w9209, ew9209⟩ : ∃ w : Int32, I9203 (ad g 0) 2 = w := ⟨_, rfl⟩
        have bw9209 := BT_get hI9203.1.1 0 2 3 (0) (0) (900) (by decide) 2 (by decide) (by decide)
        rw [ew9209] at bw9209
        obtain ⟨w9210, ew9210⟩ : ∃ w : Int32, I9203 (ad g 0) 3 = w := ⟨_, rfl⟩
        have bw9210 := BT_get hI9203.1.1 0 3 4 (0) (0) (900) (by decide) 3 (by decide) (by decide)
        rw [ew9210] at bw9210
        obtain ⟨w9211, ew9211⟩ : ∃ w : Int32, I9203 (ad g 0) 4 = w := ⟨_, rfl⟩
        have bw9211 := BT_get hI9203.1.1 0 4 5 (0) (0) (900) (by decide) 4 (by decide) (by decide)
        rw [ew9211] at bw9211
        obtain ⟨w9212, ew9212⟩ : ∃ w : Int32, I9203 (ad g 0) 5 = w := ⟨_, rfl⟩
        have bw9212 := BT_get hI9203.1.1 0 5 6 (0) (0) (4) (by decide) 5 (by decide) (by decide)
        rw [ew9212] at bw9212
        obtain ⟨w9213, ew9213⟩ : ∃ w : Int32, I9203 (ad g 0) 15 = w := ⟨_, rfl⟩
        have bw9213 := BT_get hI9203.1.1 0 15 16 (0) (0) (4) (by decide) 15 (by decide) (by decide)
        rw [ew9213] at bw9213
        obtain ⟨w9214, ew9214⟩ : ∃ w : Int32, I9203 (ad g 0) 17 = w := ⟨_, rfl⟩
        have bw9214 := BT_get hI9203.1.1 0 17 18 (-1) (0) (3) (by decide) 17 (by decide) (by decide)
        rw [ew9214] at bw9214
        rw [ew9209, ew9210, ew9211, ew9212, ew9213, ew9214, ew9110] at pI9203
        exact WP_zret dX11_readClause_41 rfl (nar_z (by omega)) ⟨⟨hI9203, rfl, fr9206, (by rw [ew9209, ew9210, ew9211, ew9212, ew9213, ew9214, ew9110]; omega)⟩, _, rfl, by omega, by omega, (fun h => cv9205 h)⟩
    · refine WP_aload_n dX11_readClause_23 rfl ?_
      refine WP_callV0 (k := 11) dX11_readClause_24 ⟨⟨⟨by decide, by decide⟩, zX11_readSort⟩, lX11_171, by decide, rfl, vX11_readSort.1, vX11_readSort.2⟩ (ly_is hy 0 11 rfl) (sm_readSortx hy hr hI   (by rw [ew9109, ew9110, ew9111, ew9112, ew9113, ew9114]; omega) hw) (Nat.le_of_ble_eq_true rfl) ?_
      intro r I9215 J9216 Ra hq
      obtain ⟨⟨hI9215, ec, fiI9215, pI9215⟩, v9217, rfl, av9217, bv9217, cv9217⟩ := hq
      show WP _ _ _ _ (.int _ :: _) _ _ _ _
      rw [ec]
      clear ec Ra
      have fr9218 : fz 49 g [0, 7, 14, 15, 16, 17, 18, 19, 27, 28, 29, 30, 31, 32, 33, 34] I I9215 := fz_tr fr0 (fz_mono fiI9215 (by decide))
      have e9219 : I9215 (ad g 0) 1 = L := hI9215.1.2
      have b9220 := BT_get hI9215.1.1 0 1 2 (0) (0) (900) (by decide) 1 (by decide) (by decide)
      rw [e9219] at b9220
      obtain ⟨w9221, ew9221⟩ : ∃ w : Int32, I9215 (ad g 0) 2 = w := ⟨_, rfl⟩
      have bw9221 := BT_get hI9215.1.1 0 2 3 (0) (0) (900) (by decide) 2 (by decide) (by decide)
      rw [ew9221] at bw9221
      obtain ⟨w9222, ew9222⟩ : ∃ w : Int32, I9215 (ad g 0) 3 = w := ⟨_, rfl⟩
      have bw9222 := BT_get hI9215.1.1 0 3 4 (0) (0) (900) (by decide) 3 (by decide) (by decide)
      rw [ew9222] at bw9222
      obtain ⟨w9223, ew9223⟩ : ∃ w : Int32, I9215 (ad g 0) 4 = w := ⟨_, rfl⟩
      have bw9223 := BT_get hI9215.1.1 0 4 5 (0) (0) (900) (by decide) 4 (by decide) (by decide)
      rw [ew9223] at bw9223
      obtain ⟨w9224, ew9224⟩ : ∃ w : Int32, I9215 (ad g 0) 5 = w := ⟨_, rfl⟩
      have bw9224 := BT_get hI9215.1.1 0 5 6 (0) (0) (4) (by decide) 5 (by decide) (by decide)
      rw [ew9224] at bw9224
      obtain ⟨w9225, ew9225⟩ : ∃ w : Int32, I9215 (ad g 0) 15 = w := ⟨_, rfl⟩
      have bw9225 := BT_get hI9215.1.1 0 15 16 (0) (0) (4) (by decide) 15 (by decide) (by decide)
      rw [ew9225] at bw9225
      obtain ⟨w9226, ew9226⟩ : ∃ w : Int32, I9215 (ad g 0) 17 = w := ⟨_, rfl⟩
      have bw9226 := BT_get hI9215.1.1 0 17 18 (-1) (0) (3) (by decide) 17 (by decide) (by decide)
      rw [ew9226] at bw9226
      rw [ew9221, ew9222, ew9223, ew9224, ew9225, ew9226, ew9110] at pI9215
      exact WP_zret dX11_readClause_27 rfl (nar_z (by omega)) ⟨⟨hI9215, rfl, fr9218, (by rw [ew9221, ew9222, ew9223, ew9224, ew9225, ew9226, ew9110]; omega)⟩, _, rfl, by omega, by omega, (fun h => cv9217 h)⟩
  · refine WP_aload_n dX11_readClause_9 rfl ?_
    refine WP_callV0 (k := 11) dX11_readClause_10 ⟨⟨⟨by decide, by decide⟩, zX11_readRot⟩, lX11_166, by decide, rfl, vX11_readRot.1, vX11_readRot.2⟩ (ly_is hy 0 11 rfl) (sm_readRotx hy hr hI   (by rw [ew9109, ew9110, ew9111, ew9112, ew9113, ew9114]; omega) hw) (Nat.le_of_ble_eq_true rfl) ?_
    intro r I9227 J9228 Ra hq
    obtain ⟨⟨hI9227, ec, fiI9227, pI9227⟩, v9229, rfl, av9229, bv9229, cv9229⟩ := hq
    show WP _ _ _ _ (.int _ :: _) _ _ _ _
    rw [ec]
    clear ec Ra
    have fr9230 : fz 49 g [0, 7, 14, 15, 16, 17, 18, 19, 27, 28, 29, 30, 31, 32, 33, 34] I I9227 := fz_tr fr0 (fz_mono fiI9227 (by decide))
    have e9231 : I9227 (ad g 0) 1 = L := hI9227.1.2
    have b9232 := BT_get hI9227.1.1 0 1 2 (0) (0) (900) (by decide) 1 (by decide) (by decide)
    rw [e9231] at b9232
    obtain ⟨w9233, ew9233⟩ : ∃ w : Int32, I9227 (ad g 0) 2 = w := ⟨_, rfl⟩
    have bw9233 := BT_get hI9227.1.1 0 2 3 (0) (0) (900) (by decide) 2 (by decide) (by decide)
    rw [ew9233] at bw9233
    obtain ⟨w9234, ew9234⟩ : ∃ w : Int32, I9227 (ad g 0) 3 = w := ⟨_, rfl⟩
    have bw9234 := BT_get hI9227.1.1 0 3 4 (0) (0) (900) (by decide) 3 (by decide) (by decide)
    rw [ew9234] at bw9234
    obtain ⟨w9235, ew9235⟩ : ∃ w : Int32, I9227 (ad g 0) 4 = w := ⟨_, rfl⟩
    have bw9235 := BT_get hI9227.1.1 0 4 5 (0) (0) (900) (by decide) 4 (by decide) (by decide)
    rw [ew9235] at bw9235
    obtain ⟨w9236, ew9236⟩ : ∃ w : Int32, I9227 (ad g 0) 5 = w := ⟨_, rfl⟩
    have bw9236 := BT_get hI9227.1.1 0 5 6 (0) (0) (4) (by decide) 5 (by decide) (by decide)
    rw [ew9236] at bw9236
    obtain ⟨w9237, ew9237⟩ : ∃ w : Int32, I9227 (ad g 0) 15 = w := ⟨_, rfl⟩
    have bw9237 := BT_get hI9227.1.1 0 15 16 (0) (0) (4) (by decide) 15 (by decide) (by decide)
    rw [ew9237] at bw9237
    obtain ⟨w9238, ew9238⟩ : ∃ w : Int32, I9227 (ad g 0) 17 = w := ⟨_, rfl⟩
    have bw9238 := BT_get hI9227.1.1 0 17 18 (-1) (0) (3) (by decide) 17 (by decide) (by decide)
    rw [ew9238] at bw9238
    rw [ew9233, ew9234, ew9235, ew9236, ew9237, ew9238, ew9110] at pI9227
    exact WP_zret dX11_readClause_13 rfl (nar_z (by omega)) ⟨⟨hI9227, rfl, fr9230, (by rw [ew9233, ew9234, ew9235, ew9236, ew9237, ew9238, ew9110]; omega)⟩, _, rfl, by omega, by omega, (fun h => cv9229 h)⟩
