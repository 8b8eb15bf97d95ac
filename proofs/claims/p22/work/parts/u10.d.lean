set_option maxHeartbeats 4000000 in
set_option maxRecDepth 100000 in
theorem sm_is {g : GG} {n : Int} {L : Int32} (hy : Ly g) {aK aV : Nat → Nat} {fo : Option Nat} (hz : HZ g aK aV fo)  {I : pI} {J : pJ} {R : pR} (hr : Rf g R) (hI : MP g n L I) (ii : Nat) (ii_lt : ii < 32) : SP g mX11_is [.ref (ad g 0), .ref (aK (ii))] I J R (fun r I' J' R' => (I' = I ∧ J' = J ∧ R' = R) ∧ ∃ v : Int32, r = some (.int v) ∧ 0 ≤ v.toInt ∧ v.toInt ≤ 1) := by
  refine SP_of ⟨by decide, rfl⟩ (Nat.le_of_ble_eq_true rfl) ?_
  have e9807 : I (ad g 0) 1 = L := hI.1.2
  have b9808 := BT_get hI.1.1 0 1 2 (0) (0) (900) (by decide) 1 (by decide) (by decide)
  rw [e9807] at b9808
  obtain ⟨w9809, ew9809⟩ : ∃ w : Int32, I (ad g 0) 3 = w := ⟨_, rfl⟩
  have bw9809 := BT_get hI.1.1 0 3 4 (0) (0) (900) (by decide) 3 (by decide) (by decide)
  rw [ew9809] at bw9809
  obtain ⟨w9810, ew9810⟩ : ∃ w : Int32, I (ad g 0) 4 = w := ⟨_, rfl⟩
  have bw9810 := BT_get hI.1.1 0 4 5 (0) (0) (900) (by decide) 4 (by decide) (by decide)
  rw [ew9810] at bw9810
  have l5 := (li_len ii ii_lt).2.2
  refine WP_aload_n dX11_is_0 rfl ?_
  refine WQ_geti dX11_is_1 fX11_27 rfl (ly_is hy 0 11 rfl) (BT_get hI.1.1 0 5 6 (0) (0) (4) (by decide) 5 (by decide) (by decide)) (fun v9811 ev9811 av9811 bv9811 => ?_)
  refine WQ_iconst (1) (1) dX11_is_4 rfl rfl (fun v9812 hv9812 => ?_)
  refine WQ_icmp_ne 28 dX11_is_5 rfl (fun c9812 => ?_) (fun c9812 => ?_)
  · refine WQ_iconst (0) (0) dX11_is_28 rfl rfl (fun v9814 hv9814 => ?_)
    refine WP_istore_n (ls' := [(0, _), (1, _), (2, _)]) dX11_is_29 (by decide) rfl ?_
    refine WQ_iconst (0) (0) dX11_is_30 rfl rfl (fun v9815 hv9815 => ?_)
    refine WP_istore_n (ls' := [(0, _), (1, _), (2, _), (3, _)]) dX11_is_31 (by decide) rfl ?_
    have lp32_9817 : ∀ (mz : Nat) (i9816 : Int32) (i9817 : Int32), 0 ≤ i9816.toInt → i9816.toInt ≤ 1 → 0 ≤ i9817.toInt → i9817.toInt ≤ 5 → (i9816.toInt = 0 ∨ w9810.toInt - w9809.toInt = ((liN.getD ii 0 : Nat) : Int)) → (6 - i9817.toInt).toNat < mz → WP g mX11_is 32 [(0, .ref (ad g 0)), (1, .ref (aK (ii))), (2, .int i9816), (3, .int i9817)] [] I J R (fun r I' J' R' => (I' = I ∧ J' = J ∧ R' = R) ∧ ∃ v : Int32, r = some (.int v) ∧ 0 ≤ v.toInt ∧ v.toInt ≤ 1) := by
      intro mz
      induction mz with
      | zero =>
        intro i9816 i9817 ai9816 bi9816 ai9817 bi9817 j0_I hmlp32_9817
        exact absurd hmlp32_9817 (Nat.not_lt_zero _)
      | succ mz ihlp32_9817 =>
        intro i9816 i9817 ai9816 bi9816 ai9817 bi9817 j0_I hmlp32_9817
        refine WP_iload_n dX11_is_32 rfl ?_
        refine WP_aload_n dX11_is_33 rfl ?_
        refine WS_call hz (i := ii) (by omega) dX11_is_34 ⟨⟨by decide, by decide⟩, zJ0_length_8abf5⟩ lX11_40 vJ0_length_8abf5 (As := []) (rest := [.int i9817]) (j_length hz (i := ii) (by omega)) rfl rfl (Nat.le_of_ble_eq_true rfl) ?_
        intro r Ia Ja Ra hq
        obtain ⟨⟨ea, eb, ec⟩, v9819, rfl, cv9819⟩ := hq
        show WP _ _ _ _ (.int _ :: _) _ _ _ _
        rw [ea, eb, ec]
        clear ea eb ec Ia Ja Ra
        have lv9819 := (li_len (ii) (by omega)).2.2
        refine WQ_icmp_ge 75 dX11_is_37 rfl (fun c9819 => ?_) (fun c9819 => ?_)
        · refine WP_iload_n dX11_is_75 rfl ?_
          exact WP_zret dX11_is_76 rfl (nar_z (by omega)) ⟨⟨rfl, rfl, rfl⟩, _, rfl, by omega, by omega⟩
        · refine WP_iload_n dX11_is_40 rfl ?_
          refine WQ_if_eq 75 dX11_is_41 rfl (fun c9820 => ?_) (fun c9820 => ?_)
          · refine WP_iload_n dX11_is_75 rfl ?_
            exact WP_zret dX11_is_76 rfl (nar_z (by omega)) ⟨⟨rfl, rfl, rfl⟩, _, rfl, by omega, by omega⟩
          · refine WP_aload_n dX11_is_44 rfl ?_
            refine WP_getr dX11_is_45 fX11_16 rfl (ly_is hy 0 11 rfl) (rf hr 0 0 1 (by decide)) ?_
            refine WP_aload_n dX11_is_48 rfl ?_
            refine WQ_getim dX11_is_49 fX11_7 rfl (ly_is hy 0 11 rfl) ew9809 ?_
            refine WP_iload_n dX11_is_52 rfl ?_
            refine WQ_iadd dX11_is_53 (by omega) (by omega) (fun v9822 hv9822 => ?_)
            refine WQ_baldu dX11_is_54 (ly_is hy 1 12 rfl) (ly_n hy 1 900 rfl) (by omega) (by omega) (fun v9823 => ?_)
            refine WP_aload_n dX11_is_55 rfl ?_
            refine WP_iload_n dX11_is_56 rfl ?_
            refine WS_call hz (i := ii) (by omega) dX11_is_57 ⟨⟨by decide, by decide⟩, zJ0_charAt_5068e⟩ lX11_45 vJ0_charAt_5068e (As := [.int i9817]) (rest := [.int v9823]) (j_charAt hz (i := ii) (k := i9817) (by omega) (by omega) (by omega)) rfl rfl (Nat.le_of_ble_eq_true rfl) ?_
            intro r Ia Ja Ra hq
            obtain ⟨⟨ea, eb, ec⟩, v9824, rfl, cv9824⟩ := hq
            show WP _ _ _ _ (.int _ :: _) _ _ _ _
            rw [ea, eb, ec]
            clear ea eb ec Ia Ja Ra
            have jn68_9827 : ∀ (v9827 : Int32), 0 ≤ v9827.toInt → v9827.toInt ≤ 1 → WP g mX11_is 68 [(0, .ref (ad g 0)), (1, .ref (aK (ii))), (2, .int i9816), (3, .int i9817)] [.int v9827] I J R (fun r I' J' R' => (I' = I ∧ J' = J ∧ R' = R) ∧ ∃ v : Int32, r = some (.int v) ∧ 0 ≤ v.toInt ∧ v.toInt ≤ 1) := by
              intro v9827 av9827 bv9827
              refine WP_istore_n (ls' := [(0, _), (1, _), (2, _), (3, _)]) dX11_is_68 (by decide) rfl ?_
              refine WP_iinc (ls' := [(0, _), (1, _), (2, _), (3, _)]) dX11_is_69 rfl (by decide) rfl ?_
              have hv9829 : (i9817 + Int32.ofInt (1)).toInt = i9817.toInt + (1) := ia_n rfl (by omega) (by omega)
              generalize i9817 + Int32.ofInt (1) = v9829 at hv9829 ⊢
              refine WP_goto 32 dX11_is_72 rfl ?_
              exact WP_sub (fc rfl (fc rfl (fc rfl (fc rfl fn)))) (ihlp32_9817 v9827 v9829 (by omega) (by omega) (by omega) (by omega) (by omega) (by omega))
            refine WQ_icmp_ne 67 dX11_is_60 rfl (fun c9829 => ?_) (fun c9829 => ?_)
            · refine WQ_iconst (0) (0) dX11_is_67 rfl rfl (fun v9831 hv9831 => ?_)
              exact WP_sub (fc rfl (fc rfl (fc rfl (fc rfl fn)))) (jn68_9827 v9831 (by omega) (by omega))
            · refine WQ_iconst (1) (1) dX11_is_63 rfl rfl (fun v9832 hv9832 => ?_)
              refine WP_goto 68 dX11_is_64 rfl ?_
              exact WP_sub (fc rfl (fc rfl (fc rfl (fc rfl fn)))) (jn68_9827 v9832 (by omega) (by omega))
    exact WP_sub (fc rfl (fc rfl (fc rfl (fc rfl fn)))) (lp32_9817 _ v9814 v9815 (by omega) (by omega) (by omega) (by omega) (by omega) (Nat.lt_succ_self _))
  · refine WP_aload_n dX11_is_8 rfl ?_
    refine WQ_getim dX11_is_9 fX11_20 rfl (ly_is hy 0 11 rfl) ew9810 ?_
    refine WP_aload_n dX11_is_12 rfl ?_
    refine WQ_getim dX11_is_13 fX11_7 rfl (ly_is hy 0 11 rfl) ew9809 ?_
    refine WQ_isub dX11_is_16 (by omega) (by omega) (fun v9833 hv9833 => ?_)
    refine WP_aload_n dX11_is_17 rfl ?_
    refine WS_call hz (i := ii) (by omega) dX11_is_18 ⟨⟨by decide, by decide⟩, zJ0_length_8abf5⟩ lX11_40 vJ0_length_8abf5 (As := []) (rest := [.int v9833]) (j_length hz (i := ii) (by omega)) rfl rfl (Nat.le_of_ble_eq_true rfl) ?_
    intro r Ia Ja Ra hq
    obtain ⟨⟨ea, eb, ec⟩, v9834, rfl, cv9834⟩ := hq
    show WP _ _ _ _ (.int _ :: _) _ _ _ _
    rw [ea, eb, ec]
    clear ea eb ec Ia Ja Ra
    have lv9834 := (li_len (ii) (by omega)).2.2
    refine WQ_icmp_ne 28 dX11_is_21 rfl (fun c9834 => ?_) (fun c9834 => ?_)
    · refine WQ_iconst (0) (0) dX11_is_28 rfl rfl (fun v9836 hv9836 => ?_)
      refine WP_istore_n (ls' := [(0, _), (1, _), (2, _)]) dX11_is_29 (by decide) rfl ?_
      refine WQ_iconst (0) (0) dX11_is_30 rfl rfl (fun v9837 hv9837 => ?_)
      refine WP_istore_n (ls' := [(0, _), (1, _), (2, _), (3, _)]) dX11_is_31 (by decide) rfl ?_
      have lp32_9839 : ∀ (mz : Nat) (i9838 : Int32) (i9839 : Int32), 0 ≤ i9838.toInt → i9838.toInt ≤ 1 → 0 ≤ i9839.toInt → i9839.toInt ≤ 5 → (i9838.toInt = 0 ∨ w9810.toInt - w9809.toInt = ((liN.getD ii 0 : Nat) : Int)) → (6 - i9839.toInt).toNat < mz → WP g mX11_is 32 [(0, .ref (ad g 0)), (1, .ref (aK (ii))), (2, .int i9838), (3, .int i9839)] [] I J R (fun r I' J' R' => (I' = I ∧ J' = J ∧ R' = R) ∧ ∃ v : Int32, r = some (.int v) ∧ 0 ≤ v.toInt ∧ v.toInt ≤ 1) := by
        intro mz
        induction mz with
        | zero =>
          intro i9838 i9839 ai9838 bi9838 ai9839 bi9839 j0_I hmlp32_9839
          exact absurd hmlp32_9839 (Nat.not_lt_zero _)
        | succ mz ihlp32_9839 =>
          intro i9838 i9839 ai9838 bi9838 ai9839 bi9839 j0_I hmlp32_9839
          refine WP_iload_n dX11_is_32 rfl ?_
          refine WP_aload_n dX11_is_33 rfl ?_
          refine WS_call hz (i := ii) (by omega) dX11_is_34 ⟨⟨by decide, by decide⟩, zJ0_length_8abf5⟩ lX11_40 vJ0_length_8abf5 (As := []) (rest := [.int i9839]) (j_length hz (i := ii) (by omega)) rfl rfl (Nat.le_of_ble_eq_true rfl) ?_
          intro r Ia Ja Ra hq
          obtain ⟨⟨ea, eb, ec⟩, v9841, rfl, cv9841⟩ := hq
          show WP _ _ _ _ (.int _ :: _) _ _ _ _
          rw [ea, eb, ec]
          clear ea eb ec Ia Ja Ra
          have lv9841 := (li_len (ii) (by omega)).2.2
          refine WQ_icmp_ge 75 dX11_is_37 rfl (fun c9841 => ?_) (fun c9841 => ?_)
          · refine WP_iload_n dX11_is_75 rfl ?_
            exact WP_zret dX11_is_76 rfl (nar_z (by omega)) ⟨⟨rfl, rfl, rfl⟩, _, rfl, by omega, by omega⟩
          · refine WP_iload_n dX11_is_40 rfl ?_
            refine WQ_if_eq 75 dX11_is_41 rfl (fun c9842 => ?_) (fun c9842 => ?_)
            · refine WP_iload_n dX11_is_75 rfl ?_
              exact WP_zret dX11_is_76 rfl (nar_z (by omega)) ⟨⟨rfl, rfl, rfl⟩, _, rfl, by omega, by omega⟩
            · refine WP_aload_n dX11_is_44 rfl ?_
              refine WP_getr dX11_is_45 fX11_16 rfl (ly_is hy 0 11 rfl) (rf hr 0 0 1 (by decide)) ?_
              refine WP_aload_n dX11_is_48 rfl ?_
              refine WQ_getim dX11_is_49 fX11_7 rfl (ly_is hy 0 11 rfl) ew9809 ?_
              refine WP_iload_n dX11_is_52 rfl ?_
              refine WQ_iadd dX11_is_53 (by omega) (by omega) (fun v9844 hv9844 => ?_)
              refine WQ_baldu dX11_is_54 (ly_is hy 1 12 rfl) (ly_n hy 1 900 rfl) (by omega) (by omega) (fun v9845 => ?_)
              refine WP_aload_n dX11_is_55 rfl ?_
              refine WP_iload_n dX11_is_56 rfl ?_
              refine WS_call hz (i := ii) (by omega) dX11_is_57 ⟨⟨by decide, by decide⟩, zJ0_charAt_5068e⟩ lX11_45 vJ0_charAt_5068e (As := [.int i9839]) (rest := [.int v9845]) (j_charAt hz (i := ii) (k := i9839) (by omega) (by omega) (by omega)) rfl rfl (Nat.le_of_ble_eq_true rfl) ?_
              intro r Ia Ja Ra hq
              obtain ⟨⟨ea, eb, ec⟩, v9846, rfl, cv9846⟩ := hq
              show WP _ _ _ _ (.int _ :: _) _ _ _ _
              rw [ea, eb, ec]
              clear ea eb ec Ia Ja Ra
              have jn68_9849 : ∀ (v9849 : Int32), 0 ≤ v9849.toInt → v9849.toInt ≤ 1 → WP g mX11_is 68 [(0, .ref (ad g 0)), (1, .ref (aK (ii))), (2, .int i9838), (3, .int i9839)] [.int v9849] I J R (fun r I' J' R' => (I' = I ∧ J' = J ∧ R' = R) ∧ ∃ v : Int32, r = some (.int v) ∧ 0 ≤ v.toInt ∧ v.toInt ≤ 1) := by
                intro v9849 av9849 bv9849
                refine WP_istore_n (ls' := [(0, _), (1, _), (2, _), (3, _)]) dX11_is_68 (by decide) rfl ?_
                refine WP_iinc (ls' := [(0, _), (1, _), (2, _), (3, _)]) dX11_is_69 rfl (by decide) rfl ?_
                have hv9851 : (i9839 + Int32.ofInt (1)).toInt = i9839.toInt + (1) := ia_n rfl (by omega) (by omega)
                generalize i9839 + Int32.ofInt (1) = v9851 at hv9851 ⊢
                refine WP_goto 32 dX11_is_72 rfl ?_
                exact WP_sub (fc rfl (fc rfl (fc rfl (fc rfl fn)))) (ihlp32_9839 v9849 v9851 (by omega) (by omega) (by omega) (by omega) (by omega) (by omega))
              refine WQ_icmp_ne 67 dX11_is_60 rfl (fun c9851 => ?_) (fun c9851 => ?_)
              · refine WQ_iconst (0) (0) dX11_is_67 rfl rfl (fun v9853 hv9853 => ?_)
                exact WP_sub (fc rfl (fc rfl (fc rfl (fc rfl fn)))) (jn68_9849 v9853 (by omega) (by omega))
              · refine WQ_iconst (1) (1) dX11_is_63 rfl rfl (fun v9854 hv9854 => ?_)
                refine WP_goto 68 dX11_is_64 rfl ?_
                exact WP_sub (fc rfl (fc rfl (fc rfl (fc rfl fn)))) (jn68_9849 v9854 (by omega) (by omega))
      exact WP_sub (fc rfl (fc rfl (fc rfl (fc rfl fn)))) (lp32_9839 _ v9836 v9837 (by omega) (by omega) (by omega) (by omega) (by omega) (Nat.lt_succ_self _))
    · refine WQ_iconst (1) (1) dX11_is_24 rfl rfl (fun v9855 hv9855 => ?_)
      refine WP_goto 29 dX11_is_25 rfl ?_
      refine WP_istore_n (ls' := [(0, _), (1, _), (2, _)]) dX11_is_29 (by decide) rfl ?_
      refine WQ_iconst (0) (0) dX11_is_30 rfl rfl (fun v9856 hv9856 => ?_)
      refine WP_istore_n (ls' := [(0, _), (1, _), (2, _), (3, _)]) dX11_is_31 (by decide) rfl ?_
      have lp32_9858 : ∀ (mz : Nat) (i9857 : Int32) (i9858 : Int32), 0 ≤ i9857.toInt → i9857.toInt ≤ 1 → 0 ≤ i9858.toInt → i9858.toInt ≤ 5 → (i9857.toInt = 0 ∨ w9810.toInt - w9809.toInt = ((liN.getD ii 0 : Nat) : Int)) → (6 - i9858.toInt).toNat < mz → WP g mX11_is 32 [(0, .ref (ad g 0)), (1, .ref (aK (ii))), (2, .int i9857), (3, .int i9858)] [] I J R (fun r I' J' R' => (I' = I ∧ J' = J ∧ R' = R) ∧ ∃ v : Int32, r = some (.int v) ∧ 0 ≤ v.toInt ∧ v.toInt ≤ 1) := by
        intro mz
        induction mz with
        | zero =>
          intro i9857 i9858 ai9857 bi9857 ai9858 bi9858 j0_I hmlp32_9858
          exact absurd hmlp32_9858 (Nat.not_lt_zero _)
        | succ mz ihlp32_9858 =>
          intro i9857 i9858 ai9857 bi9857 ai9858 bi9858 j0_I hmlp32_9858
          refine WP_iload_n dX11_is_32 rfl ?_
          refine WP_aload_n dX11_is_33 rfl ?_
          refine WS_call hz (i := ii) (by omega) dX11_is_34 ⟨⟨by decide, by decide⟩, zJ0_length_8abf5⟩ lX11_40 vJ0_length_8abf5 (As := []) (rest := [.int i9858]) (j_length hz (i := ii) (by omega)) rfl rfl (Nat.le_of_ble_eq_true rfl) ?_
          intro r Ia Ja Ra hq
          obtain ⟨⟨ea, eb, ec⟩, v9860, rfl, cv9860⟩ := hq
          show WP _ _ _ _ (.int _ :: _) _ _ _ _
          rw [ea, eb, ec]
          clear ea eb ec Ia Ja Ra
          have lv9860 := (li_len (ii) (by omega)).2.2
          refine WQ_icmp_ge 75 dX11_is_37 rfl (fun c9860 => ?_) (fun c9860 => ?_)
          · refine WP_iload_n dX11_is_75 rfl ?_
            exact WP_zret dX11_is_76 rfl (nar_z (by omega)) ⟨⟨rfl, rfl, rfl⟩, _, rfl, by omega, by omega⟩
          · refine WP_iload_n dX11_is_40 rfl ?_
            refine WQ_if_eq 75 dX11_is_41 rfl (fun c9861 => ?_) (fun c9861 => ?_)
            · refine WP_iload_n dX11_is_75 rfl ?_
              exact WP_zret dX11_is_76 rfl (nar_z (by omega)) ⟨⟨rfl, rfl, rfl⟩, _, rfl, by omega, by omega⟩
            · refine WP_aload_n dX11_is_44 rfl ?_
              refine WP_getr dX11_is_45 fX11_16 rfl (ly_is hy 0 11 rfl) (rf hr 0 0 1 (by decide)) ?_
              refine WP_aload_n dX11_is_48 rfl ?_
              refine WQ_getim dX11_is_49 fX11_7 rfl (ly_is hy 0 11 rfl) ew9809 ?_
              refine WP_iload_n dX11_is_52 rfl ?_
              refine WQ_iadd dX11_is_53 (by omega) (by omega) (fun v9863 hv9863 => ?_)
              refine WQ_baldu dX11_is_54 (ly_is hy 1 12 rfl) (ly_n hy 1 900 rfl) (by omega) (by omega) (fun v9864 => ?_)
              refine WP_aload_n dX11_is_55 rfl ?_
              refine WP_iload_n dX11_is_56 rfl ?_
              refine WS_call hz (i := ii) (by omega) dX11_is_57 ⟨⟨by decide, by decide⟩, zJ0_charAt_5068e⟩ lX11_45 vJ0_charAt_5068e (As := [.int i9858]) (rest := [.int v9864]) (j_charAt hz (i := ii) (k := i9858) (by omega) (by omega) (by omega)) rfl rfl (Nat.le_of_ble_eq_true rfl) ?_
              intro r Ia Ja Ra hq
              obtain ⟨⟨ea, eb, ec⟩, v9865, rfl, cv9865⟩ := hq
              show WP _ _ _ _ (.int _ :: _) _ _ _ _
              rw [ea, eb, ec]
              clear ea eb ec Ia Ja Ra
              have jn68_9868 : ∀ (v9868 : Int32), 0 ≤ v9868.toInt → v9868.toInt ≤ 1 → WP g mX11_is 68 [(0, .ref (ad g 0)), (1, .ref (aK (ii))), (2, .int i9857), (3, .int i9858)] [.int v9868] I J R (fun r I' J' R' => (I' = I ∧ J' = J ∧ R' = R) ∧ ∃ v : Int32, r = some (.int v) ∧ 0 ≤ v.toInt ∧ v.toInt ≤ 1) := by
                intro v9868 av9868 bv9868
                refine WP_istore_n (ls' := [(0, _), (1, _), (2, _), (3, _)]) dX11_is_68 (by decide) rfl ?_
                refine WP_iinc (ls' := [(0, _), (1, _), (2, _), (3, _)]) dX11_is_69 rfl (by decide) rfl ?_
                have hv9870 : (i9858 + Int32.ofInt (1)).toInt = i9858.toInt + (1) := ia_n rfl (by omega) (by omega)
                generalize i9858 + Int32.ofInt (1) = v9870 at hv9870 ⊢
                refine WP_goto 32 dX11_is_72 rfl ?_
                exact WP_sub (fc rfl (fc rfl (fc rfl (fc rfl fn)))) (ihlp32_9858 v9868 v9870 (by omega) (by omega) (by omega) (by omega) (by omega) (by omega))
              refine WQ_icmp_ne 67 dX11_is_60 rfl (fun c9870 => ?_) (fun c9870 => ?_)
              · refine WQ_iconst (0) (0) dX11_is_67 rfl rfl (fun v9872 hv9872 => ?_)
                exact WP_sub (fc rfl (fc rfl (fc rfl (fc rfl fn)))) (jn68_9868 v9872 (by omega) (by omega))
              · refine WQ_iconst (1) (1) dX11_is_63 rfl rfl (fun v9873 hv9873 => ?_)
                refine WP_goto 68 dX11_is_64 rfl ?_
                exact WP_sub (fc rfl (fc rfl (fc rfl (fc rfl fn)))) (jn68_9868 v9873 (by omega) (by omega))
      exact WP_sub (fc rfl (fc rfl (fc rfl (fc rfl fn)))) (lp32_9858 _ v9855 v9856 (by omega) (by omega) (by omega) (by omega) (by omega) (Nat.lt_succ_self _))
set_option maxHeartbeats 4000000 in
set_option maxRecDepth 100000 in
theorem sm_readOnce {g : GG} {n : Int} {L : Int32} (hy : Ly g) {aK aV : Nat → Nat} {fo : Option Nat} (hz : HZ g aK aV fo)  {I : pI} {J : pJ} {R : pR} (hr : Rf g R) (hI : MP g n L I)   (hb : ((I (ad g 0) 4).toInt ≤ (I (ad g 0) 2).toInt ∧ (I (ad g 0) 3).toInt ≤ (I (ad g 0) 4).toInt ∧ ((I (ad g 0) 5).toInt = 0 ∨ (I (ad g 0) 3).toInt < (I (ad g 0) 4).toInt)) ∧ (I (ad g 0) 17).toInt < (I (ad g 0) 15).toInt) (hw : WRt (I (ad g 30)) (I (ad g 31)) (7 * (I (ad g 0) 15).toInt)) : SP g mX11_readOnce [.ref (ad g 0)] I J R (fun r I' J' R' => (MP g n L I' ∧ R' = R ∧ fz 49 g [0] I I' ∧ fz 49 g [] J J' ∧ fs g [3, 4, 5, 6, 7, 8, 9, 17, 18] I I' ∧ (((I' (ad g 0) 4).toInt ≤ (I' (ad g 0) 2).toInt ∧ (I' (ad g 0) 3).toInt ≤ (I' (ad g 0) 4).toInt ∧ ((I' (ad g 0) 5).toInt = 0 ∨ (I' (ad g 0) 3).toInt < (I' (ad g 0) 4).toInt)) ∧ (I (ad g 0) 3).toInt ≤ (I' (ad g 0) 3).toInt ∧ (I' (ad g 0) 17).toInt < (I' (ad g 0) 15).toInt)) ∧ ∃ v : Int32, r = some (.int v) ∧ 0 ≤ v.toInt ∧ v.toInt ≤ 1 ∧ (v.toInt = 1 → WRt (I' (ad g 30)) (I' (ad g 31)) (7 * (I' (ad g 0) 15).toInt))) := by
  refine SP_of ⟨by decide, rfl⟩ (Nat.le_of_ble_eq_true rfl) ?_
  have e9874 : I (ad g 0) 1 = L := hI.1.2
  have b9875 := BT_get hI.1.1 0 1 2 (0) (0) (900) (by decide) 1 (by decide) (by decide)
  rw [e9874] at b9875
  have fr0 : fz 49 g [0] I I := fz_rf
  have frj0 : fz 49 g [] J J := fz_rf
  have frq0 : fs g [3, 4, 5, 6, 7, 8, 9, 17, 18] I I := fs_rf
  obtain ⟨w9876, ew9876⟩ : ∃ w : Int32, I (ad g 0) 2 = w := ⟨_, rfl⟩
  have bw9876 := BT_get hI.1.1 0 2 3 (0) (0) (900) (by decide) 2 (by decide) (by decide)
  rw [ew9876] at bw9876
  obtain ⟨w9877, ew9877⟩ : ∃ w : Int32, I (ad g 0) 3 = w := ⟨_, rfl⟩
  have bw9877 := BT_get hI.1.1 0 3 4 (0) (0) (900) (by decide) 3 (by decide) (by decide)
  rw [ew9877] at bw9877
  obtain ⟨w9878, ew9878⟩ : ∃ w : Int32, I (ad g 0) 4 = w := ⟨_, rfl⟩
  have bw9878 := BT_get hI.1.1 0 4 5 (0) (0) (900) (by decide) 4 (by decide) (by decide)
  rw [ew9878] at bw9878
  obtain ⟨w9879, ew9879⟩ : ∃ w : Int32, I (ad g 0) 5 = w := ⟨_, rfl⟩
  have bw9879 := BT_get hI.1.1 0 5 6 (0) (0) (4) (by decide) 5 (by decide) (by decide)
  rw [ew9879] at bw9879
  obtain ⟨w9880, ew9880⟩ : ∃ w : Int32, I (ad g 0) 15 = w := ⟨_, rfl⟩
  have bw9880 := BT_get hI.1.1 0 15 16 (0) (0) (4) (by decide) 15 (by decide) (by decide)
  rw [ew9880] at bw9880
  obtain ⟨w9881, ew9881⟩ : ∃ w : Int32, I (ad g 0) 17 = w := ⟨_, rfl⟩
  have bw9881 := BT_get hI.1.1 0 17 18 (-1) (0) (3) (by decide) 17 (by decide) (by decide)
  rw [ew9881] at bw9881
  rw [ew9876, ew9877, ew9878, ew9879, ew9880, ew9881] at hb
  refine WP_aload_n dX11_readOnce_0 rfl ?_
  refine WS_ldc hz 30 rfl dX11_readOnce_1 ?_
  refine WP_callV1 (k := 11) dX11_readOnce_3 ⟨⟨⟨by decide, by decide⟩, zX11_is⟩, lX11_152, by decide, rfl, vX11_is.1, vX11_is.2⟩ (ly_is hy 0 11 rfl) (sm_is hy hz hr hI (30) (by omega)) (Nat.le_of_ble_eq_true rfl) ?_
  intro r Ia Ja Ra hq
  obtain ⟨⟨ea, eb, ec⟩, v9882, rfl, av9882, bv9882⟩ := hq
  show WP _ _ _ _ (.int _ :: _) _ _ _ _
  rw [ea, eb, ec]
  clear ea eb ec Ia Ja Ra
  refine WP_istore_n (ls' := [(0, _), (1, _)]) dX11_readOnce_6 (by decide) rfl ?_
  refine WP_iload_n dX11_readOnce_7 rfl ?_
  refine WQ_if_ne 26 dX11_readOnce_8 rfl (fun c9882 => ?_) (fun c9882 => ?_)
  · refine WP_iload_n dX11_readOnce_26 rfl ?_
    refine WQ_if_eq 41 dX11_readOnce_27 rfl (fun c9883 => False.elim (by omega)) (fun c9883 => ?_)
    refine WP_aload_n dX11_readOnce_30 rfl ?_
    refine WQ_getim dX11_readOnce_31 fX11_158 rfl (ly_is hy 0 11 rfl) ew9881 ?_
    refine WQ_iconst (-1) (-1) dX11_readOnce_34 rfl rfl (fun v9885 hv9885 => ?_)
    refine WQ_icmp_eq 55 dX11_readOnce_35 rfl (fun c9885 => ?_) (fun c9885 => ?_)
    · refine WP_aload_n dX11_readOnce_55 rfl ?_
      refine WP_callV0 (k := 11) dX11_readOnce_56 ⟨⟨⟨by decide, by decide⟩, zX11_scan⟩, lX11_63, by decide, rfl, vX11_scan.1, vX11_scan.2⟩ (ly_is hy 0 11 rfl) (sm_scanx hy hr hI   (by rw [ew9878, ew9876]; omega)) (Nat.le_of_ble_eq_true rfl) ?_
      intro r I9887 J9888 Ra hq
      obtain ⟨⟨hI9887, ec, fiI9887, fjI9887, fqI9887, ⟨pI9887, sI9887_0_7, sI9887_0_15, sI9887_0_16, sI9887_0_17, sI9887_0_18⟩⟩, rfl⟩ := hq
      rw [ec]
      clear ec Ra
      have fr9889 : fz 49 g [0] I I9887 := fz_tr fr0 (fz_mono fiI9887 (by decide))
      have fr9890 : fs g [3, 4, 5, 6, 7, 8, 9, 17, 18] I I9887 := fs_tr frq0 (fs_mono fqI9887 (by decide))
      have fr9891 : fz 49 g [] J J9888 := fz_tr frj0 (fz_mono fjI9887 (by decide))
      have e9892 : I9887 (ad g 0) 15 = w9880 := by rw [sI9887_0_15]; exact ew9880
      have e9893 : I9887 (ad g 0) 17 = w9881 := by rw [sI9887_0_17]; exact ew9881
      have e9894 : I9887 (ad g 0) 1 = L := hI9887.1.2
      have b9895 := BT_get hI9887.1.1 0 1 2 (0) (0) (900) (by decide) 1 (by decide) (by decide)
      rw [e9894] at b9895
      obtain ⟨w9896, ew9896⟩ : ∃ w : Int32, I9887 (ad g 0) 2 = w := ⟨_, rfl⟩
      have bw9896 := BT_get hI9887.1.1 0 2 3 (0) (0) (900) (by decide) 2 (by decide) (by decide)
      rw [ew9896] at bw9896
      obtain ⟨w9897, ew9897⟩ : ∃ w : Int32, I9887 (ad g 0) 3 = w := ⟨_, rfl⟩
      have bw9897 := BT_get hI9887.1.1 0 3 4 (0) (0) (900) (by decide) 3 (by decide) (by decide)
      rw [ew9897] at bw9897
      obtain ⟨w9898, ew9898⟩ : ∃ w : Int32, I9887 (ad g 0) 4 = w := ⟨_, rfl⟩
      have bw9898 := BT_get hI9887.1.1 0 4 5 (0) (0) (900) (by decide) 4 (by decide) (by decide)
      rw [ew9898] at bw9898
      obtain ⟨w9899, ew9899⟩ : ∃ w : Int32, I9887 (ad g 0) 5 = w := ⟨_, rfl⟩
      have bw9899 := BT_get hI9887.1.1 0 5 6 (0) (0) (4) (by decide) 5 (by decide) (by decide)
      rw [ew9899] at bw9899
      rw [ew9896, ew9897, ew9898, ew9899, ew9878] at pI9887
      refine WP_iload_n dX11_readOnce_59 rfl ?_
      refine WQ_if_eq 81 dX11_readOnce_60 rfl (fun c9899 => False.elim (by omega)) (fun c9899 => ?_)
      refine WP_aload_n dX11_readOnce_63 rfl ?_
      refine WP_aload_n dX11_readOnce_64 rfl ?_
      refine WP_getr dX11_readOnce_65 fX11_91 rfl (ly_is hy 0 11 rfl) (rf hr 0 22 4 (by decide)) ?_
      refine WP_aload_n dX11_readOnce_68 rfl ?_
      refine WQ_getim dX11_readOnce_69 fX11_88 rfl (ly_is hy 0 11 rfl) e9892 ?_
      refine WP_callV2 (k := 11) dX11_readOnce_72 ⟨⟨⟨by decide, by decide⟩, zX11_known⟩, lX11_147, by decide, rfl, vX11_known.1, vX11_known.2⟩ (ly_is hy 0 11 rfl) (sm_knownx_4 hy hr hI9887 w9880 (by omega) (by omega) (by rw [ew9896, ew9897, ew9898, ew9899]; omega)) (Nat.le_of_ble_eq_true rfl) ?_
      intro r I9901 J9902 Ra hq
      obtain ⟨⟨hI9901, ec, fiI9901, fjI9901, fqI9901, ⟨pI9901, sI9901_0_15, sI9901_0_16, sI9901_0_17, sI9901_0_18⟩⟩, v9903, rfl, av9903, bv9903, cv9903⟩ := hq
      show WP _ _ _ _ (.int _ :: _) _ _ _ _
      rw [ec]
      clear ec Ra
      have fr9904 : fz 49 g [0] I I9901 := fz_tr fr9889 (fz_mono fiI9901 (by decide))
      have fr9905 : fs g [3, 4, 5, 6, 7, 8, 9, 17, 18] I I9901 := fs_tr fr9890 (fs_mono fqI9901 (by decide))
      have fr9906 : fz 49 g [] J J9902 := fz_tr fr9891 (fz_mono fjI9901 (by decide))
      have e9907 : I9901 (ad g 0) 15 = w9880 := by rw [sI9901_0_15]; exact e9892
      have e9908 : I9901 (ad g 0) 17 = w9881 := by rw [sI9901_0_17]; exact e9893
      have e9909 : I9901 (ad g 0) 1 = L := hI9901.1.2
      have b9910 := BT_get hI9901.1.1 0 1 2 (0) (0) (900) (by decide) 1 (by decide) (by decide)
      rw [e9909] at b9910
      obtain ⟨w9911, ew9911⟩ : ∃ w : Int32, I9901 (ad g 0) 2 = w := ⟨_, rfl⟩
      have bw9911 := BT_get hI9901.1.1 0 2 3 (0) (0) (900) (by decide) 2 (by decide) (by decide)
      rw [ew9911] at bw9911
      obtain ⟨w9912, ew9912⟩ : ∃ w : Int32, I9901 (ad g 0) 3 = w := ⟨_, rfl⟩
      have bw9912 := BT_get hI9901.1.1 0 3 4 (0) (0) (900) (by decide) 3 (by decide) (by decide)
      rw [ew9912] at bw9912
      obtain ⟨w9913, ew9913⟩ : ∃ w : Int32, I9901 (ad g 0) 4 = w := ⟨_, rfl⟩
      have bw9913 := BT_get hI9901.1.1 0 4 5 (0) (0) (900) (by decide) 4 (by decide) (by decide)
      rw [ew9913] at bw9913
      obtain ⟨w9914, ew9914⟩ : ∃ w : Int32, I9901 (ad g 0) 5 = w := ⟨_, rfl⟩
      have bw9914 := BT_get hI9901.1.1 0 5 6 (0) (0) (4) (by decide) 5 (by decide) (by decide)
      rw [ew9914] at bw9914
      rw [ew9911, ew9912, ew9913, ew9914, ew9897] at pI9901
      obtain ⟨w9915, ew9915⟩ : ∃ w : Int32, I9901 (ad g 0) 7 = w := ⟨_, rfl⟩
      have bw9915 := BT_get hI9901.1.1 0 7 8 (-1) (0) (1000) (by decide) 7 (by decide) (by decide)
      rw [ew9915] at bw9915
      rw [ew9915] at cv9903
      refine WQ_if_eq 96 dX11_readOnce_75 rfl (fun c9915 => ?_) (fun c9915 => ?_)
      · refine WQ_iconst (0) (0) dX11_readOnce_96 rfl rfl (fun v9917 hv9917 => ?_)
        exact WP_zret dX11_readOnce_97 rfl (nar_z (by omega)) ⟨⟨hI9901, rfl, fr9904, fr9906, fr9905, (by rw [ew9911, ew9912, ew9913, ew9914, e9907, e9908, ew9877]; omega)⟩, _, rfl, by omega, by omega, (fun h => False.elim (by omega))⟩
      · refine WP_goto 98 dX11_readOnce_78 rfl ?_
        refine WP_iload_n dX11_readOnce_98 rfl ?_
        refine WQ_if_eq 113 dX11_readOnce_99 rfl (fun c9917 => False.elim (by omega)) (fun c9917 => ?_)
        refine WP_aload_n dX11_readOnce_102 rfl ?_
        refine WP_aload_n dX11_readOnce_103 rfl ?_
        refine WQ_getim dX11_readOnce_104 fX11_56 rfl (ly_is hy 0 11 rfl) ew9915 ?_
        refine WQ_puti dX11_readOnce_107 fX11_158 rfl rfl (ly_is hy 0 11 rfl) (fun I9919 eI9919 => ?_)
        have hI9919 : MP g n L I9919 := by rw [eI9919]; exact (mp_w hy hI9901 (c := 0) (mi_f hy hI9901.1 (c := 0) (-1) (0) (3) (by decide) (Or.inr (by decide)) (by decide) (by omega) (by omega)) (by decide) (by decide) (Or.inr (by decide)))
        have e9920 : I9919 (ad g 0) 15 = w9880 := by rw [eI9919, pp_ne _ _ (Or.inr (by decide))]; exact e9907
        have e9921 : I9919 (ad g 0) 1 = L := by rw [eI9919, pp_ne _ _ (Or.inr (by decide))]; exact e9909
        have e9922 : I9919 (ad g 0) 2 = w9911 := by rw [eI9919, pp_ne _ _ (Or.inr (by decide))]; exact ew9911
        have e9923 : I9919 (ad g 0) 3 = w9912 := by rw [eI9919, pp_ne _ _ (Or.inr (by decide))]; exact ew9912
        have e9924 : I9919 (ad g 0) 4 = w9913 := by rw [eI9919, pp_ne _ _ (Or.inr (by decide))]; exact ew9913
        have e9925 : I9919 (ad g 0) 5 = w9914 := by rw [eI9919, pp_ne _ _ (Or.inr (by decide))]; exact ew9914
        have e9926 : I9919 (ad g 0) 7 = w9915 := by rw [eI9919, pp_ne _ _ (Or.inr (by decide))]; exact ew9915
        have e9927 : I9919 (ad g 0) 17 = w9915 := by rw [eI9919, pp_self]
        have fr9928 : fs g [3, 4, 5, 6, 7, 8, 9, 17, 18] I I9919 := by rw [eI9919]; exact fs_pp0 fr9905 (by decide)
        have fr9929 : fz 49 g [0] I I9919 := by rw [eI9919]; exact fzm_pp hy fr9904 (by decide) (by decide)
        clear eI9919
        refine WP_goto 121 dX11_readOnce_110 rfl ?_
        refine WQ_iconst (1) (1) dX11_readOnce_121 rfl rfl (fun v9930 hv9930 => ?_)
        exact WP_zret dX11_readOnce_122 rfl (nar_z (by omega)) ⟨⟨hI9919, rfl, fr9929, fr9906, fr9928, (by rw [e9922, e9923, e9924, e9925, e9920, e9927, ew9877]; omega)⟩, _, rfl, by omega, by omega, (fun _ => by rw [fz_at fr9929 30 (by decide) (by decide), fz_at fr9929 31 (by decide) (by decide), show I9919 (ad g 0) 15 = I (ad g 0) 15 from (by rw [e9920, ew9880] <;> exact (eq32 _ _).mpr (by omega))]; exact hw)⟩
    · refine WP_goto 49 dX11_readOnce_38 rfl ?_
      refine WP_aload_n dX11_readOnce_49 rfl ?_
      refine WQ_iconst (3) (3) dX11_readOnce_50 rfl rfl (fun v9931 hv9931 => ?_)
      refine WP_callV1 (k := 11) dX11_readOnce_51 ⟨⟨⟨by decide, by decide⟩, zX11_bad⟩, lX11_49, by decide, rfl, vX11_bad.1, vX11_bad.2⟩ (ly_is hy 0 11 rfl) (sm_badx hy hr hI v9931  (by rw [ew9876, ew9877, ew9878, ew9879]; omega)) (Nat.le_of_ble_eq_true rfl) ?_
      intro r I9932 J9933 Ra hq
      obtain ⟨⟨hI9932, ec, fiI9932, fjI9932, fqI9932, ⟨pI9932, sI9932_0_15, sI9932_0_16, sI9932_0_17, sI9932_0_18⟩⟩, v9934, rfl, av9934, bv9934⟩ := hq
      show WP _ _ _ _ (.int _ :: _) _ _ _ _
      rw [ec]
      clear ec Ra
      have fr9935 : fz 49 g [0] I I9932 := fz_tr fr0 (fz_mono fiI9932 (by decide))
      have fr9936 : fs g [3, 4, 5, 6, 7, 8, 9, 17, 18] I I9932 := fs_tr frq0 (fs_mono fqI9932 (by decide))
      have fr9937 : fz 49 g [] J J9933 := fz_tr frj0 (fz_mono fjI9932 (by decide))
      have e9938 : I9932 (ad g 0) 15 = w9880 := by rw [sI9932_0_15]; exact ew9880
      have e9939 : I9932 (ad g 0) 17 = w9881 := by rw [sI9932_0_17]; exact ew9881
      have e9940 : I9932 (ad g 0) 1 = L := hI9932.1.2
      have b9941 := BT_get hI9932.1.1 0 1 2 (0) (0) (900) (by decide) 1 (by decide) (by decide)
      rw [e9940] at b9941
      obtain ⟨w9942, ew9942⟩ : ∃ w : Int32, I9932 (ad g 0) 2 = w := ⟨_, rfl⟩
      have bw9942 := BT_get hI9932.1.1 0 2 3 (0) (0) (900) (by decide) 2 (by decide) (by decide)
      rw [ew9942] at bw9942
      obtain ⟨w9943, ew9943⟩ : ∃ w : Int32, I9932 (ad g 0) 3 = w := ⟨_, rfl⟩
      have bw9943 := BT_get hI9932.1.1 0 3 4 (0) (0) (900) (by decide) 3 (by decide) (by decide)
      rw [ew9943] at bw9943
      obtain ⟨w9944, ew9944⟩ : ∃ w : Int32, I9932 (ad g 0) 4 = w := ⟨_, rfl⟩
      have bw9944 := BT_get hI9932.1.1 0 4 5 (0) (0) (900) (by decide) 4 (by decide) (by decide)
      rw [ew9944] at bw9944
      obtain ⟨w9945, ew9945⟩ : ∃ w : Int32, I9932 (ad g 0) 5 = w := ⟨_, rfl⟩
      have bw9945 := BT_get hI9932.1.1 0 5 6 (0) (0) (4) (by decide) 5 (by decide) (by decide)
      rw [ew9945] at bw9945
      rw [ew9942, ew9943, ew9944, ew9945, ew9877] at pI9932
      exact WP_zret dX11_readOnce_54 rfl (nar_z (by omega)) ⟨⟨hI9932, rfl, fr9935, fr9937, fr9936, (by rw [ew9942, ew9943, ew9944, ew9945, e9938, e9939, ew9877]; omega)⟩, _, rfl, by omega, by omega, (fun h => False.elim (by omega))⟩
  · refine WP_aload_n dX11_readOnce_11 rfl ?_
    refine WS_ldc hz 31 rfl dX11_readOnce_12 ?_
    refine WP_callV1 (k := 11) dX11_readOnce_14 ⟨⟨⟨by decide, by decide⟩, zX11_is⟩, lX11_152, by decide, rfl, vX11_is.1, vX11_is.2⟩ (ly_is hy 0 11 rfl) (sm_is hy hz hr hI (31) (by omega)) (Nat.le_of_ble_eq_true rfl) ?_
    intro r Ia Ja Ra hq
    obtain ⟨⟨ea, eb, ec⟩, v9946, rfl, av9946, bv9946⟩ := hq
    show WP _ _ _ _ (.int _ :: _) _ _ _ _
    rw [ea, eb, ec]
    clear ea eb ec Ia Ja Ra
    refine WQ_if_ne 26 dX11_readOnce_17 rfl (fun c9946 => ?_) (fun c9946 => ?_)
    · refine WP_iload_n dX11_readOnce_26 rfl ?_
      refine WQ_if_eq 41 dX11_readOnce_27 rfl (fun c9947 => ?_) (fun c9947 => False.elim (by omega))
      refine WP_aload_n dX11_readOnce_41 rfl ?_
      refine WQ_geti dX11_readOnce_42 fX11_161 rfl (ly_is hy 0 11 rfl) (BT_get hI.1.1 0 18 19 (-1) (0) (2) (by decide) 18 (by decide) (by decide)) (fun v9949 ev9949 av9949 bv9949 => ?_)
      refine WQ_iconst (-1) (-1) dX11_readOnce_45 rfl rfl (fun v9950 hv9950 => ?_)
      refine WQ_icmp_eq 55 dX11_readOnce_46 rfl (fun c9950 => ?_) (fun c9950 => ?_)
      · refine WP_aload_n dX11_readOnce_55 rfl ?_
        refine WP_callV0 (k := 11) dX11_readOnce_56 ⟨⟨⟨by decide, by decide⟩, zX11_scan⟩, lX11_63, by decide, rfl, vX11_scan.1, vX11_scan.2⟩ (ly_is hy 0 11 rfl) (sm_scanx hy hr hI   (by rw [ew9878, ew9876]; omega)) (Nat.le_of_ble_eq_true rfl) ?_
        intro r I9952 J9953 Ra hq
        obtain ⟨⟨hI9952, ec, fiI9952, fjI9952, fqI9952, ⟨pI9952, sI9952_0_7, sI9952_0_15, sI9952_0_16, sI9952_0_17, sI9952_0_18⟩⟩, rfl⟩ := hq
        rw [ec]
        clear ec Ra
        have fr9954 : fz 49 g [0] I I9952 := fz_tr fr0 (fz_mono fiI9952 (by decide))
        have fr9955 : fs g [3, 4, 5, 6, 7, 8, 9, 17, 18] I I9952 := fs_tr frq0 (fs_mono fqI9952 (by decide))
        have fr9956 : fz 49 g [] J J9953 := fz_tr frj0 (fz_mono fjI9952 (by decide))
        have e9957 : I9952 (ad g 0) 15 = w9880 := by rw [sI9952_0_15]; exact ew9880
        have e9958 : I9952 (ad g 0) 17 = w9881 := by rw [sI9952_0_17]; exact ew9881
        have e9959 : I9952 (ad g 0) 18 = v9949 := by rw [sI9952_0_18]; exact ev9949
        have e9960 : I9952 (ad g 0) 1 = L := hI9952.1.2
        have b9961 := BT_get hI9952.1.1 0 1 2 (0) (0) (900) (by decide) 1 (by decide) (by decide)
        rw [e9960] at b9961
        obtain ⟨w9962, ew9962⟩ : ∃ w : Int32, I9952 (ad g 0) 2 = w := ⟨_, rfl⟩
        have bw9962 := BT_get hI9952.1.1 0 2 3 (0) (0) (900) (by decide) 2 (by decide) (by decide)
        rw [ew9962] at bw9962
        obtain ⟨w9963, ew9963⟩ : ∃ w : Int32, I9952 (ad g 0) 3 = w := ⟨_, rfl⟩
        have bw9963 := BT_get hI9952.1.1 0 3 4 (0) (0) (900) (by decide) 3 (by decide) (by decide)
        rw [ew9963] at bw9963
        obtain ⟨w9964, ew9964⟩ : ∃ w : Int32, I9952 (ad g 0) 4 = w := ⟨_, rfl⟩
        have bw9964 := BT_get hI9952.1.1 0 4 5 (0) (0) (900) (by decide) 4 (by decide) (by decide)
        rw [ew9964] at bw9964
        obtain ⟨w9965, ew9965⟩ : ∃ w : Int32, I9952 (ad g 0) 5 = w := ⟨_, rfl⟩
        have bw9965 := BT_get hI9952.1.1 0 5 6 (0) (0) (4) (by decide) 5 (by decide) (by decide)
        rw [ew9965] at bw9965
        rw [ew9962, ew9963, ew9964, ew9965, ew9878] at pI9952
        refine WP_iload_n dX11_readOnce_59 rfl ?_
        refine WQ_if_eq 81 dX11_readOnce_60 rfl (fun c9965 => ?_) (fun c9965 => False.elim (by omega))
        refine WP_aload_n dX11_readOnce_81 rfl ?_
        refine WP_aload_n dX11_readOnce_82 rfl ?_
        refine WP_getr dX11_readOnce_83 fX11_129 rfl (ly_is hy 0 11 rfl) (rf hr 0 23 5 (by decide)) ?_
        refine WP_aload_n dX11_readOnce_86 rfl ?_
        refine WQ_geti dX11_readOnce_87 fX11_126 rfl (ly_is hy 0 11 rfl) (BT_get hI9952.1.1 0 16 17 (0) (0) (3) (by decide) 16 (by decide) (by decide)) (fun v9967 ev9967 av9967 bv9967 => ?_)
        refine WP_callV2 (k := 11) dX11_readOnce_90 ⟨⟨⟨by decide, by decide⟩, zX11_known⟩, lX11_147, by decide, rfl, vX11_known.1, vX11_known.2⟩ (ly_is hy 0 11 rfl) (sm_knownx_5 hy hr hI9952 v9967 (by omega) (by omega) (by rw [ew9962, ew9963, ew9964, ew9965]; omega)) (Nat.le_of_ble_eq_true rfl) ?_
        intro r I9968 J9969 Ra hq
        obtain ⟨⟨hI9968, ec, fiI9968, fjI9968, fqI9968, ⟨pI9968, sI9968_0_15, sI9968_0_16, sI9968_0_17, sI9968_0_18⟩⟩, v9970, rfl, av9970, bv9970, cv9970⟩ := hq
        show WP _ _ _ _ (.int _ :: _) _ _ _ _
        rw [ec]
        clear ec Ra
        have fr9971 : fz 49 g [0] I I9968 := fz_tr fr9954 (fz_mono fiI9968 (by decide))
        have fr9972 : fs g [3, 4, 5, 6, 7, 8, 9, 17, 18] I I9968 := fs_tr fr9955 (fs_mono fqI9968 (by decide))
        have fr9973 : fz 49 g [] J J9969 := fz_tr fr9956 (fz_mono fjI9968 (by decide))
        have e9974 : I9968 (ad g 0) 15 = w9880 := by rw [sI9968_0_15]; exact e9957
        have e9975 : I9968 (ad g 0) 16 = v9967 := by rw [sI9968_0_16]; exact ev9967
        have e9976 : I9968 (ad g 0) 17 = w9881 := by rw [sI9968_0_17]; exact e9958
        have e9977 : I9968 (ad g 0) 18 = v9949 := by rw [sI9968_0_18]; exact e9959
        have e9978 : I9968 (ad g 0) 1 = L := hI9968.1.2
        have b9979 := BT_get hI9968.1.1 0 1 2 (0) (0) (900) (by decide) 1 (by decide) (by decide)
        rw [e9978] at b9979
        obtain ⟨w9980, ew9980⟩ : ∃ w : Int32, I9968 (ad g 0) 2 = w := ⟨_, rfl⟩
        have bw9980 := BT_get hI9968.1.1 0 2 3 (0) (0) (900) (by decide) 2 (by decide) (by decide)
        rw [ew9980] at bw9980
        obtain ⟨w9981, ew9981⟩ : ∃ w : Int32, I9968 (ad g 0) 3 = w := ⟨_, rfl⟩
        have bw9981 := BT_get hI9968.1.1 0 3 4 (0) (0) (900) (by decide) 3 (by decide) (by decide)
        rw [ew9981] at bw9981
        obtain ⟨w9982, ew9982⟩ : ∃ w : Int32, I9968 (ad g 0) 4 = w := ⟨_, rfl⟩
        have bw9982 := BT_get hI9968.1.1 0 4 5 (0) (0) (900) (by decide) 4 (by decide) (by decide)
        rw [ew9982] at bw9982
        obtain ⟨w9983, ew9983⟩ : ∃ w : Int32, I9968 (ad g 0) 5 = w := ⟨_, rfl⟩
        have bw9983 := BT_get hI9968.1.1 0 5 6 (0) (0) (4) (by decide) 5 (by decide) (by decide)
        rw [ew9983] at bw9983
        rw [ew9980, ew9981, ew9982, ew9983, ew9963] at pI9968
        obtain ⟨w9984, ew9984⟩ : ∃ w : Int32, I9968 (ad g 0) 7 = w := ⟨_, rfl⟩
        have bw9984 := BT_get hI9968.1.1 0 7 8 (-1) (0) (1000) (by decide) 7 (by decide) (by decide)
        rw [ew9984] at bw9984
        rw [ew9984] at cv9970
        refine WQ_if_ne 98 dX11_readOnce_93 rfl (fun c9984 => ?_) (fun c9984 => ?_)
        · refine WP_iload_n dX11_readOnce_98 rfl ?_
          refine WQ_if_eq 113 dX11_readOnce_99 rfl (fun c9985 => ?_) (fun c9985 => False.elim (by omega))
          refine WP_aload_n dX11_readOnce_113 rfl ?_
          refine WP_aload_n dX11_readOnce_114 rfl ?_
          refine WQ_getim dX11_readOnce_115 fX11_56 rfl (ly_is hy 0 11 rfl) ew9984 ?_
          refine WQ_puti dX11_readOnce_118 fX11_161 rfl rfl (ly_is hy 0 11 rfl) (fun I9987 eI9987 => ?_)
          have hI9987 : MP g n L I9987 := by rw [eI9987]; exact (mp_w hy hI9968 (c := 0) (mi_f hy hI9968.1 (c := 0) (-1) (0) (2) (by decide) (Or.inr (by decide)) (by decide) (by omega) (by omega)) (by decide) (by decide) (Or.inr (by decide)))
          have e9988 : I9987 (ad g 0) 15 = w9880 := by rw [eI9987, pp_ne _ _ (Or.inr (by decide))]; exact e9974
          have e9989 : I9987 (ad g 0) 16 = v9967 := by rw [eI9987, pp_ne _ _ (Or.inr (by decide))]; exact e9975
          have e9990 : I9987 (ad g 0) 17 = w9881 := by rw [eI9987, pp_ne _ _ (Or.inr (by decide))]; exact e9976
          have e9991 : I9987 (ad g 0) 1 = L := by rw [eI9987, pp_ne _ _ (Or.inr (by decide))]; exact e9978
          have e9992 : I9987 (ad g 0) 2 = w9980 := by rw [eI9987, pp_ne _ _ (Or.inr (by decide))]; exact ew9980
          have e9993 : I9987 (ad g 0) 3 = w9981 := by rw [eI9987, pp_ne _ _ (Or.inr (by decide))]; exact ew9981
          have e9994 : I9987 (ad g 0) 4 = w9982 := by rw [eI9987, pp_ne _ _ (Or.inr (by decide))]; exact ew9982
          have e9995 : I9987 (ad g 0) 5 = w9983 := by rw [eI9987, pp_ne _ _ (Or.inr (by decide))]; exact ew9983
          have e9996 : I9987 (ad g 0) 7 = w9984 := by rw [eI9987, pp_ne _ _ (Or.inr (by decide))]; exact ew9984
          have e9997 : I9987 (ad g 0) 18 = w9984 := by rw [eI9987, pp_self]
          have fr9998 : fs g [3, 4, 5, 6, 7, 8, 9, 17, 18] I I9987 := by rw [eI9987]; exact fs_pp0 fr9972 (by decide)
          have fr9999 : fz 49 g [0] I I9987 := by rw [eI9987]; exact fzm_pp hy fr9971 (by decide) (by decide)
          clear eI9987
          refine WQ_iconst (1) (1) dX11_readOnce_121 rfl rfl (fun v10000 hv10000 => ?_)
          exact WP_zret dX11_readOnce_122 rfl (nar_z (by omega)) ⟨⟨hI9987, rfl, fr9999, fr9973, fr9998, (by rw [e9992, e9993, e9994, e9995, e9988, e9990, ew9877]; omega)⟩, _, rfl, by omega, by omega, (fun _ => by rw [fz_at fr9999 30 (by decide) (by decide), fz_at fr9999 31 (by decide) (by decide), show I9987 (ad g 0) 15 = I (ad g 0) 15 from (by rw [e9988, ew9880] <;> exact (eq32 _ _).mpr (by omega))]; exact hw)⟩
        · refine WQ_iconst (0) (0) dX11_readOnce_96 rfl rfl (fun v10001 hv10001 => ?_)
          exact WP_zret dX11_readOnce_97 rfl (nar_z (by omega)) ⟨⟨hI9968, rfl, fr9971, fr9973, fr9972, (by rw [ew9980, ew9981, ew9982, ew9983, e9974, e9976, ew9877]; omega)⟩, _, rfl, by omega, by omega, (fun h => False.elim (by omega))⟩
      · refine WP_aload_n dX11_readOnce_49 rfl ?_
        refine WQ_iconst (3) (3) dX11_readOnce_50 rfl rfl (fun v10002 hv10002 => ?_)
        refine WP_callV1 (k := 11) dX11_readOnce_51 ⟨⟨⟨by decide, by decide⟩, zX11_bad⟩, lX11_49, by decide, rfl, vX11_bad.1, vX11_bad.2⟩ (ly_is hy 0 11 rfl) (sm_badx hy hr hI v10002  (by rw [ew9876, ew9877, ew9878, ew9879]; omega)) (Nat.le_of_ble_eq_true rfl) ?_
        intro r I10003 J10004 Ra hq
        obtain ⟨⟨hI10003, ec, fiI10003, fjI10003, fqI10003, ⟨pI10003, sI10003_0_15, sI10003_0_16, sI10003_0_17, sI10003_0_18⟩⟩, v10005, rfl, av10005, bv10005⟩ := hq
        show WP _ _ _ _ (.int _ :: _) _ _ _ _
        rw [ec]
        clear ec Ra
        have fr10006 : fz 49 g [0] I I10003 := fz_tr fr0 (fz_mono fiI10003 (by decide))
        have fr10007 : fs g [3, 4, 5, 6, 7, 8, 9, 17, 18] I I10003 := fs_tr frq0 (fs_mono fqI10003 (by decide))
        have fr10008 : fz 49 g [] J J10004 := fz_tr frj0 (fz_mono fjI10003 (by decide))
        have e10009 : I10003 (ad g 0) 15 = w9880 := by rw [sI10003_0_15]; exact ew9880
        have e10010 : I10003 (ad g 0) 17 = w9881 := by rw [sI10003_0_17]; exact ew9881
        have e10011 : I10003 (ad g 0) 18 = v9949 := by rw [sI10003_0_18]; exact ev9949
        have e10012 : I10003 (ad g 0) 1 = L := hI10003.1.2
        have b10013 := BT_get hI10003.1.1 0 1 2 (0) (0) (900) (by decide) 1 (by decide) (by decide)
        rw [e10012] at b10013
        obtain ⟨w10014, ew10014⟩ : ∃ w : Int32, I10003 (ad g 0) 2 = w := ⟨_, rfl⟩
        have bw10014 := BT_get hI10003.1.1 0 2 3 (0) (0) (900) (by decide) 2 (by decide) (by decide)
        rw [ew10014] at bw10014
        obtain ⟨w10015, ew10015⟩ : ∃ w : Int32, I10003 (ad g 0) 3 = w := ⟨_, rfl⟩
        have bw10015 := BT_get hI10003.1.1 0 3 4 (0) (0) (900) (by decide) 3 (by decide) (by decide)
        rw [ew10015] at bw10015
        obtain ⟨w10016, ew10016⟩ : ∃ w : Int32, I10003 (ad g 0) 4 = w := ⟨_, rfl⟩
        have bw10016 := BT_get hI10003.1.1 0 4 5 (0) (0) (900) (by decide) 4 (by decide) (by decide)
        rw [ew10016] at bw10016
        obtain ⟨w10017, ew10017⟩ : ∃ w : Int32, I10003 (ad g 0) 5 = w := ⟨_, rfl⟩
        have bw10017 := BT_get hI10003.1.1 0 5 6 (0) (0) (4) (by decide) 5 (by decide) (by decide)
        rw [ew10017] at bw10017
        rw [ew10014, ew10015, ew10016, ew10017, ew9877] at pI10003
        exact WP_zret dX11_readOnce_54 rfl (nar_z (by omega)) ⟨⟨hI10003, rfl, fr10006, fr10008, fr10007, (by rw [ew10014, ew10015, ew10016, ew10017, e10009, e10010, ew9877]; omega)⟩, _, rfl, by omega, by omega, (fun h => False.elim (by omega))⟩
    · refine WP_aload_n dX11_readOnce_20 rfl ?_
      refine WQ_iconst (1) (1) dX11_readOnce_21 rfl rfl (fun v10018 hv10018 => ?_)
      refine WP_callV1 (k := 11) dX11_readOnce_22 ⟨⟨⟨by decide, by decide⟩, zX11_bad⟩, lX11_49, by decide, rfl, vX11_bad.1, vX11_bad.2⟩ (ly_is hy 0 11 rfl) (sm_badx hy hr hI v10018  (by rw [ew9876, ew9877, ew9878, ew9879]; omega)) (Nat.le_of_ble_eq_true rfl) ?_
      intro r I10019 J10020 Ra hq
      obtain ⟨⟨hI10019, ec, fiI10019, fjI10019, fqI10019, ⟨pI10019, sI10019_0_15, sI10019_0_16, sI10019_0_17, sI10019_0_18⟩⟩, v10021, rfl, av10021, bv10021⟩ := hq
      show WP _ _ _ _ (.int _ :: _) _ _ _ _
      rw [ec]
      clear ec Ra
      have fr10022 : fz 49 g [0] I I10019 := fz_tr fr0 (fz_mono fiI10019 (by decide))
      have fr10023 : fs g [3, 4, 5, 6, 7, 8, 9, 17, 18] I I10019 := fs_tr frq0 (fs_mono fqI10019 (by decide))
      have fr10024 : fz 49 g [] J J10020 := fz_tr frj0 (fz_mono fjI10019 (by decide))
      have e10025 : I10019 (ad g 0) 15 = w9880 := by rw [sI10019_0_15]; exact ew9880
      have e10026 : I10019 (ad g 0) 17 = w9881 := by rw [sI10019_0_17]; exact ew9881
      have e10027 : I10019 (ad g 0) 1 = L := hI10019.1.2
      have b10028 := BT_get hI10019.1.1 0 1 2 (0) (0) (900) (by decide) 1 (by decide) (by decide)
      rw [e10027] at b10028
      obtain ⟨w10029, ew10029⟩ : ∃ w : Int32, I10019 (ad g 0) 2 = w := ⟨_, rfl⟩
      have bw10029 := BT_get hI10019.1.1 0 2 3 (0) (0) (900) (by decide) 2 (by decide) (by decide)
      rw [ew10029] at bw10029
      obtain ⟨w10030, ew10030⟩ : ∃ w : Int32, I10019 (ad g 0) 3 = w := ⟨_, rfl⟩
      have bw10030 := BT_get hI10019.1.1 0 3 4 (0) (0) (900) (by decide) 3 (by decide) (by decide)
      rw [ew10030] at bw10030
      obtain ⟨w10031, ew10031⟩ : ∃ w : Int32, I10019 (ad g 0) 4 = w := ⟨_, rfl⟩
      have bw10031 := BT_get hI10019.1.1 0 4 5 (0) (0) (900) (by decide) 4 (by decide) (by decide)
      rw [ew10031] at bw10031
      obtain ⟨w10032, ew10032⟩ : ∃ w : Int32, I10019 (ad g 0) 5 = w := ⟨_, rfl⟩
      have bw10032 := BT_get hI10019.1.1 0 5 6 (0) (0) (4) (by decide) 5 (by decide) (by decide)
      rw [ew10032] at bw10032
      rw [ew10029, ew10030, ew10031, ew10032, ew9877] at pI10019
      exact WP_zret dX11_readOnce_25 rfl (nar_z (by omega)) ⟨⟨hI10019, rfl, fr10022, fr10024, fr10023, (by rw [ew10029, ew10030, ew10031, ew10032, e10025, e10026, ew9877]; omega)⟩, _, rfl, by omega, by omega, (fun h => False.elim (by omega))⟩
set_option maxHeartbeats 4000000 in
set_option maxRecDepth 100000 in
theorem sm_readClause {g : GG} {n : Int} {L : Int32} (hy : Ly g) {aK aV : Nat → Nat} {fo : Option Nat} (hz : HZ g aK aV fo)  {I : pI} {J : pJ} {R : pR} (hr : Rf g R) (hI : MP g n L I)   (hb : ((I (ad g 0) 4).toInt ≤ (I (ad g 0) 2).toInt ∧ (I (ad g 0) 3).toInt ≤ (I (ad g 0) 4).toInt ∧ ((I (ad g 0) 5).toInt = 0 ∨ (I (ad g 0) 3).toInt < (I (ad g 0) 4).toInt)) ∧ (I (ad g 0) 17).toInt < (I (ad g 0) 15).toInt) (hw : WRt (I (ad g 30)) (I (ad g 31)) (7 * (I (ad g 0) 15).toInt)) : SP g mX11_readClause [.ref (ad g 0)] I J R (fun r I' J' R' => (MP g n L I' ∧ R' = R ∧ fz 49 g [0, 7, 14, 15, 16, 17, 18, 19, 27, 28, 29, 30, 31, 32, 33, 34] I I' ∧ fz 49 g [4, 5] J J' ∧ fs g [3, 4, 5, 6, 7, 8, 9, 15, 16, 17, 18, 51] I I' ∧ (((I' (ad g 0) 4).toInt ≤ (I' (ad g 0) 2).toInt ∧ (I' (ad g 0) 3).toInt ≤ (I' (ad g 0) 4).toInt ∧ ((I' (ad g 0) 5).toInt = 0 ∨ (I' (ad g 0) 3).toInt < (I' (ad g 0) 4).toInt)) ∧ (I (ad g 0) 3).toInt ≤ (I' (ad g 0) 3).toInt ∧ (I' (ad g 0) 17).toInt < (I' (ad g 0) 15).toInt)) ∧ ∃ v : Int32, r = some (.int v) ∧ 0 ≤ v.toInt ∧ v.toInt ≤ 1 ∧ (v.toInt = 1 → WRt (I' (ad g 30)) (I' (ad g 31)) (7 * (I' (ad g 0) 15).toInt))) := by
  refine SP_of ⟨by decide, rfl⟩ (Nat.le_of_ble_eq_true rfl) ?_
  have e10033 : I (ad g 0) 1 = L := hI.1.2
  have b10034 := BT_get hI.1.1 0 1 2 (0) (0) (900) (by decide) 1 (by decide) (by decide)
  rw [e10033] at b10034
  have fr0 : fz 49 g [0, 7, 14, 15, 16, 17, 18, 19, 27, 28, 29, 30, 31, 32, 33, 34] I I := fz_rf
  have frj0 : fz 49 g [4, 5] J J := fz_rf
  have frq0 : fs g [3, 4, 5, 6, 7, 8, 9, 15, 16, 17, 18, 51] I I := fs_rf
  obtain ⟨w10035, ew10035⟩ : ∃ w : Int32, I (ad g 0) 2 = w := ⟨_, rfl⟩
  have bw10035 := BT_get hI.1.1 0 2 3 (0) (0) (900) (by decide) 2 (by decide) (by decide)
  rw [ew10035] at bw10035
  obtain ⟨w10036, ew10036⟩ : ∃ w : Int32, I (ad g 0) 3 = w := ⟨_, rfl⟩
  have bw10036 := BT_get hI.1.1 0 3 4 (0) (0) (900) (by decide) 3 (by decide) (by decide)
  rw [ew10036] at bw10036
  obtain ⟨w10037, ew10037⟩ : ∃ w : Int32, I (ad g 0) 4 = w := ⟨_, rfl⟩
  have bw10037 := BT_get hI.1.1 0 4 5 (0) (0) (900) (by decide) 4 (by decide) (by decide)
  rw [ew10037] at bw10037
  obtain ⟨w10038, ew10038⟩ : ∃ w : Int32, I (ad g 0) 5 = w := ⟨_, rfl⟩
  have bw10038 := BT_get hI.1.1 0 5 6 (0) (0) (4) (by decide) 5 (by decide) (by decide)
  rw [ew10038] at bw10038
  obtain ⟨w10039, ew10039⟩ : ∃ w : Int32, I (ad g 0) 15 = w := ⟨_, rfl⟩
  have bw10039 := BT_get hI.1.1 0 15 16 (0) (0) (4) (by decide) 15 (by decide) (by decide)
  rw [ew10039] at bw10039
  obtain ⟨w10040, ew10040⟩ : ∃ w : Int32, I (ad g 0) 17 = w := ⟨_, rfl⟩
  have bw10040 := BT_get hI.1.1 0 17 18 (-1) (0) (3) (by decide) 17 (by decide) (by decide)
  rw [ew10040] at bw10040
  rw [ew10035, ew10036, ew10037, ew10038, ew10039, ew10040] at hb
  refine WP_aload_n dX11_readClause_0 rfl ?_
  refine WS_ldc hz 22 rfl dX11_readClause_1 ?_
  refine WP_callV1 (k := 11) dX11_readClause_3 ⟨⟨⟨by decide, by decide⟩, zX11_is⟩, lX11_152, by decide, rfl, vX11_is.1, vX11_is.2⟩ (ly_is hy 0 11 rfl) (sm_is hy hz hr hI (22) (by omega)) (Nat.le_of_ble_eq_true rfl) ?_
  intro r Ia Ja Ra hq
  obtain ⟨⟨ea, eb, ec⟩, v10041, rfl, av10041, bv10041⟩ := hq
  show WP _ _ _ _ (.int _ :: _) _ _ _ _
  rw [ea, eb, ec]
  clear ea eb ec Ia Ja Ra
  refine WQ_if_eq 14 dX11_readClause_6 rfl (fun c10041 => ?_) (fun c10041 => ?_)
  · refine WP_aload_n dX11_readClause_14 rfl ?_
    refine WS_ldc hz 23 rfl dX11_readClause_15 ?_
    refine WP_callV1 (k := 11) dX11_readClause_17 ⟨⟨⟨by decide, by decide⟩, zX11_is⟩, lX11_152, by decide, rfl, vX11_is.1, vX11_is.2⟩ (ly_is hy 0 11 rfl) (sm_is hy hz hr hI (23) (by omega)) (Nat.le_of_ble_eq_true rfl) ?_
    intro r Ia Ja Ra hq
    obtain ⟨⟨ea, eb, ec⟩, v10043, rfl, av10043, bv10043⟩ := hq
    show WP _ _ _ _ (.int _ :: _) _ _ _ _
    rw [ea, eb, ec]
    clear ea eb ec Ia Ja Ra
    refine WQ_if_eq 28 dX11_readClause_20 rfl (fun c10043 => ?_) (fun c10043 => ?_)
    · refine WP_aload_n dX11_readClause_28 rfl ?_
      refine WS_ldc hz 24 rfl dX11_readClause_29 ?_
      refine WP_callV1 (k := 11) dX11_readClause_31 ⟨⟨⟨by decide, by decide⟩, zX11_is⟩, lX11_152, by decide, rfl, vX11_is.1, vX11_is.2⟩ (ly_is hy 0 11 rfl) (sm_is hy hz hr hI (24) (by omega)) (Nat.le_of_ble_eq_true rfl) ?_
      intro r Ia Ja Ra hq
      obtain ⟨⟨ea, eb, ec⟩, v10045, rfl, av10045, bv10045⟩ := hq
      show WP _ _ _ _ (.int _ :: _) _ _ _ _
      rw [ea, eb, ec]
      clear ea eb ec Ia Ja Ra
      refine WQ_if_eq 42 dX11_readClause_34 rfl (fun c10045 => ?_) (fun c10045 => ?_)
      · refine WP_aload_n dX11_readClause_42 rfl ?_
        refine WS_ldc hz 25 rfl dX11_readClause_43 ?_
        refine WP_callV1 (k := 11) dX11_readClause_45 ⟨⟨⟨by decide, by decide⟩, zX11_is⟩, lX11_152, by decide, rfl, vX11_is.1, vX11_is.2⟩ (ly_is hy 0 11 rfl) (sm_is hy hz hr hI (25) (by omega)) (Nat.le_of_ble_eq_true rfl) ?_
        intro r Ia Ja Ra hq
        obtain ⟨⟨ea, eb, ec⟩, v10047, rfl, av10047, bv10047⟩ := hq
        show WP _ _ _ _ (.int _ :: _) _ _ _ _
        rw [ea, eb, ec]
        clear ea eb ec Ia Ja Ra
        refine WQ_if_eq 56 dX11_readClause_48 rfl (fun c10047 => ?_) (fun c10047 => ?_)
        · refine WP_aload_n dX11_readClause_56 rfl ?_
          refine WS_ldc hz 26 rfl dX11_readClause_57 ?_
          refine WP_callV1 (k := 11) dX11_readClause_59 ⟨⟨⟨by decide, by decide⟩, zX11_is⟩, lX11_152, by decide, rfl, vX11_is.1, vX11_is.2⟩ (ly_is hy 0 11 rfl) (sm_is hy hz hr hI (26) (by omega)) (Nat.le_of_ble_eq_true rfl) ?_
          intro r Ia Ja Ra hq
          obtain ⟨⟨ea, eb, ec⟩, v10049, rfl, av10049, bv10049⟩ := hq
          show WP _ _ _ _ (.int _ :: _) _ _ _ _
          rw [ea, eb, ec]
          clear ea eb ec Ia Ja Ra
          refine WQ_if_eq 70 dX11_readClause_62 rfl (fun c10049 => ?_) (fun c10049 => ?_)
          · refine WP_aload_n dX11_readClause_70 rfl ?_
            refine WS_ldc hz 27 rfl dX11_readClause_71 ?_
            refine WP_callV1 (k := 11) dX11_readClause_73 ⟨⟨⟨by decide, by decide⟩, zX11_is⟩, lX11_152, by decide, rfl, vX11_is.1, vX11_is.2⟩ (ly_is hy 0 11 rfl) (sm_is hy hz hr hI (27) (by omega)) (Nat.le_of_ble_eq_true rfl) ?_
            intro r Ia Ja Ra hq
            obtain ⟨⟨ea, eb, ec⟩, v10051, rfl, av10051, bv10051⟩ := hq
            show WP _ _ _ _ (.int _ :: _) _ _ _ _
            rw [ea, eb, ec]
            clear ea eb ec Ia Ja Ra
            refine WQ_if_eq 84 dX11_readClause_76 rfl (fun c10051 => ?_) (fun c10051 => ?_)
            · refine WP_aload_n dX11_readClause_84 rfl ?_
              refine WS_ldc hz 28 rfl dX11_readClause_85 ?_
              refine WP_callV1 (k := 11) dX11_readClause_87 ⟨⟨⟨by decide, by decide⟩, zX11_is⟩, lX11_152, by decide, rfl, vX11_is.1, vX11_is.2⟩ (ly_is hy 0 11 rfl) (sm_is hy hz hr hI (28) (by omega)) (Nat.le_of_ble_eq_true rfl) ?_
              intro r Ia Ja Ra hq
              obtain ⟨⟨ea, eb, ec⟩, v10053, rfl, av10053, bv10053⟩ := hq
              show WP _ _ _ _ (.int _ :: _) _ _ _ _
              rw [ea, eb, ec]
              clear ea eb ec Ia Ja Ra
              refine WQ_if_eq 98 dX11_readClause_90 rfl (fun c10053 => ?_) (fun c10053 => ?_)
              · refine WP_aload_n dX11_readClause_98 rfl ?_
                refine WS_ldc hz 29 rfl dX11_readClause_99 ?_
                refine WP_callV1 (k := 11) dX11_readClause_101 ⟨⟨⟨by decide, by decide⟩, zX11_is⟩, lX11_152, by decide, rfl, vX11_is.1, vX11_is.2⟩ (ly_is hy 0 11 rfl) (sm_is hy hz hr hI (29) (by omega)) (Nat.le_of_ble_eq_true rfl) ?_
                intro r Ia Ja Ra hq
                obtain ⟨⟨ea, eb, ec⟩, v10055, rfl, av10055, bv10055⟩ := hq
                show WP _ _ _ _ (.int _ :: _) _ _ _ _
                rw [ea, eb, ec]
                clear ea eb ec Ia Ja Ra
                refine WQ_if_eq 114 dX11_readClause_104 rfl (fun c10055 => ?_) (fun c10055 => ?_)
                · refine WP_aload_n dX11_readClause_114 rfl ?_
                  refine WP_callV0 (k := 11) dX11_readClause_115 ⟨⟨⟨by decide, by decide⟩, zX11_readOnce⟩, lX11_204, by decide, rfl, vX11_readOnce.1, vX11_readOnce.2⟩ (ly_is hy 0 11 rfl) (sm_readOnce hy hz hr hI   (by rw [ew10035, ew10036, ew10037, ew10038, ew10039, ew10040]; omega) hw) (Nat.le_of_ble_eq_true rfl) ?_
                  intro r I10057 J10058 Ra hq
                  obtain ⟨⟨hI10057, ec, fiI10057, fjI10057, fqI10057, pI10057⟩, v10059, rfl, av10059, bv10059, cv10059⟩ := hq
                  show WP _ _ _ _ (.int _ :: _) _ _ _ _
                  rw [ec]
                  clear ec Ra
                  have fr10060 : fz 49 g [0, 7, 14, 15, 16, 17, 18, 19, 27, 28, 29, 30, 31, 32, 33, 34] I I10057 := fz_tr fr0 (fz_mono fiI10057 (by decide))
                  have fr10061 : fs g [3, 4, 5, 6, 7, 8, 9, 15, 16, 17, 18, 51] I I10057 := fs_tr frq0 (fs_mono fqI10057 (by decide))
                  have fr10062 : fz 49 g [4, 5] J J10058 := fz_tr frj0 (fz_mono fjI10057 (by decide))
                  have e10063 : I10057 (ad g 0) 1 = L := hI10057.1.2
                  have b10064 := BT_get hI10057.1.1 0 1 2 (0) (0) (900) (by decide) 1 (by decide) (by decide)
                  rw [e10063] at b10064
                  obtain ⟨w10065, ew10065⟩ : ∃ w : Int32, I10057 (ad g 0) 2 = w := ⟨_, rfl⟩
                  have bw10065 := BT_get hI10057.1.1 0 2 3 (0) (0) (900) (by decide) 2 (by decide) (by decide)
                  rw [ew10065] at bw10065
                  obtain ⟨w10066, ew10066⟩ : ∃ w : Int32, I10057 (ad g 0) 3 = w := ⟨_, rfl⟩
                  have bw10066 := BT_get hI10057.1.1 0 3 4 (0) (0) (900) (by decide) 3 (by decide) (by decide)
                  rw [ew10066] at bw10066
                  obtain ⟨w10067, ew10067⟩ : ∃ w : Int32, I10057 (ad g 0) 4 = w := ⟨_, rfl⟩
                  have bw10067 := BT_get hI10057.1.1 0 4 5 (0) (0) (900) (by decide) 4 (by decide) (by decide)
                  rw [ew10067] at bw10067
                  obtain ⟨w10068, ew10068⟩ : ∃ w : Int32, I10057 (ad g 0) 5 = w := ⟨_, rfl⟩
                  have bw10068 := BT_get hI10057.1.1 0 5 6 (0) (0) (4) (by decide) 5 (by decide) (by decide)
                  rw [ew10068] at bw10068
                  obtain ⟨w10069, ew10069⟩ : ∃ w : Int32, I10057 (ad g 0) 15 = w := ⟨_, rfl⟩
                  have bw10069 := BT_get hI10057.1.1 0 15 16 (0) (0) (4) (by decide) 15 (by decide) (by decide)
                  rw [ew10069] at bw10069
                  obtain ⟨w10070, ew10070⟩ : ∃ w : Int32, I10057 (ad g 0) 17 = w := ⟨_, rfl⟩
                  have bw10070 := BT_get hI10057.1.1 0 17 18 (-1) (0) (3) (by decide) 17 (by decide) (by decide)
                  rw [ew10070] at bw10070
                  rw [ew10065, ew10066, ew10067, ew10068, ew10069, ew10070, ew10036] at pI10057
                  exact WP_zret dX11_readClause_118 rfl (nar_z (by omega)) ⟨⟨hI10057, rfl, fr10060, fr10062, fr10061, (by rw [ew10065, ew10066, ew10067, ew10068, ew10069, ew10070, ew10036]; omega)⟩, _, rfl, by omega, by omega, (fun h => cv10059 h)⟩
                · refine WP_aload_n dX11_readClause_107 rfl ?_
                  refine WP_callV0 (k := 11) dX11_readClause_108 ⟨⟨⟨by decide, by decide⟩, zX11_readIlls⟩, lX11_201, by decide, rfl, vX11_readIlls.1, vX11_readIlls.2⟩ (ly_is hy 0 11 rfl) (sm_readIllsx hy hr hI   (by rw [ew10035, ew10036, ew10037, ew10038, ew10039, ew10040]; omega) hw) (Nat.le_of_ble_eq_true rfl) ?_
                  intro r I10071 J10072 Ra hq
                  obtain ⟨⟨hI10071, ec, fiI10071, fjI10071, fqI10071, pI10071⟩, v10073, rfl, av10073, bv10073, cv10073⟩ := hq
                  show WP _ _ _ _ (.int _ :: _) _ _ _ _
                  rw [ec]
                  clear ec Ra
                  have fr10074 : fz 49 g [0, 7, 14, 15, 16, 17, 18, 19, 27, 28, 29, 30, 31, 32, 33, 34] I I10071 := fz_tr fr0 (fz_mono fiI10071 (by decide))
                  have fr10075 : fs g [3, 4, 5, 6, 7, 8, 9, 15, 16, 17, 18, 51] I I10071 := fs_tr frq0 (fs_mono fqI10071 (by decide))
                  have fr10076 : fz 49 g [4, 5] J J10072 := fz_tr frj0 (fz_mono fjI10071 (by decide))
                  have e10077 : I10071 (ad g 0) 1 = L := hI10071.1.2
                  have b10078 := BT_get hI10071.1.1 0 1 2 (0) (0) (900) (by decide) 1 (by decide) (by decide)
                  rw [e10077] at b10078
                  obtain ⟨w10079, ew10079⟩ : ∃ w : Int32, I10071 (ad g 0) 2 = w := ⟨_, rfl⟩
                  have bw10079 := BT_get hI10071.1.1 0 2 3 (0) (0) (900) (by decide) 2 (by decide) (by decide)
                  rw [ew10079] at bw10079
                  obtain ⟨w10080, ew10080⟩ : ∃ w : Int32, I10071 (ad g 0) 3 = w := ⟨_, rfl⟩
                  have bw10080 := BT_get hI10071.1.1 0 3 4 (0) (0) (900) (by decide) 3 (by decide) (by decide)
                  rw [ew10080] at bw10080
                  obtain ⟨w10081, ew10081⟩ : ∃ w : Int32, I10071 (ad g 0) 4 = w := ⟨_, rfl⟩
                  have bw10081 := BT_get hI10071.1.1 0 4 5 (0) (0) (900) (by decide) 4 (by decide) (by decide)
                  rw [ew10081] at bw10081
                  obtain ⟨w10082, ew10082⟩ : ∃ w : Int32, I10071 (ad g 0) 5 = w := ⟨_, rfl⟩
                  have bw10082 := BT_get hI10071.1.1 0 5 6 (0) (0) (4) (by decide) 5 (by decide) (by decide)
                  rw [ew10082] at bw10082
                  obtain ⟨w10083, ew10083⟩ : ∃ w : Int32, I10071 (ad g 0) 15 = w := ⟨_, rfl⟩
                  have bw10083 := BT_get hI10071.1.1 0 15 16 (0) (0) (4) (by decide) 15 (by decide) (by decide)
                  rw [ew10083] at bw10083
                  obtain ⟨w10084, ew10084⟩ : ∃ w : Int32, I10071 (ad g 0) 17 = w := ⟨_, rfl⟩
                  have bw10084 := BT_get hI10071.1.1 0 17 18 (-1) (0) (3) (by decide) 17 (by decide) (by decide)
                  rw [ew10084] at bw10084
                  rw [ew10079, ew10080, ew10081, ew10082, ew10083, ew10084, ew10036] at pI10071
                  refine WP_goto 118 dX11_readClause_111 rfl ?_
                  exact WP_zret dX11_readClause_118 rfl (nar_z (by omega)) ⟨⟨hI10071, rfl, fr10074, fr10076, fr10075, (by rw [ew10079, ew10080, ew10081, ew10082, ew10083, ew10084, ew10036]; omega)⟩, _, rfl, by omega, by omega, (fun h => cv10073 h)⟩
              · refine WP_aload_n dX11_readClause_93 rfl ?_
                refine WP_callV0 (k := 11) dX11_readClause_94 ⟨⟨⟨by decide, by decide⟩, zX11_readWants⟩, lX11_196, by decide, rfl, vX11_readWants.1, vX11_readWants.2⟩ (ly_is hy 0 11 rfl) (sm_readWantsx hy hr hI   (by rw [ew10035, ew10036, ew10037, ew10038, ew10039, ew10040]; omega) hw) (Nat.le_of_ble_eq_true rfl) ?_
                intro r I10085 J10086 Ra hq
                obtain ⟨⟨hI10085, ec, fiI10085, fjI10085, fqI10085, pI10085⟩, v10087, rfl, av10087, bv10087, cv10087⟩ := hq
                show WP _ _ _ _ (.int _ :: _) _ _ _ _
                rw [ec]
                clear ec Ra
                have fr10088 : fz 49 g [0, 7, 14, 15, 16, 17, 18, 19, 27, 28, 29, 30, 31, 32, 33, 34] I I10085 := fz_tr fr0 (fz_mono fiI10085 (by decide))
                have fr10089 : fs g [3, 4, 5, 6, 7, 8, 9, 15, 16, 17, 18, 51] I I10085 := fs_tr frq0 (fs_mono fqI10085 (by decide))
                have fr10090 : fz 49 g [4, 5] J J10086 := fz_tr frj0 (fz_mono fjI10085 (by decide))
                have e10091 : I10085 (ad g 0) 1 = L := hI10085.1.2
                have b10092 := BT_get hI10085.1.1 0 1 2 (0) (0) (900) (by decide) 1 (by decide) (by decide)
                rw [e10091] at b10092
                obtain ⟨w10093, ew10093⟩ : ∃ w : Int32, I10085 (ad g 0) 2 = w := ⟨_, rfl⟩
                have bw10093 := BT_get hI10085.1.1 0 2 3 (0) (0) (900) (by decide) 2 (by decide) (by decide)
                rw [ew10093] at bw10093
                obtain ⟨w10094, ew10094⟩ : ∃ w : Int32, I10085 (ad g 0) 3 = w := ⟨_, rfl⟩
                have bw10094 := BT_get hI10085.1.1 0 3 4 (0) (0) (900) (by decide) 3 (by decide) (by decide)
                rw [ew10094] at bw10094
                obtain ⟨w10095, ew10095⟩ : ∃ w : Int32, I10085 (ad g 0) 4 = w := ⟨_, rfl⟩
                have bw10095 := BT_get hI10085.1.1 0 4 5 (0) (0) (900) (by decide) 4 (by decide) (by decide)
                rw [ew10095] at bw10095
                obtain ⟨w10096, ew10096⟩ : ∃ w : Int32, I10085 (ad g 0) 5 = w := ⟨_, rfl⟩
                have bw10096 := BT_get hI10085.1.1 0 5 6 (0) (0) (4) (by decide) 5 (by decide) (by decide)
                rw [ew10096] at bw10096
                obtain ⟨w10097, ew10097⟩ : ∃ w : Int32, I10085 (ad g 0) 15 = w := ⟨_, rfl⟩
                have bw10097 := BT_get hI10085.1.1 0 15 16 (0) (0) (4) (by decide) 15 (by decide) (by decide)
                rw [ew10097] at bw10097
                obtain ⟨w10098, ew10098⟩ : ∃ w : Int32, I10085 (ad g 0) 17 = w := ⟨_, rfl⟩
                have bw10098 := BT_get hI10085.1.1 0 17 18 (-1) (0) (3) (by decide) 17 (by decide) (by decide)
                rw [ew10098] at bw10098
                rw [ew10093, ew10094, ew10095, ew10096, ew10097, ew10098, ew10036] at pI10085
                exact WP_zret dX11_readClause_97 rfl (nar_z (by omega)) ⟨⟨hI10085, rfl, fr10088, fr10090, fr10089, (by rw [ew10093, ew10094, ew10095, ew10096, ew10097, ew10098, ew10036]; omega)⟩, _, rfl, by omega, by omega, (fun h => cv10087 h)⟩
            · refine WP_aload_n dX11_readClause_79 rfl ?_
              refine WP_callV0 (k := 11) dX11_readClause_80 ⟨⟨⟨by decide, by decide⟩, zX11_readMakes⟩, lX11_191, by decide, rfl, vX11_readMakes.1, vX11_readMakes.2⟩ (ly_is hy 0 11 rfl) (sm_readMakesx hy hr hI   (by rw [ew10035, ew10036, ew10037, ew10038, ew10039, ew10040]; omega) hw) (Nat.le_of_ble_eq_true rfl) ?_
              intro r I10099 J10100 Ra hq
              obtain ⟨⟨hI10099, ec, fiI10099, fjI10099, fqI10099, pI10099⟩, v10101, rfl, av10101, bv10101, cv10101⟩ := hq
              show WP _ _ _ _ (.int _ :: _) _ _ _ _
              rw [ec]
              clear ec Ra
              have fr10102 : fz 49 g [0, 7, 14, 15, 16, 17, 18, 19, 27, 28, 29, 30, 31, 32, 33, 34] I I10099 := fz_tr fr0 (fz_mono fiI10099 (by decide))
              have fr10103 : fs g [3, 4, 5, 6, 7, 8, 9, 15, 16, 17, 18, 51] I I10099 := fs_tr frq0 (fs_mono fqI10099 (by decide))
              have fr10104 : fz 49 g [4, 5] J J10100 := fz_tr frj0 (fz_mono fjI10099 (by decide))
              have e10105 : I10099 (ad g 0) 1 = L := hI10099.1.2
              have b10106 := BT_get hI10099.1.1 0 1 2 (0) (0) (900) (by decide) 1 (by decide) (by decide)
              rw [e10105] at b10106
              obtain ⟨w10107, ew10107⟩ : ∃ w : Int32, I10099 (ad g 0) 2 = w := ⟨_, rfl⟩
              have bw10107 := BT_get hI10099.1.1 0 2 3 (0) (0) (900) (by decide) 2 (by decide) (by decide)
              rw [ew10107] at bw10107
              obtain ⟨w10108, ew10108⟩ : ∃ w : Int32, I10099 (ad g 0) 3 = w := ⟨_, rfl⟩
              have bw10108 := BT_get hI10099.1.1 0 3 4 (0) (0) (900) (by decide) 3 (by decide) (by decide)
              rw [ew10108] at bw10108
              obtain ⟨w10109, ew10109⟩ : ∃ w : Int32, I10099 (ad g 0) 4 = w := ⟨_, rfl⟩
              have bw10109 := BT_get hI10099.1.1 0 4 5 (0) (0) (900) (by decide) 4 (by decide) (by decide)
              rw [ew10109] at bw10109
              obtain ⟨w10110, ew10110⟩ : ∃ w : Int32, I10099 (ad g 0) 5 = w := ⟨_, rfl⟩
              have bw10110 := BT_get hI10099.1.1 0 5 6 (0) (0) (4) (by decide) 5 (by decide) (by decide)
              rw [ew10110] at bw10110
              obtain ⟨w10111, ew10111⟩ : ∃ w : Int32, I10099 (ad g 0) 15 = w := ⟨_, rfl⟩
              have bw10111 := BT_get hI10099.1.1 0 15 16 (0) (0) (4) (by decide) 15 (by decide) (by decide)
              rw [ew10111] at bw10111
              obtain ⟨w10112, ew10112⟩ : ∃ w : Int32, I10099 (ad g 0) 17 = w := ⟨_, rfl⟩
              have bw10112 := BT_get hI10099.1.1 0 17 18 (-1) (0) (3) (by decide) 17 (by decide) (by decide)
              rw [ew10112] at bw10112
              rw [ew10107, ew10108, ew10109, ew10110, ew10111, ew10112, ew10036] at pI10099
              exact WP_zret dX11_readClause_83 rfl (nar_z (by omega)) ⟨⟨hI10099, rfl, fr10102, fr10104, fr10103, (by rw [ew10107, ew10108, ew10109, ew10110, ew10111, ew10112, ew10036]; omega)⟩, _, rfl, by omega, by omega, (fun h => cv10101 h)⟩
          · refine WP_aload_n dX11_readClause_65 rfl ?_
            refine WP_callV0 (k := 11) dX11_readClause_66 ⟨⟨⟨by decide, by decide⟩, zX11_readPrices⟩, lX11_186, by decide, rfl, vX11_readPrices.1, vX11_readPrices.2⟩ (ly_is hy 0 11 rfl) (sm_readPricesx hy hr hI   (by rw [ew10035, ew10036, ew10037, ew10038, ew10039, ew10040]; omega) hw) (Nat.le_of_ble_eq_true rfl) ?_
            intro r I10113 J10114 Ra hq
            obtain ⟨⟨hI10113, ec, fiI10113, fjI10113, fqI10113, pI10113⟩, v10115, rfl, av10115, bv10115, cv10115⟩ := hq
            show WP _ _ _ _ (.int _ :: _) _ _ _ _
            rw [ec]
            clear ec Ra
            have fr10116 : fz 49 g [0, 7, 14, 15, 16, 17, 18, 19, 27, 28, 29, 30, 31, 32, 33, 34] I I10113 := fz_tr fr0 (fz_mono fiI10113 (by decide))
            have fr10117 : fs g [3, 4, 5, 6, 7, 8, 9, 15, 16, 17, 18, 51] I I10113 := fs_tr frq0 (fs_mono fqI10113 (by decide))
            have fr10118 : fz 49 g [4, 5] J J10114 := fz_tr frj0 (fz_mono fjI10113 (by decide))
            have e10119 : I10113 (ad g 0) 1 = L := hI10113.1.2
            have b10120 := BT_get hI10113.1.1 0 1 2 (0) (0) (900) (by decide) 1 (by decide) (by decide)
            rw [e10119] at b10120
            obtain ⟨w10121, ew10121⟩ : ∃ w : Int32, I10113 (ad g 0) 2 = w := ⟨_, rfl⟩
            have bw10121 := BT_get hI10113.1.1 0 2 3 (0) (0) (900) (by decide) 2 (by decide) (by decide)
            rw [ew10121] at bw10121
            obtain ⟨w10122, ew10122⟩ : ∃ w : Int32, I10113 (ad g 0) 3 = w := ⟨_, rfl⟩
            have bw10122 := BT_get hI10113.1.1 0 3 4 (0) (0) (900) (by decide) 3 (by decide) (by decide)
            rw [ew10122] at bw10122
            obtain ⟨w10123, ew10123⟩ : ∃ w : Int32, I10113 (ad g 0) 4 = w := ⟨_, rfl⟩
            have bw10123 := BT_get hI10113.1.1 0 4 5 (0) (0) (900) (by decide) 4 (by decide) (by decide)
            rw [ew10123] at bw10123
            obtain ⟨w10124, ew10124⟩ : ∃ w : Int32, I10113 (ad g 0) 5 = w := ⟨_, rfl⟩
            have bw10124 := BT_get hI10113.1.1 0 5 6 (0) (0) (4) (by decide) 5 (by decide) (by decide)
            rw [ew10124] at bw10124
            obtain ⟨w10125, ew10125⟩ : ∃ w : Int32, I10113 (ad g 0) 15 = w := ⟨_, rfl⟩
            have bw10125 := BT_get hI10113.1.1 0 15 16 (0) (0) (4) (by decide) 15 (by decide) (by decide)
            rw [ew10125] at bw10125
            obtain ⟨w10126, ew10126⟩ : ∃ w : Int32, I10113 (ad g 0) 17 = w := ⟨_, rfl⟩
            have bw10126 := BT_get hI10113.1.1 0 17 18 (-1) (0) (3) (by decide) 17 (by decide) (by decide)
            rw [ew10126] at bw10126
            rw [ew10121, ew10122, ew10123, ew10124, ew10125, ew10126, ew10036] at pI10113
            exact WP_zret dX11_readClause_69 rfl (nar_z (by omega)) ⟨⟨hI10113, rfl, fr10116, fr10118, fr10117, (by rw [ew10121, ew10122, ew10123, ew10124, ew10125, ew10126, ew10036]; omega)⟩, _, rfl, by omega, by omega, (fun h => cv10115 h)⟩
        · refine WP_aload_n dX11_readClause_51 rfl ?_
          refine WP_callV0 (k := 11) dX11_readClause_52 ⟨⟨⟨by decide, by decide⟩, zX11_readEarns⟩, lX11_181, by decide, rfl, vX11_readEarns.1, vX11_readEarns.2⟩ (ly_is hy 0 11 rfl) (sm_readEarnsx hy hr hI   (by rw [ew10035, ew10036, ew10037, ew10038, ew10039, ew10040]; omega) hw) (Nat.le_of_ble_eq_true rfl) ?_
          intro r I10127 J10128 Ra hq
          obtain ⟨⟨hI10127, ec, fiI10127, fjI10127, fqI10127, pI10127⟩, v10129, rfl, av10129, bv10129, cv10129⟩ := hq
          show WP _ _ _ _ (.int _ :: _) _ _ _ _
          rw [ec]
          clear ec Ra
          have fr10130 : fz 49 g [0, 7, 14, 15, 16, 17, 18, 19, 27, 28, 29, 30, 31, 32, 33, 34] I I10127 := fz_tr fr0 (fz_mono fiI10127 (by decide))
          have fr10131 : fs g [3, 4, 5, 6, 7, 8, 9, 15, 16, 17, 18, 51] I I10127 := fs_tr frq0 (fs_mono fqI10127 (by decide))
          have fr10132 : fz 49 g [4, 5] J J10128 := fz_tr frj0 (fz_mono fjI10127 (by decide))
          have e10133 : I10127 (ad g 0) 1 = L := hI10127.1.2
          have b10134 := BT_get hI10127.1.1 0 1 2 (0) (0) (900) (by decide) 1 (by decide) (by decide)
          rw [e10133] at b10134
          obtain ⟨w10135, ew10135⟩ : ∃ w : Int32, I10127 (ad g 0) 2 = w := ⟨_, rfl⟩
          have bw10135 := BT_get hI10127.1.1 0 2 3 (0) (0) (900) (by decide) 2 (by decide) (by decide)
          rw [ew10135] at bw10135
          obtain ⟨w10136, ew10136⟩ : ∃ w : Int32, I10127 (ad g 0) 3 = w := ⟨_, rfl⟩
          have bw10136 := BT_get hI10127.1.1 0 3 4 (0) (0) (900) (by decide) 3 (by decide) (by decide)
          rw [ew10136] at bw10136
          obtain ⟨w10137, ew10137⟩ : ∃ w : Int32, I10127 (ad g 0) 4 = w := ⟨_, rfl⟩
          have bw10137 := BT_get hI10127.1.1 0 4 5 (0) (0) (900) (by decide) 4 (by decide) (by decide)
          rw [ew10137] at bw10137
          obtain ⟨w10138, ew10138⟩ : ∃ w : Int32, I10127 (ad g 0) 5 = w := ⟨_, rfl⟩
          have bw10138 := BT_get hI10127.1.1 0 5 6 (0) (0) (4) (by decide) 5 (by decide) (by decide)
          rw [ew10138] at bw10138
          obtain ⟨w10139, ew10139⟩ : ∃ w : Int32, I10127 (ad g 0) 15 = w := ⟨_, rfl⟩
          have bw10139 := BT_get hI10127.1.1 0 15 16 (0) (0) (4) (by decide) 15 (by decide) (by decide)
          rw [ew10139] at bw10139
          obtain ⟨w10140, ew10140⟩ : ∃ w : Int32, I10127 (ad g 0) 17 = w := ⟨_, rfl⟩
          have bw10140 := BT_get hI10127.1.1 0 17 18 (-1) (0) (3) (by decide) 17 (by decide) (by decide)
          rw [ew10140] at bw10140
          rw [ew10135, ew10136, ew10137, ew10138, ew10139, ew10140, ew10036] at pI10127
          exact WP_zret dX11_readClause_55 rfl (nar_z (by omega)) ⟨⟨hI10127, rfl, fr10130, fr10132, fr10131, (by rw [ew10135, ew10136, ew10137, ew10138, ew10139, ew10140, ew10036]; omega)⟩, _, rfl, by omega, by omega, (fun h => cv10129 h)⟩
      · refine WP_aload_n dX11_readClause_37 rfl ?_
        refine WP_callV0 (k := 11) dX11_readClause_38 ⟨⟨⟨by decide, by decide⟩, zX11_readThingOf⟩, lX11_176, by decide, rfl, vX11_readThingOf.1, vX11_readThingOf.2⟩ (ly_is hy 0 11 rfl) (sm_readThingOfx hy hr hI   (by rw [ew10035, ew10036, ew10037, ew10038, ew10039, ew10040]; omega) hw) (Nat.le_of_ble_eq_true rfl) ?_
        intro r I10141 J10142 Ra hq
        obtain ⟨⟨hI10141, ec, fiI10141, fjI10141, fqI10141, pI10141⟩, v10143, rfl, av10143, bv10143, cv10143⟩ := hq
        show WP _ _ _ _ (.int _ :: _) _ _ _ _
        rw [ec]
        clear ec Ra
        have fr10144 : fz 49 g [0, 7, 14, 15, 16, 17, 18, 19, 27, 28, 29, 30, 31, 32, 33, 34] I I10141 := fz_tr fr0 (fz_mono fiI10141 (by decide))
        have fr10145 : fs g [3, 4, 5, 6, 7, 8, 9, 15, 16, 17, 18, 51] I I10141 := fs_tr frq0 (fs_mono fqI10141 (by decide))
        have fr10146 : fz 49 g [4, 5] J J10142 := fz_tr frj0 (fz_mono fjI10141 (by decide))
        have e10147 : I10141 (ad g 0) 1 = L := hI10141.1.2
        have b10148 := BT_get hI10141.1.1 0 1 2 (0) (0) (900) (by decide) 1 (by decide) (by decide)
        rw [e10147] at b10148
        obtain ⟨w10149, ew10149⟩ : ∃ w : Int32, I10141 (ad g 0) 2 = w := ⟨_, rfl⟩
        have bw10149 := BT_get hI10141.1.1 0 2 3 (0) (0) (900) (by decide) 2 (by decide) (by decide)
        rw [ew10149] at bw10149
        obtain ⟨w10150, ew10150⟩ : ∃ w : Int32, I10141 (ad g 0) 3 = w := ⟨_, rfl⟩
        have bw10150 := BT_get hI10141.1.1 0 3 4 (0) (0) (900) (by decide) 3 (by decide) (by decide)
        rw [ew10150] at bw10150
        obtain ⟨w10151, ew10151⟩ : ∃ w : Int32, I10141 (ad g 0) 4 = w := ⟨_, rfl⟩
        have bw10151 := BT_get hI10141.1.1 0 4 5 (0) (0) (900) (by decide) 4 (by decide) (by decide)
        rw [ew10151] at bw10151
        obtain ⟨w10152, ew10152⟩ : ∃ w : Int32, I10141 (ad g 0) 5 = w := ⟨_, rfl⟩
        have bw10152 := BT_get hI10141.1.1 0 5 6 (0) (0) (4) (by decide) 5 (by decide) (by decide)
        rw [ew10152] at bw10152
        obtain ⟨w10153, ew10153⟩ : ∃ w : Int32, I10141 (ad g 0) 15 = w := ⟨_, rfl⟩
        have bw10153 := BT_get hI10141.1.1 0 15 16 (0) (0) (4) (by decide) 15 (by decide) (by decide)
        rw [ew10153] at bw10153
        obtain ⟨w10154, ew10154⟩ : ∃ w : Int32, I10141 (ad g 0) 17 = w := ⟨_, rfl⟩
        have bw10154 := BT_get hI10141.1.1 0 17 18 (-1) (0) (3) (by decide) 17 (by decide) (by decide)
        rw [ew10154] at bw10154
        rw [ew10149, ew10150, ew10151, ew10152, ew10153, ew10154, ew10036] at pI10141
        exact WP_zret dX11_readClause_41 rfl (nar_z (by omega)) ⟨⟨hI10141, rfl, fr10144, fr10146, fr10145, (by rw [ew10149, ew10150, ew10151, ew10152, ew10153, ew10154, ew10036]; omega)⟩, _, rfl, by omega, by omega, (fun h => cv10143 h)⟩
    · refine WP_aload_n dX11_readClause_23 rfl ?_
      refine WP_callV0 (k := 11) dX11_readClause_24 ⟨⟨⟨by decide, by decide⟩, zX11_readSort⟩, lX11_171, by decide, rfl, vX11_readSort.1, vX11_readSort.2⟩ (ly_is hy 0 11 rfl) (sm_readSortx hy hr hI   (by rw [ew10035, ew10036, ew10037, ew10038, ew10039, ew10040]; omega) hw) (Nat.le_of_ble_eq_true rfl) ?_
      intro r I10155 J10156 Ra hq
      obtain ⟨⟨hI10155, ec, fiI10155, fjI10155, fqI10155, pI10155⟩, v10157, rfl, av10157, bv10157, cv10157⟩ := hq
      show WP _ _ _ _ (.int _ :: _) _ _ _ _
      rw [ec]
      clear ec Ra
      have fr10158 : fz 49 g [0, 7, 14, 15, 16, 17, 18, 19, 27, 28, 29, 30, 31, 32, 33, 34] I I10155 := fz_tr fr0 (fz_mono fiI10155 (by decide))
      have fr10159 : fs g [3, 4, 5, 6, 7, 8, 9, 15, 16, 17, 18, 51] I I10155 := fs_tr frq0 (fs_mono fqI10155 (by decide))
      have fr10160 : fz 49 g [4, 5] J J10156 := fz_tr frj0 (fz_mono fjI10155 (by decide))
      have e10161 : I10155 (ad g 0) 1 = L := hI10155.1.2
      have b10162 := BT_get hI10155.1.1 0 1 2 (0) (0) (900) (by decide) 1 (by decide) (by decide)
      rw [e10161] at b10162
      obtain ⟨w10163, ew10163⟩ : ∃ w : Int32, I10155 (ad g 0) 2 = w := ⟨_, rfl⟩
      have bw10163 := BT_get hI10155.1.1 0 2 3 (0) (0) (900) (by decide) 2 (by decide) (by decide)
      rw [ew10163] at bw10163
      obtain ⟨w10164, ew10164⟩ : ∃ w : Int32, I10155 (ad g 0) 3 = w := ⟨_, rfl⟩
      have bw10164 := BT_get hI10155.1.1 0 3 4 (0) (0) (900) (by decide) 3 (by decide) (by decide)
      rw [ew10164] at bw10164
      obtain ⟨w10165, ew10165⟩ : ∃ w : Int32, I10155 (ad g 0) 4 = w := ⟨_, rfl⟩
      have bw10165 := BT_get hI10155.1.1 0 4 5 (0) (0) (900) (by decide) 4 (by decide) (by decide)
      rw [ew10165] at bw10165
      obtain ⟨w10166, ew10166⟩ : ∃ w : Int32, I10155 (ad g 0) 5 = w := ⟨_, rfl⟩
      have bw10166 := BT_get hI10155.1.1 0 5 6 (0) (0) (4) (by decide) 5 (by decide) (by decide)
      rw [ew10166] at bw10166
      obtain ⟨w10167, ew10167⟩ : ∃ w : Int32, I10155 (ad g 0) 15 = w := ⟨_, rfl⟩
      have bw10167 := BT_get hI10155.1.1 0 15 16 (0) (0) (4) (by decide) 15 (by decide) (by decide)
      rw [ew10167] at bw10167
      obtain ⟨w10168, ew10168⟩ : ∃ w : Int32, I10155 (ad g 0) 17 = w := ⟨_, rfl⟩
      have bw10168 := BT_get hI10155.1.1 0 17 18 (-1) (0) (3) (by decide) 17 (by decide) (by decide)
      rw [ew10168] at bw10168
      rw [ew10163, ew10164, ew10165, ew10166, ew10167, ew10168, ew10036] at pI10155
      exact WP_zret dX11_readClause_27 rfl (nar_z (by omega)) ⟨⟨hI10155, rfl, fr10158, fr10160, fr10159, (by rw [ew10163, ew10164, ew10165, ew10166, ew10167, ew10168, ew10036]; omega)⟩, _, rfl, by omega, by omega, (fun h => cv10157 h)⟩
  · refine WP_aload_n dX11_readClause_9 rfl ?_
    refine WP_callV0 (k := 11) dX11_readClause_10 ⟨⟨⟨by decide, by decide⟩, zX11_readRot⟩, lX11_166, by decide, rfl, vX11_readRot.1, vX11_readRot.2⟩ (ly_is hy 0 11 rfl) (sm_readRotx hy hr hI   (by rw [ew10035, ew10036, ew10037, ew10038, ew10039, ew10040]; omega) hw) (Nat.le_of_ble_eq_true rfl) ?_
    intro r I10169 J10170 Ra hq
    obtain ⟨⟨hI10169, ec, fiI10169, fjI10169, fqI10169, pI10169⟩, v10171, rfl, av10171, bv10171, cv10171⟩ := hq
    show WP _ _ _ _ (.int _ :: _) _ _ _ _
    rw [ec]
    clear ec Ra
    have fr10172 : fz 49 g [0, 7, 14, 15, 16, 17, 18, 19, 27, 28, 29, 30, 31, 32, 33, 34] I I10169 := fz_tr fr0 (fz_mono fiI10169 (by decide))
    have fr10173 : fs g [3, 4, 5, 6, 7, 8, 9, 15, 16, 17, 18, 51] I I10169 := fs_tr frq0 (fs_mono fqI10169 (by decide))
    have fr10174 : fz 49 g [4, 5] J J10170 := fz_tr frj0 (fz_mono fjI10169 (by decide))
    have e10175 : I10169 (ad g 0) 1 = L := hI10169.1.2
    have b10176 := BT_get hI10169.1.1 0 1 2 (0) (0) (900) (by decide) 1 (by decide) (by decide)
    rw [e10175] at b10176
    obtain ⟨w10177, ew10177⟩ : ∃ w : Int32, I10169 (ad g 0) 2 = w := ⟨_, rfl⟩
    have bw10177 := BT_get hI10169.1.1 0 2 3 (0) (0) (900) (by decide) 2 (by decide) (by decide)
    rw [ew10177] at bw10177
    obtain ⟨w10178, ew10178⟩ : ∃ w : Int32, I10169 (ad g 0) 3 = w := ⟨_, rfl⟩
    have bw10178 := BT_get hI10169.1.1 0 3 4 (0) (0) (900) (by decide) 3 (by decide) (by decide)
    rw [ew10178] at bw10178
    obtain ⟨w10179, ew10179⟩ : ∃ w : Int32, I10169 (ad g 0) 4 = w := ⟨_, rfl⟩
    have bw10179 := BT_get hI10169.1.1 0 4 5 (0) (0) (900) (by decide) 4 (by decide) (by decide)
    rw [ew10179] at bw10179
    obtain ⟨w10180, ew10180⟩ : ∃ w : Int32, I10169 (ad g 0) 5 = w := ⟨_, rfl⟩
    have bw10180 := BT_get hI10169.1.1 0 5 6 (0) (0) (4) (by decide) 5 (by decide) (by decide)
    rw [ew10180] at bw10180
    obtain ⟨w10181, ew10181⟩ : ∃ w : Int32, I10169 (ad g 0) 15 = w := ⟨_, rfl⟩
    have bw10181 := BT_get hI10169.1.1 0 15 16 (0) (0) (4) (by decide) 15 (by decide) (by decide)
    rw [ew10181] at bw10181
    obtain ⟨w10182, ew10182⟩ : ∃ w : Int32, I10169 (ad g 0) 17 = w := ⟨_, rfl⟩
    have bw10182 := BT_get hI10169.1.1 0 17 18 (-1) (0) (3) (by decide) 17 (by decide) (by decide)
    rw [ew10182] at bw10182
    rw [ew10177, ew10178, ew10179, ew10180, ew10181, ew10182, ew10036] at pI10169
    exact WP_zret dX11_readClause_13 rfl (nar_z (by omega)) ⟨⟨hI10169, rfl, fr10172, fr10174, fr10173, (by rw [ew10177, ew10178, ew10179, ew10180, ew10181, ew10182, ew10036]; omega)⟩, _, rfl, by omega, by omega, (fun h => cv10171 h)⟩
