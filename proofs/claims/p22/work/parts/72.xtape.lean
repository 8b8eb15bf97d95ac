set_option maxHeartbeats 4000000 in
set_option maxRecDepth 100000 in
theorem sx_isLetter {g : GG} {n : Int} {L : Int32} (hy : LyX g)  {I : pI} {J : pJ} {R : pR} (hr : RfX g R) (hI : XI g n L I) (b : Int32)  : SP g mX5_isLetter [.int b] I J R (fun r I' J' R' => (I' = I ∧ J' = J ∧ R' = R) ∧ ∃ v : Int32, r = some (.int v) ∧ 0 ≤ v.toInt ∧ v.toInt ≤ 1) := by
  refine SP_of ⟨by decide, rfl⟩ (Nat.le_of_ble_eq_true rfl) ?_
  have e1 : I (ad g 1) 1 = L := hI.2
  have b2 := BT_get hI.1 1 1 2 (0) (0) (900) (by decide) 1 (by decide) (by decide)
  rw [e1] at b2
  refine WP_iload_n dX5_isLetter_0 rfl ?_
  refine WQ_bipush (97) (97) dX5_isLetter_1 rfl rfl (fun v3 hv3 => ?_)
  have jn17_9 : ∀ (v9 : Int32), 0 ≤ v9.toInt → v9.toInt ≤ 1 → WP g mX5_isLetter 17 [(0, .int b)] [.int v9] I J R (fun r I' J' R' => (I' = I ∧ J' = J ∧ R' = R) ∧ ∃ v : Int32, r = some (.int v) ∧ 0 ≤ v.toInt ∧ v.toInt ≤ 1) := by
    intro v9 av9 bv9
    exact WP_zret dX5_isLetter_17 rfl (nar_z (by omega)) ⟨⟨rfl, rfl, rfl⟩, _, rfl, by omega, by omega⟩
  refine WQ_icmp_lt 16 dX5_isLetter_3 rfl (fun c10 => ?_) (fun c10 => ?_)
  · refine WQ_iconst (0) (0) dX5_isLetter_16 rfl rfl (fun v12 hv12 => ?_)
    exact WP_sub (fc rfl fn) (jn17_9 v12 (by omega) (by omega))
  · refine WP_iload_n dX5_isLetter_6 rfl ?_
    refine WQ_bipush (122) (122) dX5_isLetter_7 rfl rfl (fun v13 hv13 => ?_)
    refine WQ_icmp_gt 16 dX5_isLetter_9 rfl (fun c13 => ?_) (fun c13 => ?_)
    · refine WQ_iconst (0) (0) dX5_isLetter_16 rfl rfl (fun v15 hv15 => ?_)
      exact WP_sub (fc rfl fn) (jn17_9 v15 (by omega) (by omega))
    · refine WQ_iconst (1) (1) dX5_isLetter_12 rfl rfl (fun v16 hv16 => ?_)
      refine WP_goto 17 dX5_isLetter_13 rfl ?_
      exact WP_sub (fc rfl fn) (jn17_9 v16 (by omega) (by omega))
set_option maxHeartbeats 4000000 in
set_option maxRecDepth 100000 in
theorem sx_isDigit {g : GG} {n : Int} {L : Int32} (hy : LyX g)  {I : pI} {J : pJ} {R : pR} (hr : RfX g R) (hI : XI g n L I) (b : Int32)  : SP g mX5_isDigit [.int b] I J R (fun r I' J' R' => (I' = I ∧ J' = J ∧ R' = R) ∧ ∃ v : Int32, r = some (.int v) ∧ 0 ≤ v.toInt ∧ v.toInt ≤ 1) := by
  refine SP_of ⟨by decide, rfl⟩ (Nat.le_of_ble_eq_true rfl) ?_
  have e17 : I (ad g 1) 1 = L := hI.2
  have b18 := BT_get hI.1 1 1 2 (0) (0) (900) (by decide) 1 (by decide) (by decide)
  rw [e17] at b18
  refine WP_iload_n dX5_isDigit_0 rfl ?_
  refine WQ_bipush (48) (48) dX5_isDigit_1 rfl rfl (fun v19 hv19 => ?_)
  have jn17_25 : ∀ (v25 : Int32), 0 ≤ v25.toInt → v25.toInt ≤ 1 → WP g mX5_isDigit 17 [(0, .int b)] [.int v25] I J R (fun r I' J' R' => (I' = I ∧ J' = J ∧ R' = R) ∧ ∃ v : Int32, r = some (.int v) ∧ 0 ≤ v.toInt ∧ v.toInt ≤ 1) := by
    intro v25 av25 bv25
    exact WP_zret dX5_isDigit_17 rfl (nar_z (by omega)) ⟨⟨rfl, rfl, rfl⟩, _, rfl, by omega, by omega⟩
  refine WQ_icmp_lt 16 dX5_isDigit_3 rfl (fun c26 => ?_) (fun c26 => ?_)
  · refine WQ_iconst (0) (0) dX5_isDigit_16 rfl rfl (fun v28 hv28 => ?_)
    exact WP_sub (fc rfl fn) (jn17_25 v28 (by omega) (by omega))
  · refine WP_iload_n dX5_isDigit_6 rfl ?_
    refine WQ_bipush (57) (57) dX5_isDigit_7 rfl rfl (fun v29 hv29 => ?_)
    refine WQ_icmp_gt 16 dX5_isDigit_9 rfl (fun c29 => ?_) (fun c29 => ?_)
    · refine WQ_iconst (0) (0) dX5_isDigit_16 rfl rfl (fun v31 hv31 => ?_)
      exact WP_sub (fc rfl fn) (jn17_25 v31 (by omega) (by omega))
    · refine WQ_iconst (1) (1) dX5_isDigit_12 rfl rfl (fun v32 hv32 => ?_)
      refine WP_goto 17 dX5_isDigit_13 rfl ?_
      exact WP_sub (fc rfl fn) (jn17_25 v32 (by omega) (by omega))
set_option maxHeartbeats 4000000 in
set_option maxRecDepth 100000 in
theorem sx_put {g : GG} {n : Int} {L : Int32} (hy : LyX g)  {I : pI} {J : pJ} {R : pR} (hr : RfX g R) (hI : XI g n L I) (f : Int32)  (h4 : L.toInt ≤ 896) : SP g mX5_put [.ref (ad g 1), .int f] I J R (fun r I' J' R' => ((∃ L2 : Int32, XI g n L2 I' ∧ L2.toInt = L.toInt + 4) ∧ R' = R ∧ fz 74 g [1, 2] I I' ∧ fz 74 g [] J J') ∧ r = none) := by
  refine SP_of ⟨by decide, rfl⟩ (Nat.le_of_ble_eq_true rfl) ?_
  have e33 : I (ad g 1) 1 = L := hI.2
  have b34 := BT_get hI.1 1 1 2 (0) (0) (900) (by decide) 1 (by decide) (by decide)
  rw [e33] at b34
  have fr0 : fz 74 g [1, 2] I I := fz_rf
  have frj0 : fz 74 g [] J J := fz_rf
  refine WQ_bipush (24) (24) dX5_put_0 rfl rfl (fun v35 hv35 => ?_)
  refine WP_istore_n (ls' := [(0, _), (1, _), (2, _)]) dX5_put_2 (by decide) rfl ?_
  have lp3_39 : ∀ (mz : Nat) (i36 : Int32) (L39 : Int32) (I37 : pI) (J38 : pJ), XI g n L39 I37 → fz 74 g [1, 2] I I37 → fz 74 g [] J J38 → -8 ≤ i36.toInt → i36.toInt ≤ 24 → 8 * (L39.toInt - L.toInt) = 24 - i36.toInt → (i36.toInt + 8).toNat < mz → WP g mX5_put 3 [(0, .ref (ad g 1)), (1, .int f), (2, .int i36)] [] I37 J38 R (fun r I' J' R' => ((∃ L2 : Int32, XI g n L2 I' ∧ L2.toInt = L.toInt + 4) ∧ R' = R ∧ fz 74 g [1, 2] I I' ∧ fz 74 g [] J J') ∧ r = none) := by
    intro mz
    induction mz with
    | zero =>
      intro i36 L39 I37 J38 hI37 fiI37 fjJ38 ai36 bi36 j0_I37 hmlp3_39
      exact absurd hmlp3_39 (Nat.not_lt_zero _)
    | succ mz ihlp3_39 =>
      intro i36 L39 I37 J38 hI37 fiI37 fjJ38 ai36 bi36 j0_I37 hmlp3_39
      have e41 : I37 (ad g 1) 1 = L39 := hI37.2
      have b42 := BT_get hI37.1 1 1 2 (0) (0) (900) (by decide) 1 (by decide) (by decide)
      rw [e41] at b42
      refine WP_iload_n dX5_put_3 rfl ?_
      refine WQ_if_lt 46 dX5_put_4 rfl (fun c42 => ?_) (fun c42 => ?_)
      · exact WP_vret dX5_put_46 rfl ⟨⟨⟨_, hI37, by omega⟩, rfl, fiI37, fjJ38⟩, rfl⟩
      · refine WP_aload_n dX5_put_7 rfl ?_
        refine WQ_getim dX5_put_8 fX5_15 rfl (lyx_is hy 1 5 rfl) e41 ?_
        refine WQ_sipush (900) (900) dX5_put_11 rfl rfl (fun v44 hv44 => ?_)
        refine WQ_icmp_ge 40 dX5_put_14 rfl (fun c44 => ?_) (fun c44 => ?_)
        · refine WP_iinc (ls' := [(0, _), (1, _), (2, _)]) dX5_put_40 rfl (by decide) rfl ?_
          have hv46 : (i36 + Int32.ofInt (-8)).toInt = i36.toInt + (-8) := ia_n rfl (by omega) (by omega)
          generalize i36 + Int32.ofInt (-8) = v46 at hv46 ⊢
          refine WP_goto 3 dX5_put_43 rfl ?_
          exact WP_sub (fc rfl (fc rfl (fc rfl fn))) (ihlp3_39 v46 L39 I37 J38 hI37 fiI37 fjJ38 (by omega) (by omega) (by omega) (by omega))
        · refine WP_aload_n dX5_put_17 rfl ?_
          refine WP_getr dX5_put_18 fX5_9 rfl (lyx_is hy 1 5 rfl) (rfx hr 1 0 2 (by decide)) ?_
          refine WP_aload_n dX5_put_21 rfl ?_
          refine WQ_getim dX5_put_22 fX5_15 rfl (lyx_is hy 1 5 rfl) e41 ?_
          refine WP_iload_n dX5_put_25 rfl ?_
          refine WP_iload_n dX5_put_26 rfl ?_
          refine WQ_ishru dX5_put_27 (fun v47 => ?_)
          refine WQ_i2b dX5_put_28 (fun v48 => ?_)
          refine WQ_bast dX5_put_29 (lyx_is hy 2 12 rfl) (lyx_n hy 2 900 rfl) (by omega) (by omega) (fun I49 v50 eI49 => ?_)
          have hI49 : XI g n L39 I49 := by rw [eI49]; exact (xi_r0 hy hI37 (c := 2) (by decide) (Or.inl (by decide)) (by decide))
          have e51 : I49 (ad g 1) 1 = L39 := by rw [eI49, pp_ne _ _ (Or.inl (lyx_ne hy (by decide) (by decide) (by decide)))]; exact e41
          have fr52 : fz 74 g [1, 2] I I49 := by rw [eI49]; exact fzx_pp hy fiI37 (by decide) (by decide)
          clear eI49
          refine WP_aload_n dX5_put_30 rfl ?_
          refine WP_dup dX5_put_31 rfl ?_
          refine WQ_getim dX5_put_32 fX5_15 rfl (lyx_is hy 1 5 rfl) e51 ?_
          refine WQ_iconst (1) (1) dX5_put_35 rfl rfl (fun v53 hv53 => ?_)
          refine WQ_iadd dX5_put_36 (by omega) (by omega) (fun v54 hv54 => ?_)
          refine WQ_puti dX5_put_37 fX5_15 rfl rfl (lyx_is hy 1 5 rfl) (fun I55 eI55 => ?_)
          have hI55 : XI g n v54 I55 := by rw [eI55]; exact (xi_len hy hI49 (by omega) (by omega))
          have e56 : I55 (ad g 1) 1 = v54 := by rw [eI55, pp_self]
          have fr57 : fz 74 g [1, 2] I I55 := by rw [eI55]; exact fzx_pp hy fr52 (by decide) (by decide)
          clear eI55
          refine WP_iinc (ls' := [(0, _), (1, _), (2, _)]) dX5_put_40 rfl (by decide) rfl ?_
          have hv58 : (i36 + Int32.ofInt (-8)).toInt = i36.toInt + (-8) := ia_n rfl (by omega) (by omega)
          generalize i36 + Int32.ofInt (-8) = v58 at hv58 ⊢
          refine WP_goto 3 dX5_put_43 rfl ?_
          exact WP_sub (fc rfl (fc rfl (fc rfl fn))) (ihlp3_39 v58 v54 I55 J38 hI55 fr57 fjJ38 (by omega) (by omega) (by omega) (by omega))
  exact WP_sub (fc rfl (fc rfl (fc rfl fn))) (lp3_39 _ v35 L I J hI fr0 frj0 (by omega) (by omega) (by omega) (Nat.lt_succ_self _))
