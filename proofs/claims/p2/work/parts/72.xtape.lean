set_option maxHeartbeats 4000000 in
set_option maxRecDepth 100000 in
theorem sx_isLetter {g : GG} {n : Int} {L : Int32} (hy : LyX g)  {I : pI} {J : pJ} {R : pR} (hr : RfX g R) (hI : XI g n L I) (b : Int32)  : SP g mX5_isLetter [.int b] I J R (fun r I' J' R' => (I' = I ∧ J' = J ∧ R' = R) ∧ ∃ v : Int32, r = some (.int v) ∧ 0 ≤ v.toInt ∧ v.toInt ≤ 1) := by
  refine SP_of ⟨by decide, rfl⟩ (Nat.le_of_ble_eq_true rfl) ?_
  have e1 : I (ad g 1) 1 = L := hI.2
  have b2 := BT_get hI.1 1 1 2 (0) (0) (900) (by decide) 1 (by decide) (by decide)
  rw [e1] at b2
  refine WP_iload_n dX5_isLetter_0 rfl ?_
  refine WQ_bipush (97) (97) dX5_isLetter_1 rfl rfl (fun v3 hv3 => ?_)
  have jn17_9 : ∀ (v9 : Int32), 0 ≤ v9.toInt → v9.toInt ≤ 1 → WP g mX5_isLetter 17 [(0, .int b)] [.int v9] I J R (fun r I' J' R' => (I' = I ∧ J' = J ∧ R' = R) ∧ ∃ v : Int32, r = some (.int v) ∧ 0 ≤ v.toInt ∧ v.toInt ≤ 1) := by
    intro v9 av9 bv9
    exact WP_zret dX5_isLetter_17 rfl (nar_z (by omega)) ⟨⟨rfl, rfl, rfl⟩, _, rfl, by omega, by omega⟩
  refine WQ_icmp_lt 16 dX5_isLetter_3 rfl (fun c10 => ?_) (fun c10 => ?_)
  · refine WQ_iconst (0) (0) dX5_isLetter_16 rfl rfl (fun v12 hv12 => ?_)
    exact WP_sub (fc rfl fn) (jn17_9 v12 (by omega) (by omega))
  · refine WP_iload_n dX5_isLetter_6 rfl ?_
    refine WQ_bipush (122) (122) dX5_isLetter_7 rfl rfl (fun v13 hv13 => ?_)
    refine WQ_icmp_gt 16 dX5_isLetter_9 rfl (fun c13 => ?_) (fun c13 => ?_)
    · refine WQ_iconst (0) (0) dX5_isLetter_16 rfl rfl (fun v15 hv15 => ?_)
      exact WP_sub (fc rfl fn) (jn17_9 v15 (by omega) (by omega))
    · refine WQ_iconst (1) (1) dX5_isLetter_12 rfl rfl (fun v16 hv16 => ?_)
      refine WP_goto 17 dX5_isLetter_13 rfl ?_
      exact WP_sub (fc rfl fn) (jn17_9 v16 (by omega) (by omega))
set_option maxHeartbeats 4000000 in
set_option maxRecDepth 100000 in
theorem sx_isDigit {g : GG} {n : Int} {L : Int32} (hy : LyX g)  {I : pI} {J : pJ} {R : pR} (hr : RfX g R) (hI : XI g n L I) (b : Int32)  : SP g mX5_isDigit [.int b] I J R (fun r I' J' R' => (I' = I ∧ J' = J ∧ R' = R) ∧ ∃ v : Int32, r = some (.int v) ∧ 0 ≤ v.toInt ∧ v.toInt ≤ 1) := by
  refine SP_of ⟨by decide, rfl⟩ (Nat.le_of_ble_eq_true rfl) ?_
  have e17 : I (ad g 1) 1 = L := hI.2
  have b18 := BT_get hI.1 1 1 2 (0) (0) (900) (by decide) 1 (by decide) (by decide)
  rw [e17] at b18
  refine WP_iload_n dX5_isDigit_0 rfl ?_
  refine WQ_bipush (48) (48) dX5_isDigit_1 rfl rfl (fun v19 hv19 => ?_)
  have jn17_25 : ∀ (v25 : Int32), 0 ≤ v25.toInt → v25.toInt ≤ 1 → WP g mX5_isDigit 17 [(0, .int b)] [.int v25] I J R (fun r I' J' R' => (I' = I ∧ J' = J ∧ R' = R) ∧ ∃ v : Int32, r = some (.int v) ∧ 0 ≤ v.toInt ∧ v.toInt ≤ 1) := by
    intro v25 av25 bv25
    exact WP_zret dX5_isDigit_17 rfl (nar_z (by omega)) ⟨⟨rfl, rfl, rfl⟩, _, rfl, by omega, by omega⟩
  refine WQ_icmp_lt 16 dX5_isDigit_3 rfl (fun c26 => ?_) (fun c26 => ?_)
  · refine WQ_iconst (0) (0) dX5_isDigit_16 rfl rfl (fun v28 hv28 => ?_)
    exact WP_sub (fc rfl fn) (jn17_25 v28 (by omega) (by omega))
  · refine WP_iload_n dX5_isDigit_6 rfl ?_
    refine WQ_bipush (57) (57) dX5_isDigit_7 rfl rfl (fun v29 hv29 => ?_)
    refine WQ_icmp_gt 16 dX5_isDigit_9 rfl (fun c29 => ?_) (fun c29 => ?_)
    · refine WQ_iconst (0) (0) dX5_isDigit_16 rfl rfl (fun v31 hv31 => ?_)
      exact WP_sub (fc rfl fn) (jn17_25 v31 (by omega) (by omega))
    · refine WQ_iconst (1) (1) dX5_isDigit_12 rfl rfl (fun v32 hv32 => ?_)
      refine WP_goto 17 dX5_isDigit_13 rfl ?_
      exact WP_sub (fc rfl fn) (jn17_25 v32 (by omega) (by omega))
set_option maxHeartbeats 4000000 in
set_option maxRecDepth 100000 in
theorem sx_put {g : GG} {n : Int} {L : Int32} (hy : LyX g)  {I : pI} {J : pJ} {R : pR} (hr : RfX g R) (hI : XI g n L I) (f : Int32)  (h4 : L.toInt ≤ 896) : SP g mX5_put [.ref (ad g 1), .int f] I J R (fun r I' J' R' => ((∃ L2 : Int32, XI g n L2 I' ∧ L2.toInt = L.toInt + 4) ∧ R' = R) ∧ r = none) := by
  refine SP_of ⟨by decide, rfl⟩ (Nat.le_of_ble_eq_true rfl) ?_
  have e33 : I (ad g 1) 1 = L := hI.2
  have b34 := BT_get hI.1 1 1 2 (0) (0) (900) (by decide) 1 (by decide) (by decide)
  rw [e33] at b34
  refine WQ_bipush (24) (24) dX5_put_0 rfl rfl (fun v35 hv35 => ?_)
  refine WP_istore_n (ls' := [(0, _), (1, _), (2, _)]) dX5_put_2 (by decide) rfl ?_
  have lp3_39 : ∀ (mz : Nat) (i36 : Int32) (L39 : Int32) (I37 : pI) (J38 : pJ), XI g n L39 I37 → -8 ≤ i36.toInt → i36.toInt ≤ 24 → 8 * (L39.toInt - L.toInt) = 24 - i36.toInt → (i36.toInt + 8).toNat < mz → WP g mX5_put 3 [(0, .ref (ad g 1)), (1, .int f), (2, .int i36)] [] I37 J38 R (fun r I' J' R' => ((∃ L2 : Int32, XI g n L2 I' ∧ L2.toInt = L.toInt + 4) ∧ R' = R) ∧ r = none) := by
    intro mz
    induction mz with
    | zero =>
      intro i36 L39 I37 J38 hI37 ai36 bi36 j0_I37 hmlp3_39
      exact absurd hmlp3_39 (Nat.not_lt_zero _)
    | succ mz ihlp3_39 =>
      intro i36 L39 I37 J38 hI37 ai36 bi36 j0_I37 hmlp3_39
      have e41 : I37 (ad g 1) 1 = L39 := hI37.2
      have b42 := BT_get hI37.1 1 1 2 (0) (0) (900) (by decide) 1 (by decide) (by decide)
      rw [e41] at b42
      refine WP_iload_n dX5_put_3 rfl ?_
      refine WQ_if_lt 46 dX5_put_4 rfl (fun c42 => ?_) (fun c42 => ?_)
      · exact WP_vret dX5_put_46 rfl ⟨⟨⟨_, hI37, by omega⟩, rfl⟩, rfl⟩
      · refine WP_aload_n dX5_put_7 rfl ?_
        refine WQ_getim dX5_put_8 fX5_15 rfl (lyx_is hy 1 5 rfl) e41 ?_
        refine WQ_sipush (900) (900) dX5_put_11 rfl rfl (fun v44 hv44 => ?_)
        refine WQ_icmp_ge 40 dX5_put_14 rfl (fun c44 => ?_) (fun c44 => ?_)
        · refine WP_iinc (ls' := [(0, _), (1, _), (2, _)]) dX5_put_40 rfl (by decide) rfl ?_
          have hv46 : (i36 + Int32.ofInt (-8)).toInt = i36.toInt + (-8) := ia_n rfl (by omega) (by omega)
          generalize i36 + Int32.ofInt (-8) = v46 at hv46 ⊢
          refine WP_goto 3 dX5_put_43 rfl ?_
          exact WP_sub (fc rfl (fc rfl (fc rfl fn))) (ihlp3_39 v46 L39 I37 J38 hI37 (by omega) (by omega) (by omega) (by omega))
        · refine WP_aload_n dX5_put_17 rfl ?_
          refine WP_getr dX5_put_18 fX5_9 rfl (lyx_is hy 1 5 rfl) (rfx hr 1 0 2 (by decide)) ?_
          refine WP_aload_n dX5_put_21 rfl ?_
          refine WQ_getim dX5_put_22 fX5_15 rfl (lyx_is hy 1 5 rfl) e41 ?_
          refine WP_iload_n dX5_put_25 rfl ?_
          refine WP_iload_n dX5_put_26 rfl ?_
          refine WQ_ishru dX5_put_27 (fun v47 => ?_)
          refine WQ_i2b dX5_put_28 (fun v48 => ?_)
          refine WQ_bast dX5_put_29 (lyx_is hy 2 12 rfl) (lyx_n hy 2 900 rfl) (by omega) (by omega) (fun I49 v50 eI49 => ?_)
          have hI49 : XI g n L39 I49 := by rw [eI49]; exact (xi_r0 hy hI37 (c := 2) (by decide) (Or.inl (by decide)) (by decide))
          have e51 : I49 (ad g 1) 1 = L39 := by rw [eI49, pp_ne _ _ (Or.inl (lyx_ne hy (by decide) (by decide) (by decide)))]; exact e41
          clear eI49
          refine WP_aload_n dX5_put_30 rfl ?_
          refine WP_dup dX5_put_31 rfl ?_
          refine WQ_getim dX5_put_32 fX5_15 rfl (lyx_is hy 1 5 rfl) e51 ?_
          refine WQ_iconst (1) (1) dX5_put_35 rfl rfl (fun v52 hv52 => ?_)
          refine WQ_iadd dX5_put_36 (by omega) (by omega) (fun v53 hv53 => ?_)
          refine WQ_puti dX5_put_37 fX5_15 rfl rfl (lyx_is hy 1 5 rfl) (fun I54 eI54 => ?_)
          have hI54 : XI g n v53 I54 := by rw [eI54]; exact (xi_len hy hI49 (by omega) (by omega))
          have e55 : I54 (ad g 1) 1 = v53 := by rw [eI54, pp_self]
          clear eI54
          refine WP_iinc (ls' := [(0, _), (1, _), (2, _)]) dX5_put_40 rfl (by decide) rfl ?_
          have hv56 : (i36 + Int32.ofInt (-8)).toInt = i36.toInt + (-8) := ia_n rfl (by omega) (by omega)
          generalize i36 + Int32.ofInt (-8) = v56 at hv56 ⊢
          refine WP_goto 3 dX5_put_43 rfl ?_
          exact WP_sub (fc rfl (fc rfl (fc rfl fn))) (ihlp3_39 v56 v53 I54 J38 hI54 (by omega) (by omega) (by omega) (by omega))
  exact WP_sub (fc rfl (fc rfl (fc rfl fn))) (lp3_39 _ v35 L I J hI (by omega) (by omega) (by omega) (Nat.lt_succ_self _))
set_option maxHeartbeats 4000000 in
set_option maxRecDepth 100000 in
theorem sx_rewind {g : GG} {n : Int} {L : Int32} (hy : LyX g)  {I : pI} {J : pJ} {R : pR} (hr : RfX g R) (hI : XI g n L I)   : SP g mX5_rewind [.ref (ad g 1)] I J R (fun r I' J' R' => (XI g n L I' ∧ R' = R) ∧ r = none) := by
  refine SP_of ⟨by decide, rfl⟩ (Nat.le_of_ble_eq_true rfl) ?_
  have e57 : I (ad g 1) 1 = L := hI.2
  have b58 := BT_get hI.1 1 1 2 (0) (0) (900) (by decide) 1 (by decide) (by decide)
  rw [e57] at b58
  refine WP_aload_n dX5_rewind_0 rfl ?_
  refine WQ_iconst (0) (0) dX5_rewind_1 rfl rfl (fun v59 hv59 => ?_)
  refine WQ_puti dX5_rewind_2 fX5_19 rfl rfl (lyx_is hy 1 5 rfl) (fun I60 eI60 => ?_)
  have hI60 : XI g n L I60 := by rw [eI60]; exact (xi_f hy hI (c := 1) (0) (0) (900) (by decide) (Or.inr (by decide)) (by decide) (by omega) (by omega))
  have e61 : I60 (ad g 1) 1 = L := by rw [eI60, pp_ne _ _ (Or.inr (by decide))]; exact e57
  have e62 : I60 (ad g 1) 6 = v59 := by rw [eI60, pp_self]
  clear eI60
  exact WP_vret dX5_rewind_5 rfl ⟨⟨hI60, rfl⟩, rfl⟩
set_option maxHeartbeats 4000000 in
set_option maxRecDepth 100000 in
theorem sx_readWord {g : GG} {n : Int} {L : Int32} (hy : LyX g)  {I : pI} {J : pJ} {R : pR} (hr : RfX g R) (hI : XI g n L I)   : SP g mX5_readWord [.ref (ad g 1)] I J R (fun r I' J' R' => (XI g n L I' ∧ R' = R) ∧ r = none) := by
  refine SP_of ⟨by decide, rfl⟩ (Nat.le_of_ble_eq_true rfl) ?_
  have e63 : I (ad g 1) 1 = L := hI.2
  have b64 := BT_get hI.1 1 1 2 (0) (0) (900) (by decide) 1 (by decide) (by decide)
  rw [e63] at b64
  refine WP_aload_n dX5_readWord_0 rfl ?_
  refine WP_lconst (0) dX5_readWord_1 rfl ?_
  obtain ⟨l65, hl65, el65⟩ : ∃ v : Int64, v.toInt = 0 ∧ (0 : Int64) = v := ⟨_, rfl, rfl⟩
  rw [el65]; clear el65
  refine WQ_putl dX5_readWord_2 fX5_41 rfl rfl (lyx_is hy 1 5 rfl) (fun J66 eJ66 => ?_)
  clear eJ66
  have lp5_69 : ∀ (mz : Nat)  (I67 : pI) (J68 : pJ), XI g n L I67 → ∀ (w69 : Int32), I67 (ad g 1) 6 = w69 → (901 - w69.toInt).toNat < mz → WP g mX5_readWord 5 [(0, .ref (ad g 1))] [] I67 J68 R (fun r I' J' R' => (XI g n L I' ∧ R' = R) ∧ r = none) := by
    intro mz
    induction mz with
    | zero =>
      intro  I67 J68 hI67 w69 ew69  hmlp5_69
      exact absurd hmlp5_69 (Nat.not_lt_zero _)
    | succ mz ihlp5_69 =>
      intro  I67 J68 hI67 w69 ew69  hmlp5_69
      have bw69 := BT_get hI67.1 1 6 7 (0) (0) (900) (by decide) 6 (by decide) (by decide)
      rw [ew69] at bw69
      have e71 : I67 (ad g 1) 1 = L := hI67.2
      have b72 := BT_get hI67.1 1 1 2 (0) (0) (900) (by decide) 1 (by decide) (by decide)
      rw [e71] at b72
      refine WP_aload_n dX5_readWord_5 rfl ?_
      refine WQ_getim dX5_readWord_6 fX5_19 rfl (lyx_is hy 1 5 rfl) ew69 ?_
      refine WP_aload_n dX5_readWord_9 rfl ?_
      refine WQ_getim dX5_readWord_10 fX5_15 rfl (lyx_is hy 1 5 rfl) e71 ?_
      refine WQ_icmp_ge 66 dX5_readWord_13 rfl (fun c72 => ?_) (fun c72 => ?_)
      · refine WP_aload_n dX5_readWord_66 rfl ?_
        refine WP_aload_n dX5_readWord_67 rfl ?_
        refine WQ_getim dX5_readWord_68 fX5_19 rfl (lyx_is hy 1 5 rfl) ew69 ?_
        refine WP_aload_n dX5_readWord_71 rfl ?_
        refine WQ_geti dX5_readWord_72 fX5_22 rfl (lyx_is hy 1 5 rfl) (BT_get hI67.1 1 3 4 (0) (0) (900) (by decide) 3 (by decide) (by decide)) (fun v74 ev74 av74 bv74 => ?_)
        refine WQ_isub dX5_readWord_75 (by omega) (by omega) (fun v75 hv75 => ?_)
        refine WQ_bipush (8) (8) dX5_readWord_76 rfl rfl (fun v76 hv76 => ?_)
        have jn86_79 : ∀ (v79 : Int32), 1 ≤ v79.toInt → v79.toInt ≤ 4 → WP g mX5_readWord 86 [(0, .ref (ad g 1))] [.int v79, .ref (ad g 1)] I67 J68 R (fun r I' J' R' => (XI g n L I' ∧ R' = R) ∧ r = none) := by
          intro v79 av79 bv79
          refine WQ_puti dX5_readWord_86 fX5_25 rfl rfl (lyx_is hy 1 5 rfl) (fun I81 eI81 => ?_)
          have hI81 : XI g n L I81 := by rw [eI81]; exact (xi_f hy hI67 (c := 1) (0) (0) (4) (by decide) (Or.inr (by decide)) (by decide) (by omega) (by omega))
          have e82 : I81 (ad g 1) 6 = w69 := by rw [eI81, pp_ne _ _ (Or.inr (by decide))]; exact ew69
          have e83 : I81 (ad g 1) 1 = L := by rw [eI81, pp_ne _ _ (Or.inr (by decide))]; exact e71
          have e84 : I81 (ad g 1) 3 = v74 := by rw [eI81, pp_ne _ _ (Or.inr (by decide))]; exact ev74
          have e85 : I81 (ad g 1) 2 = v79 := by rw [eI81, pp_self]
          clear eI81
          exact WP_vret dX5_readWord_89 rfl ⟨⟨hI81, rfl⟩, rfl⟩
        refine WQ_icmp_le 85 dX5_readWord_78 rfl (fun c85 => ?_) (fun c85 => ?_)
        · refine WQ_iconst (1) (1) dX5_readWord_85 rfl rfl (fun v87 hv87 => ?_)
          exact WP_sub (fc rfl fn) (jn86_79 v87 (by omega) (by omega))
        · refine WQ_iconst (4) (4) dX5_readWord_81 rfl rfl (fun v88 hv88 => ?_)
          refine WP_goto 86 dX5_readWord_82 rfl ?_
          exact WP_sub (fc rfl fn) (jn86_79 v88 (by omega) (by omega))
      · refine WP_aload_n dX5_readWord_16 rfl ?_
        refine WP_getr dX5_readWord_17 fX5_9 rfl (lyx_is hy 1 5 rfl) (rfx hr 1 0 2 (by decide)) ?_
        refine WP_aload_n dX5_readWord_20 rfl ?_
        refine WQ_getim dX5_readWord_21 fX5_19 rfl (lyx_is hy 1 5 rfl) ew69 ?_
        refine WQ_baldu dX5_readWord_24 (lyx_is hy 2 12 rfl) (lyx_n hy 2 900 rfl) (by omega) (by omega) (fun v89 => ?_)
        refine WP_callS1 dX5_readWord_25 ⟨⟨⟨by decide, by decide⟩, zX5_isLetter⟩, lX5_28, tX5_isLetter⟩ (sx_isLetter hy hr hI67 v89 ) (Nat.le_of_ble_eq_true rfl) ?_
        intro r Ia Ja Ra hq
        obtain ⟨⟨ea, eb, ec⟩, v90, rfl, av90, bv90⟩ := hq
        show WP _ _ _ _ (.int _ :: _) _ _ _ _
        rw [ea, eb, ec]
        clear ea eb ec Ia Ja Ra
        refine WQ_if_eq 66 dX5_readWord_28 rfl (fun c90 => ?_) (fun c90 => ?_)
        · refine WP_aload_n dX5_readWord_66 rfl ?_
          refine WP_aload_n dX5_readWord_67 rfl ?_
          refine WQ_getim dX5_readWord_68 fX5_19 rfl (lyx_is hy 1 5 rfl) ew69 ?_
          refine WP_aload_n dX5_readWord_71 rfl ?_
          refine WQ_geti dX5_readWord_72 fX5_22 rfl (lyx_is hy 1 5 rfl) (BT_get hI67.1 1 3 4 (0) (0) (900) (by decide) 3 (by decide) (by decide)) (fun v92 ev92 av92 bv92 => ?_)
          refine WQ_isub dX5_readWord_75 (by omega) (by omega) (fun v93 hv93 => ?_)
          refine WQ_bipush (8) (8) dX5_readWord_76 rfl rfl (fun v94 hv94 => ?_)
          have jn86_97 : ∀ (v97 : Int32), 1 ≤ v97.toInt → v97.toInt ≤ 4 → WP g mX5_readWord 86 [(0, .ref (ad g 1))] [.int v97, .ref (ad g 1)] I67 J68 R (fun r I' J' R' => (XI g n L I' ∧ R' = R) ∧ r = none) := by
            intro v97 av97 bv97
            refine WQ_puti dX5_readWord_86 fX5_25 rfl rfl (lyx_is hy 1 5 rfl) (fun I99 eI99 => ?_)
            have hI99 : XI g n L I99 := by rw [eI99]; exact (xi_f hy hI67 (c := 1) (0) (0) (4) (by decide) (Or.inr (by decide)) (by decide) (by omega) (by omega))
            have e100 : I99 (ad g 1) 6 = w69 := by rw [eI99, pp_ne _ _ (Or.inr (by decide))]; exact ew69
            have e101 : I99 (ad g 1) 1 = L := by rw [eI99, pp_ne _ _ (Or.inr (by decide))]; exact e71
            have e102 : I99 (ad g 1) 3 = v92 := by rw [eI99, pp_ne _ _ (Or.inr (by decide))]; exact ev92
            have e103 : I99 (ad g 1) 2 = v97 := by rw [eI99, pp_self]
            clear eI99
            exact WP_vret dX5_readWord_89 rfl ⟨⟨hI99, rfl⟩, rfl⟩
          refine WQ_icmp_le 85 dX5_readWord_78 rfl (fun c103 => ?_) (fun c103 => ?_)
          · refine WQ_iconst (1) (1) dX5_readWord_85 rfl rfl (fun v105 hv105 => ?_)
            exact WP_sub (fc rfl fn) (jn86_97 v105 (by omega) (by omega))
          · refine WQ_iconst (4) (4) dX5_readWord_81 rfl rfl (fun v106 hv106 => ?_)
            refine WP_goto 86 dX5_readWord_82 rfl ?_
            exact WP_sub (fc rfl fn) (jn86_97 v106 (by omega) (by omega))
        · refine WP_aload_n dX5_readWord_31 rfl ?_
          refine WP_aload_n dX5_readWord_32 rfl ?_
          refine WQ_getl dX5_readWord_33 fX5_41 rfl (lyx_is hy 1 5 rfl) (fun l107 el107 => ?_)
          refine WQ_bipush (8) (8) dX5_readWord_36 rfl rfl (fun v108 hv108 => ?_)
          refine WQ_lshl dX5_readWord_38 (fun l109 => ?_)
          refine WP_aload_n dX5_readWord_39 rfl ?_
          refine WP_getr dX5_readWord_40 fX5_9 rfl (lyx_is hy 1 5 rfl) (rfx hr 1 0 2 (by decide)) ?_
          refine WP_aload_n dX5_readWord_43 rfl ?_
          refine WQ_getim dX5_readWord_44 fX5_19 rfl (lyx_is hy 1 5 rfl) ew69 ?_
          refine WQ_baldu dX5_readWord_47 (lyx_is hy 2 12 rfl) (lyx_n hy 2 900 rfl) (by omega) (by omega) (fun v110 => ?_)
          refine WQ_i2l dX5_readWord_48 (fun l111 hl111 => ?_)
          refine WQ_lor dX5_readWord_49 (fun l112 => ?_)
          refine WQ_putl dX5_readWord_50 fX5_41 rfl rfl (lyx_is hy 1 5 rfl) (fun J113 eJ113 => ?_)
          clear eJ113
          refine WP_aload_n dX5_readWord_53 rfl ?_
          refine WP_dup dX5_readWord_54 rfl ?_
          refine WQ_getim dX5_readWord_55 fX5_19 rfl (lyx_is hy 1 5 rfl) ew69 ?_
          refine WQ_iconst (1) (1) dX5_readWord_58 rfl rfl (fun v114 hv114 => ?_)
          refine WQ_iadd dX5_readWord_59 (by omega) (by omega) (fun v115 hv115 => ?_)
          refine WQ_puti dX5_readWord_60 fX5_19 rfl rfl (lyx_is hy 1 5 rfl) (fun I116 eI116 => ?_)
          have hI116 : XI g n L I116 := by rw [eI116]; exact (xi_f hy hI67 (c := 1) (0) (0) (900) (by decide) (Or.inr (by decide)) (by decide) (by omega) (by omega))
          have e117 : I116 (ad g 1) 1 = L := by rw [eI116, pp_ne _ _ (Or.inr (by decide))]; exact e71
          have e118 : I116 (ad g 1) 6 = v115 := by rw [eI116, pp_self]
          clear eI116
          refine WP_goto 5 dX5_readWord_63 rfl ?_
          exact WP_sub (fc rfl fn) (ihlp5_69 I116 J113 hI116 v115 e118 (by omega))
  obtain ⟨w119, ew119⟩ : ∃ w : Int32, I (ad g 1) 6 = w := ⟨_, rfl⟩
  have bw119 := BT_get hI.1 1 6 7 (0) (0) (900) (by decide) 6 (by decide) (by decide)
  rw [ew119] at bw119
  exact WP_sub (fc rfl fn) (lp5_69 _ I J66 hI w119 ew119 (Nat.lt_succ_self _))
set_option maxHeartbeats 4000000 in
set_option maxRecDepth 100000 in
theorem sx_readNumber {g : GG} {n : Int} {L : Int32} (hy : LyX g)  {I : pI} {J : pJ} {R : pR} (hr : RfX g R) (hI : XI g n L I)   : SP g mX5_readNumber [.ref (ad g 1)] I J R (fun r I' J' R' => (XI g n L I' ∧ R' = R) ∧ r = none) := by
  refine SP_of ⟨by decide, rfl⟩ (Nat.le_of_ble_eq_true rfl) ?_
  have e120 : I (ad g 1) 1 = L := hI.2
  have b121 := BT_get hI.1 1 1 2 (0) (0) (900) (by decide) 1 (by decide) (by decide)
  rw [e120] at b121
  refine WP_aload_n dX5_readNumber_0 rfl ?_
  refine WQ_iconst (0) (0) dX5_readNumber_1 rfl rfl (fun v122 hv122 => ?_)
  refine WQ_puti dX5_readNumber_2 fX5_45 rfl rfl (lyx_is hy 1 5 rfl) (fun I123 eI123 => ?_)
  have hI123 : XI g n L I123 := by rw [eI123]; exact (xi_f0 hy hI (c := 1) (by decide) (Or.inr (by decide)) (by decide))
  have e124 : I123 (ad g 1) 1 = L := by rw [eI123, pp_ne _ _ (Or.inr (by decide))]; exact e120
  have e125 : I123 (ad g 1) 4 = v122 := by rw [eI123, pp_self]
  clear eI123
  have lp5_128 : ∀ (mz : Nat)  (I126 : pI) (J127 : pJ), XI g n L I126 → ∀ (w128 : Int32), I126 (ad g 1) 6 = w128 → (901 - w128.toInt).toNat < mz → WP g mX5_readNumber 5 [(0, .ref (ad g 1))] [] I126 J127 R (fun r I' J' R' => (XI g n L I' ∧ R' = R) ∧ r = none) := by
    intro mz
    induction mz with
    | zero =>
      intro  I126 J127 hI126 w128 ew128  hmlp5_128
      exact absurd hmlp5_128 (Nat.not_lt_zero _)
    | succ mz ihlp5_128 =>
      intro  I126 J127 hI126 w128 ew128  hmlp5_128
      have bw128 := BT_get hI126.1 1 6 7 (0) (0) (900) (by decide) 6 (by decide) (by decide)
      rw [ew128] at bw128
      have e130 : I126 (ad g 1) 1 = L := hI126.2
      have b131 := BT_get hI126.1 1 1 2 (0) (0) (900) (by decide) 1 (by decide) (by decide)
      rw [e130] at b131
      refine WP_aload_n dX5_readNumber_5 rfl ?_
      refine WQ_getim dX5_readNumber_6 fX5_19 rfl (lyx_is hy 1 5 rfl) ew128 ?_
      refine WP_aload_n dX5_readNumber_9 rfl ?_
      refine WQ_getim dX5_readNumber_10 fX5_15 rfl (lyx_is hy 1 5 rfl) e130 ?_
      refine WQ_icmp_ge 68 dX5_readNumber_13 rfl (fun c131 => ?_) (fun c131 => ?_)
      · refine WP_aload_n dX5_readNumber_68 rfl ?_
        refine WP_aload_n dX5_readNumber_69 rfl ?_
        refine WQ_getim dX5_readNumber_70 fX5_19 rfl (lyx_is hy 1 5 rfl) ew128 ?_
        refine WP_aload_n dX5_readNumber_73 rfl ?_
        refine WQ_geti dX5_readNumber_74 fX5_22 rfl (lyx_is hy 1 5 rfl) (BT_get hI126.1 1 3 4 (0) (0) (900) (by decide) 3 (by decide) (by decide)) (fun v133 ev133 av133 bv133 => ?_)
        refine WQ_isub dX5_readNumber_77 (by omega) (by omega) (fun v134 hv134 => ?_)
        refine WQ_iconst (4) (4) dX5_readNumber_78 rfl rfl (fun v135 hv135 => ?_)
        have jn87_138 : ∀ (v138 : Int32), 2 ≤ v138.toInt → v138.toInt ≤ 4 → WP g mX5_readNumber 87 [(0, .ref (ad g 1))] [.int v138, .ref (ad g 1)] I126 J127 R (fun r I' J' R' => (XI g n L I' ∧ R' = R) ∧ r = none) := by
          intro v138 av138 bv138
          refine WQ_puti dX5_readNumber_87 fX5_25 rfl rfl (lyx_is hy 1 5 rfl) (fun I140 eI140 => ?_)
          have hI140 : XI g n L I140 := by rw [eI140]; exact (xi_f hy hI126 (c := 1) (0) (0) (4) (by decide) (Or.inr (by decide)) (by decide) (by omega) (by omega))
          have e141 : I140 (ad g 1) 6 = w128 := by rw [eI140, pp_ne _ _ (Or.inr (by decide))]; exact ew128
          have e142 : I140 (ad g 1) 1 = L := by rw [eI140, pp_ne _ _ (Or.inr (by decide))]; exact e130
          have e143 : I140 (ad g 1) 3 = v133 := by rw [eI140, pp_ne _ _ (Or.inr (by decide))]; exact ev133
          have e144 : I140 (ad g 1) 2 = v138 := by rw [eI140, pp_self]
          clear eI140
          exact WP_vret dX5_readNumber_90 rfl ⟨⟨hI140, rfl⟩, rfl⟩
        refine WQ_icmp_le 86 dX5_readNumber_79 rfl (fun c144 => ?_) (fun c144 => ?_)
        · refine WQ_iconst (2) (2) dX5_readNumber_86 rfl rfl (fun v146 hv146 => ?_)
          exact WP_sub (fc rfl fn) (jn87_138 v146 (by omega) (by omega))
        · refine WQ_iconst (4) (4) dX5_readNumber_82 rfl rfl (fun v147 hv147 => ?_)
          refine WP_goto 87 dX5_readNumber_83 rfl ?_
          exact WP_sub (fc rfl fn) (jn87_138 v147 (by omega) (by omega))
      · refine WP_aload_n dX5_readNumber_16 rfl ?_
        refine WP_getr dX5_readNumber_17 fX5_9 rfl (lyx_is hy 1 5 rfl) (rfx hr 1 0 2 (by decide)) ?_
        refine WP_aload_n dX5_readNumber_20 rfl ?_
        refine WQ_getim dX5_readNumber_21 fX5_19 rfl (lyx_is hy 1 5 rfl) ew128 ?_
        refine WQ_baldu dX5_readNumber_24 (lyx_is hy 2 12 rfl) (lyx_n hy 2 900 rfl) (by omega) (by omega) (fun v148 => ?_)
        refine WP_callS1 dX5_readNumber_25 ⟨⟨⟨by decide, by decide⟩, zX5_isDigit⟩, lX5_35, tX5_isDigit⟩ (sx_isDigit hy hr hI126 v148 ) (Nat.le_of_ble_eq_true rfl) ?_
        intro r Ia Ja Ra hq
        obtain ⟨⟨ea, eb, ec⟩, v149, rfl, av149, bv149⟩ := hq
        show WP _ _ _ _ (.int _ :: _) _ _ _ _
        rw [ea, eb, ec]
        clear ea eb ec Ia Ja Ra
        refine WQ_if_eq 68 dX5_readNumber_28 rfl (fun c149 => ?_) (fun c149 => ?_)
        · refine WP_aload_n dX5_readNumber_68 rfl ?_
          refine WP_aload_n dX5_readNumber_69 rfl ?_
          refine WQ_getim dX5_readNumber_70 fX5_19 rfl (lyx_is hy 1 5 rfl) ew128 ?_
          refine WP_aload_n dX5_readNumber_73 rfl ?_
          refine WQ_geti dX5_readNumber_74 fX5_22 rfl (lyx_is hy 1 5 rfl) (BT_get hI126.1 1 3 4 (0) (0) (900) (by decide) 3 (by decide) (by decide)) (fun v151 ev151 av151 bv151 => ?_)
          refine WQ_isub dX5_readNumber_77 (by omega) (by omega) (fun v152 hv152 => ?_)
          refine WQ_iconst (4) (4) dX5_readNumber_78 rfl rfl (fun v153 hv153 => ?_)
          have jn87_156 : ∀ (v156 : Int32), 2 ≤ v156.toInt → v156.toInt ≤ 4 → WP g mX5_readNumber 87 [(0, .ref (ad g 1))] [.int v156, .ref (ad g 1)] I126 J127 R (fun r I' J' R' => (XI g n L I' ∧ R' = R) ∧ r = none) := by
            intro v156 av156 bv156
            refine WQ_puti dX5_readNumber_87 fX5_25 rfl rfl (lyx_is hy 1 5 rfl) (fun I158 eI158 => ?_)
            have hI158 : XI g n L I158 := by rw [eI158]; exact (xi_f hy hI126 (c := 1) (0) (0) (4) (by decide) (Or.inr (by decide)) (by decide) (by omega) (by omega))
            have e159 : I158 (ad g 1) 6 = w128 := by rw [eI158, pp_ne _ _ (Or.inr (by decide))]; exact ew128
            have e160 : I158 (ad g 1) 1 = L := by rw [eI158, pp_ne _ _ (Or.inr (by decide))]; exact e130
            have e161 : I158 (ad g 1) 3 = v151 := by rw [eI158, pp_ne _ _ (Or.inr (by decide))]; exact ev151
            have e162 : I158 (ad g 1) 2 = v156 := by rw [eI158, pp_self]
            clear eI158
            exact WP_vret dX5_readNumber_90 rfl ⟨⟨hI158, rfl⟩, rfl⟩
          refine WQ_icmp_le 86 dX5_readNumber_79 rfl (fun c162 => ?_) (fun c162 => ?_)
          · refine WQ_iconst (2) (2) dX5_readNumber_86 rfl rfl (fun v164 hv164 => ?_)
            exact WP_sub (fc rfl fn) (jn87_156 v164 (by omega) (by omega))
          · refine WQ_iconst (4) (4) dX5_readNumber_82 rfl rfl (fun v165 hv165 => ?_)
            refine WP_goto 87 dX5_readNumber_83 rfl ?_
            exact WP_sub (fc rfl fn) (jn87_156 v165 (by omega) (by omega))
        · refine WP_aload_n dX5_readNumber_31 rfl ?_
          refine WP_aload_n dX5_readNumber_32 rfl ?_
          refine WQ_getiu dX5_readNumber_33 fX5_45 rfl (lyx_is hy 1 5 rfl) (fun v166 ev166 => ?_)
          refine WQ_bipush (10) (10) dX5_readNumber_36 rfl rfl (fun v167 hv167 => ?_)
          refine WQ_imulu dX5_readNumber_38 (fun v168 => ?_)
          refine WP_aload_n dX5_readNumber_39 rfl ?_
          refine WP_getr dX5_readNumber_40 fX5_9 rfl (lyx_is hy 1 5 rfl) (rfx hr 1 0 2 (by decide)) ?_
          refine WP_aload_n dX5_readNumber_43 rfl ?_
          refine WQ_getim dX5_readNumber_44 fX5_19 rfl (lyx_is hy 1 5 rfl) ew128 ?_
          refine WQ_baldu dX5_readNumber_47 (lyx_is hy 2 12 rfl) (lyx_n hy 2 900 rfl) (by omega) (by omega) (fun v169 => ?_)
          refine WQ_iaddu dX5_readNumber_48 (fun v170 => ?_)
          refine WQ_bipush (48) (48) dX5_readNumber_49 rfl rfl (fun v171 hv171 => ?_)
          refine WQ_isubu dX5_readNumber_51 (fun v172 => ?_)
          refine WQ_puti dX5_readNumber_52 fX5_45 rfl rfl (lyx_is hy 1 5 rfl) (fun I173 eI173 => ?_)
          have hI173 : XI g n L I173 := by rw [eI173]; exact (xi_f0 hy hI126 (c := 1) (by decide) (Or.inr (by decide)) (by decide))
          have e174 : I173 (ad g 1) 6 = w128 := by rw [eI173, pp_ne _ _ (Or.inr (by decide))]; exact ew128
          have e175 : I173 (ad g 1) 1 = L := by rw [eI173, pp_ne _ _ (Or.inr (by decide))]; exact e130
          have e176 : I173 (ad g 1) 4 = v172 := by rw [eI173, pp_self]
          clear eI173
          refine WP_aload_n dX5_readNumber_55 rfl ?_
          refine WP_dup dX5_readNumber_56 rfl ?_
          refine WQ_getim dX5_readNumber_57 fX5_19 rfl (lyx_is hy 1 5 rfl) e174 ?_
          refine WQ_iconst (1) (1) dX5_readNumber_60 rfl rfl (fun v177 hv177 => ?_)
          refine WQ_iadd dX5_readNumber_61 (by omega) (by omega) (fun v178 hv178 => ?_)
          refine WQ_puti dX5_readNumber_62 fX5_19 rfl rfl (lyx_is hy 1 5 rfl) (fun I179 eI179 => ?_)
          have hI179 : XI g n L I179 := by rw [eI179]; exact (xi_f hy hI173 (c := 1) (0) (0) (900) (by decide) (Or.inr (by decide)) (by decide) (by omega) (by omega))
          have e180 : I179 (ad g 1) 1 = L := by rw [eI179, pp_ne _ _ (Or.inr (by decide))]; exact e175
          have e181 : I179 (ad g 1) 4 = v172 := by rw [eI179, pp_ne _ _ (Or.inr (by decide))]; exact e176
          have e182 : I179 (ad g 1) 6 = v178 := by rw [eI179, pp_self]
          clear eI179
          refine WP_goto 5 dX5_readNumber_65 rfl ?_
          exact WP_sub (fc rfl fn) (ihlp5_128 I179 J127 hI179 v178 e182 (by omega))
  obtain ⟨w183, ew183⟩ : ∃ w : Int32, I123 (ad g 1) 6 = w := ⟨_, rfl⟩
  have bw183 := BT_get hI123.1 1 6 7 (0) (0) (900) (by decide) 6 (by decide) (by decide)
  rw [ew183] at bw183
  exact WP_sub (fc rfl fn) (lp5_128 _ I123 J hI123 w183 ew183 (Nat.lt_succ_self _))
set_option maxHeartbeats 4000000 in
set_option maxRecDepth 100000 in
theorem sx_next {g : GG} {n : Int} {L : Int32} (hy : LyX g)  {I : pI} {J : pJ} {R : pR} (hr : RfX g R) (hI : XI g n L I)   : SP g mX5_next [.ref (ad g 1)] I J R (fun r I' J' R' => (XI g n L I' ∧ R' = R) ∧ r = none) := by
  refine SP_of ⟨by decide, rfl⟩ (Nat.le_of_ble_eq_true rfl) ?_
  have e184 : I (ad g 1) 1 = L := hI.2
  have b185 := BT_get hI.1 1 1 2 (0) (0) (900) (by decide) 1 (by decide) (by decide)
  rw [e184] at b185
  have lp0_188 : ∀ (mz : Nat)  (I186 : pI) (J187 : pJ), XI g n L I186 → ∀ (w188 : Int32), I186 (ad g 1) 6 = w188 → (901 - w188.toInt).toNat < mz → WP g mX5_next 0 [(0, .ref (ad g 1))] [] I186 J187 R (fun r I' J' R' => (XI g n L I' ∧ R' = R) ∧ r = none) := by
    intro mz
    induction mz with
    | zero =>
      intro  I186 J187 hI186 w188 ew188  hmlp0_188
      exact absurd hmlp0_188 (Nat.not_lt_zero _)
    | succ mz ihlp0_188 =>
      intro  I186 J187 hI186 w188 ew188  hmlp0_188
      have bw188 := BT_get hI186.1 1 6 7 (0) (0) (900) (by decide) 6 (by decide) (by decide)
      rw [ew188] at bw188
      have e190 : I186 (ad g 1) 1 = L := hI186.2
      have b191 := BT_get hI186.1 1 1 2 (0) (0) (900) (by decide) 1 (by decide) (by decide)
      rw [e190] at b191
      refine WP_aload_n dX5_next_0 rfl ?_
      refine WQ_getim dX5_next_1 fX5_19 rfl (lyx_is hy 1 5 rfl) ew188 ?_
      refine WP_aload_n dX5_next_4 rfl ?_
      refine WQ_getim dX5_next_5 fX5_15 rfl (lyx_is hy 1 5 rfl) e190 ?_
      refine WQ_icmp_ge 52 dX5_next_8 rfl (fun c191 => ?_) (fun c191 => ?_)
      · refine WP_aload_n dX5_next_52 rfl ?_
        refine WP_aload_n dX5_next_53 rfl ?_
        refine WQ_getim dX5_next_54 fX5_19 rfl (lyx_is hy 1 5 rfl) ew188 ?_
        refine WQ_puti dX5_next_57 fX5_22 rfl rfl (lyx_is hy 1 5 rfl) (fun I193 eI193 => ?_)
        have hI193 : XI g n L I193 := by rw [eI193]; exact (xi_f hy hI186 (c := 1) (0) (0) (900) (by decide) (Or.inr (by decide)) (by decide) (by omega) (by omega))
        have e194 : I193 (ad g 1) 6 = w188 := by rw [eI193, pp_ne _ _ (Or.inr (by decide))]; exact ew188
        have e195 : I193 (ad g 1) 1 = L := by rw [eI193, pp_ne _ _ (Or.inr (by decide))]; exact e190
        have e196 : I193 (ad g 1) 3 = w188 := by rw [eI193, pp_self]
        clear eI193
        refine WP_aload_n dX5_next_60 rfl ?_
        refine WQ_getim dX5_next_61 fX5_19 rfl (lyx_is hy 1 5 rfl) e194 ?_
        refine WP_aload_n dX5_next_64 rfl ?_
        refine WQ_getim dX5_next_65 fX5_15 rfl (lyx_is hy 1 5 rfl) e195 ?_
        refine WQ_icmp_lt 79 dX5_next_68 rfl (fun c196 => ?_) (fun c196 => ?_)
        · refine WP_aload_n dX5_next_79 rfl ?_
          refine WP_getr dX5_next_80 fX5_9 rfl (lyx_is hy 1 5 rfl) (rfx hr 1 0 2 (by decide)) ?_
          refine WP_aload_n dX5_next_83 rfl ?_
          refine WQ_getim dX5_next_84 fX5_19 rfl (lyx_is hy 1 5 rfl) e194 ?_
          refine WQ_baldu dX5_next_87 (lyx_is hy 2 12 rfl) (lyx_n hy 2 900 rfl) (by omega) (by omega) (fun v198 => ?_)
          refine WP_callS1 dX5_next_88 ⟨⟨⟨by decide, by decide⟩, zX5_isLetter⟩, lX5_28, tX5_isLetter⟩ (sx_isLetter hy hr hI193 v198 ) (Nat.le_of_ble_eq_true rfl) ?_
          intro r Ia Ja Ra hq
          obtain ⟨⟨ea, eb, ec⟩, v199, rfl, av199, bv199⟩ := hq
          show WP _ _ _ _ (.int _ :: _) _ _ _ _
          rw [ea, eb, ec]
          clear ea eb ec Ia Ja Ra
          refine WQ_if_eq 101 dX5_next_91 rfl (fun c199 => ?_) (fun c199 => ?_)
          · refine WP_aload_n dX5_next_101 rfl ?_
            refine WP_getr dX5_next_102 fX5_9 rfl (lyx_is hy 1 5 rfl) (rfx hr 1 0 2 (by decide)) ?_
            refine WP_aload_n dX5_next_105 rfl ?_
            refine WQ_getim dX5_next_106 fX5_19 rfl (lyx_is hy 1 5 rfl) e194 ?_
            refine WQ_baldu dX5_next_109 (lyx_is hy 2 12 rfl) (lyx_n hy 2 900 rfl) (by omega) (by omega) (fun v201 => ?_)
            refine WP_callS1 dX5_next_110 ⟨⟨⟨by decide, by decide⟩, zX5_isDigit⟩, lX5_35, tX5_isDigit⟩ (sx_isDigit hy hr hI193 v201 ) (Nat.le_of_ble_eq_true rfl) ?_
            intro r Ia Ja Ra hq
            obtain ⟨⟨ea, eb, ec⟩, v202, rfl, av202, bv202⟩ := hq
            show WP _ _ _ _ (.int _ :: _) _ _ _ _
            rw [ea, eb, ec]
            clear ea eb ec Ia Ja Ra
            refine WQ_if_eq 123 dX5_next_113 rfl (fun c202 => ?_) (fun c202 => ?_)
            · refine WP_aload_n dX5_next_123 rfl ?_
              refine WP_aload_n dX5_next_124 rfl ?_
              refine WP_getr dX5_next_125 fX5_9 rfl (lyx_is hy 1 5 rfl) (rfx hr 1 0 2 (by decide)) ?_
              refine WP_aload_n dX5_next_128 rfl ?_
              refine WQ_getim dX5_next_129 fX5_19 rfl (lyx_is hy 1 5 rfl) e194 ?_
              refine WQ_baldu dX5_next_132 (lyx_is hy 2 12 rfl) (lyx_n hy 2 900 rfl) (by omega) (by omega) (fun v204 => ?_)
              refine WQ_bipush (59) (59) dX5_next_133 rfl rfl (fun v205 hv205 => ?_)
              have jn143_208 : ∀ (v208 : Int32), 3 ≤ v208.toInt → v208.toInt ≤ 4 → WP g mX5_next 143 [(0, .ref (ad g 1))] [.int v208, .ref (ad g 1)] I193 J187 R (fun r I' J' R' => (XI g n L I' ∧ R' = R) ∧ r = none) := by
                intro v208 av208 bv208
                refine WQ_puti dX5_next_143 fX5_25 rfl rfl (lyx_is hy 1 5 rfl) (fun I210 eI210 => ?_)
                have hI210 : XI g n L I210 := by rw [eI210]; exact (xi_f hy hI193 (c := 1) (0) (0) (4) (by decide) (Or.inr (by decide)) (by decide) (by omega) (by omega))
                have e211 : I210 (ad g 1) 6 = w188 := by rw [eI210, pp_ne _ _ (Or.inr (by decide))]; exact e194
                have e212 : I210 (ad g 1) 1 = L := by rw [eI210, pp_ne _ _ (Or.inr (by decide))]; exact e195
                have e213 : I210 (ad g 1) 3 = w188 := by rw [eI210, pp_ne _ _ (Or.inr (by decide))]; exact e196
                have e214 : I210 (ad g 1) 2 = v208 := by rw [eI210, pp_self]
                clear eI210
                refine WP_aload_n dX5_next_146 rfl ?_
                refine WP_dup dX5_next_147 rfl ?_
                refine WQ_getim dX5_next_148 fX5_19 rfl (lyx_is hy 1 5 rfl) e211 ?_
                refine WQ_iconst (1) (1) dX5_next_151 rfl rfl (fun v215 hv215 => ?_)
                refine WQ_iadd dX5_next_152 (by omega) (by omega) (fun v216 hv216 => ?_)
                refine WQ_puti dX5_next_153 fX5_19 rfl rfl (lyx_is hy 1 5 rfl) (fun I217 eI217 => ?_)
                have hI217 : XI g n L I217 := by rw [eI217]; exact (xi_f hy hI210 (c := 1) (0) (0) (900) (by decide) (Or.inr (by decide)) (by decide) (by omega) (by omega))
                have e218 : I217 (ad g 1) 1 = L := by rw [eI217, pp_ne _ _ (Or.inr (by decide))]; exact e212
                have e219 : I217 (ad g 1) 3 = w188 := by rw [eI217, pp_ne _ _ (Or.inr (by decide))]; exact e213
                have e220 : I217 (ad g 1) 2 = v208 := by rw [eI217, pp_ne _ _ (Or.inr (by decide))]; exact e214
                have e221 : I217 (ad g 1) 6 = v216 := by rw [eI217, pp_self]
                clear eI217
                exact WP_vret dX5_next_156 rfl ⟨⟨hI217, rfl⟩, rfl⟩
              refine WX_icmp_ne 142 dX5_next_135 rfl ?_ ?_
              · refine WQ_iconst (4) (4) dX5_next_142 rfl rfl (fun v222 hv222 => ?_)
                exact WP_sub (fc rfl fn) (jn143_208 v222 (by omega) (by omega))
              · refine WQ_iconst (3) (3) dX5_next_138 rfl rfl (fun v223 hv223 => ?_)
                refine WP_goto 143 dX5_next_139 rfl ?_
                exact WP_sub (fc rfl fn) (jn143_208 v223 (by omega) (by omega))
            · refine WP_aload_n dX5_next_116 rfl ?_
              refine WP_callV0 (k := 5) dX5_next_117 ⟨⟨⟨by decide, by decide⟩, zX5_readNumber⟩, lX5_38, by decide, rfl, vX5_readNumber.1, vX5_readNumber.2⟩ (lyx_is hy 1 5 rfl) (sx_readNumber hy hr hI193  ) (Nat.le_of_ble_eq_true rfl) ?_
              intro r I224 J225 Ra hq
              obtain ⟨⟨hI224, ec⟩, rfl⟩ := hq
              rw [ec]
              clear ec Ra
              have e226 : I224 (ad g 1) 1 = L := hI224.2
              have b227 := BT_get hI224.1 1 1 2 (0) (0) (900) (by decide) 1 (by decide) (by decide)
              rw [e226] at b227
              refine WP_goto 156 dX5_next_120 rfl ?_
              exact WP_vret dX5_next_156 rfl ⟨⟨hI224, rfl⟩, rfl⟩
          · refine WP_aload_n dX5_next_94 rfl ?_
            refine WP_callV0 (k := 5) dX5_next_95 ⟨⟨⟨by decide, by decide⟩, zX5_readWord⟩, lX5_32, by decide, rfl, vX5_readWord.1, vX5_readWord.2⟩ (lyx_is hy 1 5 rfl) (sx_readWord hy hr hI193  ) (Nat.le_of_ble_eq_true rfl) ?_
            intro r I228 J229 Ra hq
            obtain ⟨⟨hI228, ec⟩, rfl⟩ := hq
            rw [ec]
            clear ec Ra
            have e230 : I228 (ad g 1) 1 = L := hI228.2
            have b231 := BT_get hI228.1 1 1 2 (0) (0) (900) (by decide) 1 (by decide) (by decide)
            rw [e230] at b231
            refine WP_goto 156 dX5_next_98 rfl ?_
            exact WP_vret dX5_next_156 rfl ⟨⟨hI228, rfl⟩, rfl⟩
        · refine WP_aload_n dX5_next_71 rfl ?_
          refine WQ_iconst (0) (0) dX5_next_72 rfl rfl (fun v232 hv232 => ?_)
          refine WQ_puti dX5_next_73 fX5_25 rfl rfl (lyx_is hy 1 5 rfl) (fun I233 eI233 => ?_)
          have hI233 : XI g n L I233 := by rw [eI233]; exact (xi_f hy hI193 (c := 1) (0) (0) (4) (by decide) (Or.inr (by decide)) (by decide) (by omega) (by omega))
          have e234 : I233 (ad g 1) 6 = w188 := by rw [eI233, pp_ne _ _ (Or.inr (by decide))]; exact e194
          have e235 : I233 (ad g 1) 1 = L := by rw [eI233, pp_ne _ _ (Or.inr (by decide))]; exact e195
          have e236 : I233 (ad g 1) 3 = w188 := by rw [eI233, pp_ne _ _ (Or.inr (by decide))]; exact e196
          have e237 : I233 (ad g 1) 2 = v232 := by rw [eI233, pp_self]
          clear eI233
          refine WP_goto 156 dX5_next_76 rfl ?_
          exact WP_vret dX5_next_156 rfl ⟨⟨hI233, rfl⟩, rfl⟩
      · refine WP_aload_n dX5_next_11 rfl ?_
        refine WP_getr dX5_next_12 fX5_9 rfl (lyx_is hy 1 5 rfl) (rfx hr 1 0 2 (by decide)) ?_
        refine WP_aload_n dX5_next_15 rfl ?_
        refine WQ_getim dX5_next_16 fX5_19 rfl (lyx_is hy 1 5 rfl) ew188 ?_
        refine WQ_baldu dX5_next_19 (lyx_is hy 2 12 rfl) (lyx_n hy 2 900 rfl) (by omega) (by omega) (fun v238 => ?_)
        refine WQ_bipush (32) (32) dX5_next_20 rfl rfl (fun v239 hv239 => ?_)
        refine WX_icmp_eq 39 dX5_next_22 rfl ?_ ?_
        · refine WP_aload_n dX5_next_39 rfl ?_
          refine WP_dup dX5_next_40 rfl ?_
          refine WQ_getim dX5_next_41 fX5_19 rfl (lyx_is hy 1 5 rfl) ew188 ?_
          refine WQ_iconst (1) (1) dX5_next_44 rfl rfl (fun v240 hv240 => ?_)
          refine WQ_iadd dX5_next_45 (by omega) (by omega) (fun v241 hv241 => ?_)
          refine WQ_puti dX5_next_46 fX5_19 rfl rfl (lyx_is hy 1 5 rfl) (fun I242 eI242 => ?_)
          have hI242 : XI g n L I242 := by rw [eI242]; exact (xi_f hy hI186 (c := 1) (0) (0) (900) (by decide) (Or.inr (by decide)) (by decide) (by omega) (by omega))
          have e243 : I242 (ad g 1) 1 = L := by rw [eI242, pp_ne _ _ (Or.inr (by decide))]; exact e190
          have e244 : I242 (ad g 1) 6 = v241 := by rw [eI242, pp_self]
          clear eI242
          refine WP_goto 0 dX5_next_49 rfl ?_
          exact WP_sub (fc rfl fn) (ihlp0_188 I242 J187 hI242 v241 e244 (by omega))
        · refine WP_aload_n dX5_next_25 rfl ?_
          refine WP_getr dX5_next_26 fX5_9 rfl (lyx_is hy 1 5 rfl) (rfx hr 1 0 2 (by decide)) ?_
          refine WP_aload_n dX5_next_29 rfl ?_
          refine WQ_getim dX5_next_30 fX5_19 rfl (lyx_is hy 1 5 rfl) ew188 ?_
          refine WQ_baldu dX5_next_33 (lyx_is hy 2 12 rfl) (lyx_n hy 2 900 rfl) (by omega) (by omega) (fun v245 => ?_)
          refine WQ_bipush (10) (10) dX5_next_34 rfl rfl (fun v246 hv246 => ?_)
          refine WX_icmp_ne 52 dX5_next_36 rfl ?_ ?_
          · refine WP_aload_n dX5_next_52 rfl ?_
            refine WP_aload_n dX5_next_53 rfl ?_
            refine WQ_getim dX5_next_54 fX5_19 rfl (lyx_is hy 1 5 rfl) ew188 ?_
            refine WQ_puti dX5_next_57 fX5_22 rfl rfl (lyx_is hy 1 5 rfl) (fun I247 eI247 => ?_)
            have hI247 : XI g n L I247 := by rw [eI247]; exact (xi_f hy hI186 (c := 1) (0) (0) (900) (by decide) (Or.inr (by decide)) (by decide) (by omega) (by omega))
            have e248 : I247 (ad g 1) 6 = w188 := by rw [eI247, pp_ne _ _ (Or.inr (by decide))]; exact ew188
            have e249 : I247 (ad g 1) 1 = L := by rw [eI247, pp_ne _ _ (Or.inr (by decide))]; exact e190
            have e250 : I247 (ad g 1) 3 = w188 := by rw [eI247, pp_self]
            clear eI247
            refine WP_aload_n dX5_next_60 rfl ?_
            refine WQ_getim dX5_next_61 fX5_19 rfl (lyx_is hy 1 5 rfl) e248 ?_
            refine WP_aload_n dX5_next_64 rfl ?_
            refine WQ_getim dX5_next_65 fX5_15 rfl (lyx_is hy 1 5 rfl) e249 ?_
            refine WQ_icmp_lt 79 dX5_next_68 rfl (fun c250 => ?_) (fun c250 => ?_)
            · refine WP_aload_n dX5_next_79 rfl ?_
              refine WP_getr dX5_next_80 fX5_9 rfl (lyx_is hy 1 5 rfl) (rfx hr 1 0 2 (by decide)) ?_
              refine WP_aload_n dX5_next_83 rfl ?_
              refine WQ_getim dX5_next_84 fX5_19 rfl (lyx_is hy 1 5 rfl) e248 ?_
              refine WQ_baldu dX5_next_87 (lyx_is hy 2 12 rfl) (lyx_n hy 2 900 rfl) (by omega) (by omega) (fun v252 => ?_)
              refine WP_callS1 dX5_next_88 ⟨⟨⟨by decide, by decide⟩, zX5_isLetter⟩, lX5_28, tX5_isLetter⟩ (sx_isLetter hy hr hI247 v252 ) (Nat.le_of_ble_eq_true rfl) ?_
              intro r Ia Ja Ra hq
              obtain ⟨⟨ea, eb, ec⟩, v253, rfl, av253, bv253⟩ := hq
              show WP _ _ _ _ (.int _ :: _) _ _ _ _
              rw [ea, eb, ec]
              clear ea eb ec Ia Ja Ra
              refine WQ_if_eq 101 dX5_next_91 rfl (fun c253 => ?_) (fun c253 => ?_)
              · refine WP_aload_n dX5_next_101 rfl ?_
                refine WP_getr dX5_next_102 fX5_9 rfl (lyx_is hy 1 5 rfl) (rfx hr 1 0 2 (by decide)) ?_
                refine WP_aload_n dX5_next_105 rfl ?_
                refine WQ_getim dX5_next_106 fX5_19 rfl (lyx_is hy 1 5 rfl) e248 ?_
                refine WQ_baldu dX5_next_109 (lyx_is hy 2 12 rfl) (lyx_n hy 2 900 rfl) (by omega) (by omega) (fun v255 => ?_)
                refine WP_callS1 dX5_next_110 ⟨⟨⟨by decide, by decide⟩, zX5_isDigit⟩, lX5_35, tX5_isDigit⟩ (sx_isDigit hy hr hI247 v255 ) (Nat.le_of_ble_eq_true rfl) ?_
                intro r Ia Ja Ra hq
                obtain ⟨⟨ea, eb, ec⟩, v256, rfl, av256, bv256⟩ := hq
                show WP _ _ _ _ (.int _ :: _) _ _ _ _
                rw [ea, eb, ec]
                clear ea eb ec Ia Ja Ra
                refine WQ_if_eq 123 dX5_next_113 rfl (fun c256 => ?_) (fun c256 => ?_)
                · refine WP_aload_n dX5_next_123 rfl ?_
                  refine WP_aload_n dX5_next_124 rfl ?_
                  refine WP_getr dX5_next_125 fX5_9 rfl (lyx_is hy 1 5 rfl) (rfx hr 1 0 2 (by decide)) ?_
                  refine WP_aload_n dX5_next_128 rfl ?_
                  refine WQ_getim dX5_next_129 fX5_19 rfl (lyx_is hy 1 5 rfl) e248 ?_
                  refine WQ_baldu dX5_next_132 (lyx_is hy 2 12 rfl) (lyx_n hy 2 900 rfl) (by omega) (by omega) (fun v258 => ?_)
                  refine WQ_bipush (59) (59) dX5_next_133 rfl rfl (fun v259 hv259 => ?_)
                  have jn143_262 : ∀ (v262 : Int32), 3 ≤ v262.toInt → v262.toInt ≤ 4 → WP g mX5_next 143 [(0, .ref (ad g 1))] [.int v262, .ref (ad g 1)] I247 J187 R (fun r I' J' R' => (XI g n L I' ∧ R' = R) ∧ r = none) := by
                    intro v262 av262 bv262
                    refine WQ_puti dX5_next_143 fX5_25 rfl rfl (lyx_is hy 1 5 rfl) (fun I264 eI264 => ?_)
                    have hI264 : XI g n L I264 := by rw [eI264]; exact (xi_f hy hI247 (c := 1) (0) (0) (4) (by decide) (Or.inr (by decide)) (by decide) (by omega) (by omega))
                    have e265 : I264 (ad g 1) 6 = w188 := by rw [eI264, pp_ne _ _ (Or.inr (by decide))]; exact e248
                    have e266 : I264 (ad g 1) 1 = L := by rw [eI264, pp_ne _ _ (Or.inr (by decide))]; exact e249
                    have e267 : I264 (ad g 1) 3 = w188 := by rw [eI264, pp_ne _ _ (Or.inr (by decide))]; exact e250
                    have e268 : I264 (ad g 1) 2 = v262 := by rw [eI264, pp_self]
                    clear eI264
                    refine WP_aload_n dX5_next_146 rfl ?_
                    refine WP_dup dX5_next_147 rfl ?_
                    refine WQ_getim dX5_next_148 fX5_19 rfl (lyx_is hy 1 5 rfl) e265 ?_
                    refine WQ_iconst (1) (1) dX5_next_151 rfl rfl (fun v269 hv269 => ?_)
                    refine WQ_iadd dX5_next_152 (by omega) (by omega) (fun v270 hv270 => ?_)
                    refine WQ_puti dX5_next_153 fX5_19 rfl rfl (lyx_is hy 1 5 rfl) (fun I271 eI271 => ?_)
                    have hI271 : XI g n L I271 := by rw [eI271]; exact (xi_f hy hI264 (c := 1) (0) (0) (900) (by decide) (Or.inr (by decide)) (by decide) (by omega) (by omega))
                    have e272 : I271 (ad g 1) 1 = L := by rw [eI271, pp_ne _ _ (Or.inr (by decide))]; exact e266
                    have e273 : I271 (ad g 1) 3 = w188 := by rw [eI271, pp_ne _ _ (Or.inr (by decide))]; exact e267
                    have e274 : I271 (ad g 1) 2 = v262 := by rw [eI271, pp_ne _ _ (Or.inr (by decide))]; exact e268
                    have e275 : I271 (ad g 1) 6 = v270 := by rw [eI271, pp_self]
                    clear eI271
                    exact WP_vret dX5_next_156 rfl ⟨⟨hI271, rfl⟩, rfl⟩
                  refine WX_icmp_ne 142 dX5_next_135 rfl ?_ ?_
                  · refine WQ_iconst (4) (4) dX5_next_142 rfl rfl (fun v276 hv276 => ?_)
                    exact WP_sub (fc rfl fn) (jn143_262 v276 (by omega) (by omega))
                  · refine WQ_iconst (3) (3) dX5_next_138 rfl rfl (fun v277 hv277 => ?_)
                    refine WP_goto 143 dX5_next_139 rfl ?_
                    exact WP_sub (fc rfl fn) (jn143_262 v277 (by omega) (by omega))
                · refine WP_aload_n dX5_next_116 rfl ?_
                  refine WP_callV0 (k := 5) dX5_next_117 ⟨⟨⟨by decide, by decide⟩, zX5_readNumber⟩, lX5_38, by decide, rfl, vX5_readNumber.1, vX5_readNumber.2⟩ (lyx_is hy 1 5 rfl) (sx_readNumber hy hr hI247  ) (Nat.le_of_ble_eq_true rfl) ?_
                  intro r I278 J279 Ra hq
                  obtain ⟨⟨hI278, ec⟩, rfl⟩ := hq
                  rw [ec]
                  clear ec Ra
                  have e280 : I278 (ad g 1) 1 = L := hI278.2
                  have b281 := BT_get hI278.1 1 1 2 (0) (0) (900) (by decide) 1 (by decide) (by decide)
                  rw [e280] at b281
                  refine WP_goto 156 dX5_next_120 rfl ?_
                  exact WP_vret dX5_next_156 rfl ⟨⟨hI278, rfl⟩, rfl⟩
              · refine WP_aload_n dX5_next_94 rfl ?_
                refine WP_callV0 (k := 5) dX5_next_95 ⟨⟨⟨by decide, by decide⟩, zX5_readWord⟩, lX5_32, by decide, rfl, vX5_readWord.1, vX5_readWord.2⟩ (lyx_is hy 1 5 rfl) (sx_readWord hy hr hI247  ) (Nat.le_of_ble_eq_true rfl) ?_
                intro r I282 J283 Ra hq
                obtain ⟨⟨hI282, ec⟩, rfl⟩ := hq
                rw [ec]
                clear ec Ra
                have e284 : I282 (ad g 1) 1 = L := hI282.2
                have b285 := BT_get hI282.1 1 1 2 (0) (0) (900) (by decide) 1 (by decide) (by decide)
                rw [e284] at b285
                refine WP_goto 156 dX5_next_98 rfl ?_
                exact WP_vret dX5_next_156 rfl ⟨⟨hI282, rfl⟩, rfl⟩
            · refine WP_aload_n dX5_next_71 rfl ?_
              refine WQ_iconst (0) (0) dX5_next_72 rfl rfl (fun v286 hv286 => ?_)
              refine WQ_puti dX5_next_73 fX5_25 rfl rfl (lyx_is hy 1 5 rfl) (fun I287 eI287 => ?_)
              have hI287 : XI g n L I287 := by rw [eI287]; exact (xi_f hy hI247 (c := 1) (0) (0) (4) (by decide) (Or.inr (by decide)) (by decide) (by omega) (by omega))
              have e288 : I287 (ad g 1) 6 = w188 := by rw [eI287, pp_ne _ _ (Or.inr (by decide))]; exact e248
              have e289 : I287 (ad g 1) 1 = L := by rw [eI287, pp_ne _ _ (Or.inr (by decide))]; exact e249
              have e290 : I287 (ad g 1) 3 = w188 := by rw [eI287, pp_ne _ _ (Or.inr (by decide))]; exact e250
              have e291 : I287 (ad g 1) 2 = v286 := by rw [eI287, pp_self]
              clear eI287
              refine WP_goto 156 dX5_next_76 rfl ?_
              exact WP_vret dX5_next_156 rfl ⟨⟨hI287, rfl⟩, rfl⟩
          · refine WP_aload_n dX5_next_39 rfl ?_
            refine WP_dup dX5_next_40 rfl ?_
            refine WQ_getim dX5_next_41 fX5_19 rfl (lyx_is hy 1 5 rfl) ew188 ?_
            refine WQ_iconst (1) (1) dX5_next_44 rfl rfl (fun v292 hv292 => ?_)
            refine WQ_iadd dX5_next_45 (by omega) (by omega) (fun v293 hv293 => ?_)
            refine WQ_puti dX5_next_46 fX5_19 rfl rfl (lyx_is hy 1 5 rfl) (fun I294 eI294 => ?_)
            have hI294 : XI g n L I294 := by rw [eI294]; exact (xi_f hy hI186 (c := 1) (0) (0) (900) (by decide) (Or.inr (by decide)) (by decide) (by omega) (by omega))
            have e295 : I294 (ad g 1) 1 = L := by rw [eI294, pp_ne _ _ (Or.inr (by decide))]; exact e190
            have e296 : I294 (ad g 1) 6 = v293 := by rw [eI294, pp_self]
            clear eI294
            refine WP_goto 0 dX5_next_49 rfl ?_
            exact WP_sub (fc rfl fn) (ihlp0_188 I294 J187 hI294 v293 e296 (by omega))
  obtain ⟨w297, ew297⟩ : ∃ w : Int32, I (ad g 1) 6 = w := ⟨_, rfl⟩
  have bw297 := BT_get hI.1 1 6 7 (0) (0) (900) (by decide) 6 (by decide) (by decide)
  rw [ew297] at bw297
  exact WP_sub (fc rfl fn) (lp0_188 _ I J hI w297 ew297 (Nat.lt_succ_self _))
