set_option maxHeartbeats 4000000 in
set_option maxRecDepth 100000 in
theorem sx_isLetter {g : GG} {n : Int} {L : Int32} (hy : LyX g)  {I : pI} {J : pJ} {R : pR} (hr : RfX g R) (hI : XI g n L I) (b : Int32)  : SP g mX5_isLetter [.int b] I J R (fun r I' J' R' => (I' = I ∧ J' = J ∧ R' = R) ∧ ∃ v : Int32, r = some (.int v) ∧ 0 ≤ v.toInt ∧ v.toInt ≤ 1) := by
  refine SP_of ⟨by decide, rfl⟩ (Nat.le_of_ble_eq_true rfl) ?_
  have e1 : I (ad g 1) 1 = L := hI.2
  have b2 := BT_get hI.1 1 1 2 (0) (0) (900) (by decide) 1 (by decide) (by decide)
  rw [e1] at b2
  refine WP_iload_n dX5_isLetter_0 rfl ?_
  refine WQ_bipush (97) (97) dX5_isLetter_1 rfl rfl (fun v3 hv3 => ?_)
  have jn17_9 : ∀ (v9 : Int32), 0 ≤ v9.toInt → v9.toInt ≤ 1 → WP g mX5_isLetter 17 [(0, .int b)] [.int v9] I J R (fun r I' J' R' => (I' = I ∧ J' = J ∧ R' = R) ∧ ∃ v : Int32, r = some (.int v) ∧ 0 ≤ v.toInt ∧ v.toInt ≤ 1) := by
    intro v9 av9 bv9
    exact WP_zret dX5_isLetter_17 rfl (nar_z (by omega)) ⟨⟨rfl, rfl, rfl⟩, _, rfl, by omega, by omega⟩
  refine WQ_icmp_lt 16 dX5_isLetter_3 rfl (fun c10 => ?_) (fun c10 => ?_)
  · refine WQ_iconst (0) (0) dX5_isLetter_16 rfl rfl (fun v12 hv12 => ?_)
    exact WP_sub (fc rfl fn) (jn17_9 v12 (by omega) (by omega))
  · refine WP_iload_n dX5_isLetter_6 rfl ?_
    refine WQ_bipush (122) (122) dX5_isLetter_7 rfl rfl (fun v13 hv13 => ?_)
    refine WQ_icmp_gt 16 dX5_isLetter_9 rfl (fun c13 => ?_) (fun c13 => ?_)
    · refine WQ_iconst (0) (0) dX5_isLetter_16 rfl rfl (fun v15 hv15 => ?_)
      exact WP_sub (fc rfl fn) (jn17_9 v15 (by omega) (by omega))
    · refine WQ_iconst (1) (1) dX5_isLetter_12 rfl rfl (fun v16 hv16 => ?_)
      refine WP_goto 17 dX5_isLetter_13 rfl ?_
      exact WP_sub (fc rfl fn) (jn17_9 v16 (by omega) (by omega))
set_option maxHeartbeats 4000000 in
set_option maxRecDepth 100000 in
theorem sx_isDigit {g : GG} {n : Int} {L : Int32} (hy : LyX g)  {I : pI} {J : pJ} {R : pR} (hr : RfX g R) (hI : XI g n L I) (b : Int32)  : SP g mX5_isDigit [.int b] I J R (fun r I' J' R' => (I' = I ∧ J' = J ∧ R' = R) ∧ ∃ v : Int32, r = some (.int v) ∧ 0 ≤ v.toInt ∧ v.toInt ≤ 1) := by
  refine SP_of ⟨by decide, rfl⟩ (Nat.le_of_ble_eq_true rfl) ?_
  have e17 : I (ad g 1) 1 = L := hI.2
  have b18 := BT_get hI.1 1 1 2 (0) (0) (900) (by decide) 1 (by decide) (by decide)
  rw [e17] at b18
  refine WP_iload_n dX5_isDigit_0 rfl ?_
  refine WQ_bipush (48) (48) dX5_isDigit_1 rfl rfl (fun v19 hv19 => ?_)
  have jn17_25 : ∀ (v25 : Int32), 0 ≤ v25.toInt → v25.toInt ≤ 1 → WP g mX5_isDigit 17 [(0, .int b)] [.int v25] I J R (fun r I' J' R' => (I' = I ∧ J' = J ∧ R' = R) ∧ ∃ v : Int32, r = some (.int v) ∧ 0 ≤ v.toInt ∧ v.toInt ≤ 1) := by
    intro v25 av25 bv25
    exact WP_zret dX5_isDigit_17 rfl (nar_z (by omega)) ⟨⟨rfl, rfl, rfl⟩, _, rfl, by omega, by omega⟩
  refine WQ_icmp_lt 16 dX5_isDigit_3 rfl (fun c26 => ?_) (fun c26 => ?_)
  · refine WQ_iconst (0) (0) dX5_isDigit_16 rfl rfl (fun v28 hv28 => ?_)
    exact WP_sub (fc rfl fn) (jn17_25 v28 (by omega) (by omega))
  · refine WP_iload_n dX5_isDigit_6 rfl ?_
    refine WQ_bipush (57) (57) dX5_isDigit_7 rfl rfl (fun v29 hv29 => ?_)
    refine WQ_icmp_gt 16 dX5_isDigit_9 rfl (fun c29 => ?_) (fun c29 => ?_)
    · refine WQ_iconst (0) (0) dX5_isDigit_16 rfl rfl (fun v31 hv31 => ?_)
      exact WP_sub (fc rfl fn) (jn17_25 v31 (by omega) (by omega))
    · refine WQ_iconst (1) (1) dX5_isDigit_12 rfl rfl (fun v32 hv32 => ?_)
      refine WP_goto 17 dX5_isDigit_13 rfl ?_
      exact WP_sub (fc rfl fn) (jn17_25 v32 (by omega) (by omega))
set_option maxHeartbeats 4000000 in
set_option maxRecDepth 100000 in
theorem sx_put {g : GG} {n : Int} {L : Int32} (hy : LyX g)  {I : pI} {J : pJ} {R : pR} (hr : RfX g R) (hI : XI g n L I) (f : Int32)  (h4 : L.toInt ≤ 896) : SP g mX5_put [.ref (ad g 1), .int f] I J R (fun r I' J' R' => ((∃ L2 : Int32, XI g n L2 I' ∧ L2.toInt = L.toInt + 4) ∧ R' = R ∧ fz 74 g [1, 2] I I' ∧ fz 74 g [] J J') ∧ r = none) := by
  refine SP_of ⟨by decide, rfl⟩ (Nat.le_of_ble_eq_true rfl) ?_
  have e33 : I (ad g 1) 1 = L := hI.2
  have b34 := BT_get hI.1 1 1 2 (0) (0) (900) (by decide) 1 (by decide) (by decide)
  rw [e33] at b34
  have fr0 : fz 74 g [1, 2] I I := fz_rf
  have frj0 : fz 74 g [] J J := fz_rf
  refine WQ_bipush (24) (24) dX5_put_0 rfl rfl (fun v35 hv35 => ?_)
  refine WP_istore_n (ls' := [(0, _), (1, _), (2, _)]) dX5_put_2 (by decide) rfl ?_
  have lp3_39 : ∀ (mz : Nat) (i36 : Int32) (L39 : Int32) (I37 : pI) (J38 : pJ), XI g n L39 I37 → fz 74 g [1, 2] I I37 → fz 74 g [] J J38 → -8 ≤ i36.toInt → i36.toInt ≤ 24 → 8 * (L39.toInt - L.toInt) = 24 - i36.toInt → (i36.toInt + 8).toNat < mz → WP g mX5_put 3 [(0, .ref (ad g 1)), (1, .int f), (2, .int i36)] [] I37 J38 R (fun r I' J' R' => ((∃ L2 : Int32, XI g n L2 I' ∧ L2.toInt = L.toInt + 4) ∧ R' = R ∧ fz 74 g [1, 2] I I' ∧ fz 74 g [] J J') ∧ r = none) := by
    intro mz
    induction mz with
    | zero =>
      intro i36 L39 I37 J38 hI37 fiI37 fjJ38 ai36 bi36 j0_I37 hmlp3_39
      exact absurd hmlp3_39 (Nat.not_lt_zero _)
    | succ mz ihlp3_39 =>
      intro i36 L39 I37 J38 hI37 fiI37 fjJ38 ai36 bi36 j0_I37 hmlp3_39
      have e41 : I37 (ad g 1) 1 = L39 := hI37.2
      have b42 := BT_get hI37.1 1 1 2 (0) (0) (900) (by decide) 1 (by decide) (by decide)
      rw [e41] at b42
      refine WP_iload_n dX5_put_3 rfl ?_
      refine WQ_if_lt 46 dX5_put_4 rfl (fun c42 => ?_) (fun c42 => ?_)
      · exact WP_vret dX5_put_46 rfl ⟨⟨⟨_, hI37, by omega⟩, rfl, fiI37, fjJ38⟩, rfl⟩
      · refine WP_aload_n dX5_put_7 rfl ?_
        refine WQ_getim dX5_put_8 fX5_15 rfl (lyx_is hy 1 5 rfl) e41 ?_
        refine WQ_sipush (900) (900) dX5_put_11 rfl rfl (fun v44 hv44 => ?_)
        refine WQ_icmp_ge 40 dX5_put_14 rfl (fun c44 => ?_) (fun c44 => ?_)
        · refine WP_iinc (ls' := [(0, _), (1, _), (2, _)]) dX5_put_40 rfl (by decide) rfl ?_
          have hv46 : (i36 + Int32.ofInt (-8)).toInt = i36.toInt + (-8) := ia_n rfl (by omega) (by omega)
          generalize i36 + Int32.ofInt (-8) = v46 at hv46 ⊢
          refine WP_goto 3 dX5_put_43 rfl ?_
          exact WP_sub (fc rfl (fc rfl (fc rfl fn))) (ihlp3_39 v46 L39 I37 J38 hI37 fiI37 fjJ38 (by omega) (by omega) (by omega) (by omega))
        · refine WP_aload_n dX5_put_17 rfl ?_
          refine WP_getr dX5_put_18 fX5_9 rfl (lyx_is hy 1 5 rfl) (rfx hr 1 0 2 (by decide)) ?_
          refine WP_aload_n dX5_put_21 rfl ?_
          refine WQ_getim dX5_put_22 fX5_15 rfl (lyx_is hy 1 5 rfl) e41 ?_
          refine WP_iload_n dX5_put_25 rfl ?_
          refine WP_iload_n dX5_put_26 rfl ?_
          refine WQ_ishru dX5_put_27 (fun v47 => ?_)
          refine WQ_i2b dX5_put_28 (fun v48 => ?_)
          refine WQ_bast dX5_put_29 (lyx_is hy 2 12 rfl) (lyx_n hy 2 900 rfl) (by omega) (by omega) (fun I49 v50 eI49 => ?_)
          have hI49 : XI g n L39 I49 := by rw [eI49]; exact (xi_r0 hy hI37 (c := 2) (by decide) (Or.inl (by decide)) (by decide))
          have e51 : I49 (ad g 1) 1 = L39 := by rw [eI49, pp_ne _ _ (Or.inl (lyx_ne hy (by decide) (by decide) (by decide)))]; exact e41
          have fr52 : fz 74 g [1, 2] I I49 := by rw [eI49]; exact fzx_pp hy fiI37 (by decide) (by decide)
          clear eI49
          refine WP_aload_n dX5_put_30 rfl ?_
          refine WP_dup dX5_put_31 rfl ?_
          refine WQ_getim dX5_put_32 fX5_15 rfl (lyx_is hy 1 5 rfl) e51 ?_
          refine WQ_iconst (1) (1) dX5_put_35 rfl rfl (fun v53 hv53 => ?_)
          refine WQ_iadd dX5_put_36 (by omega) (by omega) (fun v54 hv54 => ?_)
          refine WQ_puti dX5_put_37 fX5_15 rfl rfl (lyx_is hy 1 5 rfl) (fun I55 eI55 => ?_)
          have hI55 : XI g n v54 I55 := by rw [eI55]; exact (xi_len hy hI49 (by omega) (by omega))
          have e56 : I55 (ad g 1) 1 = v54 := by rw [eI55, pp_self]
          have fr57 : fz 74 g [1, 2] I I55 := by rw [eI55]; exact fzx_pp hy fr52 (by decide) (by decide)
          clear eI55
          refine WP_iinc (ls' := [(0, _), (1, _), (2, _)]) dX5_put_40 rfl (by decide) rfl ?_
          have hv58 : (i36 + Int32.ofInt (-8)).toInt = i36.toInt + (-8) := ia_n rfl (by omega) (by omega)
          generalize i36 + Int32.ofInt (-8) = v58 at hv58 ⊢
          refine WP_goto 3 dX5_put_43 rfl ?_
          exact WP_sub (fc rfl (fc rfl (fc rfl fn))) (ihlp3_39 v58 v54 I55 J38 hI55 fr57 fjJ38 (by omega) (by omega) (by omega) (by omega))
  exact WP_sub (fc rfl (fc rfl (fc rfl fn))) (lp3_39 _ v35 L I J hI fr0 frj0 (by omega) (by omega) (by omega) (Nat.lt_succ_self _))
set_option maxHeartbeats 4000000 in
set_option maxRecDepth 100000 in
theorem sx_rewind {g : GG} {n : Int} {L : Int32} (hy : LyX g)  {I : pI} {J : pJ} {R : pR} (hr : RfX g R) (hI : XI g n L I)   : SP g mX5_rewind [.ref (ad g 1)] I J R (fun r I' J' R' => (XI g n L I' ∧ R' = R ∧ fz 74 g [1] I I' ∧ fz 74 g [] J J') ∧ r = none) := by
  refine SP_of ⟨by decide, rfl⟩ (Nat.le_of_ble_eq_true rfl) ?_
  have e59 : I (ad g 1) 1 = L := hI.2
  have b60 := BT_get hI.1 1 1 2 (0) (0) (900) (by decide) 1 (by decide) (by decide)
  rw [e59] at b60
  have fr0 : fz 74 g [1] I I := fz_rf
  have frj0 : fz 74 g [] J J := fz_rf
  refine WP_aload_n dX5_rewind_0 rfl ?_
  refine WQ_iconst (0) (0) dX5_rewind_1 rfl rfl (fun v61 hv61 => ?_)
  refine WQ_puti dX5_rewind_2 fX5_19 rfl rfl (lyx_is hy 1 5 rfl) (fun I62 eI62 => ?_)
  have hI62 : XI g n L I62 := by rw [eI62]; exact (xi_f hy hI (c := 1) (0) (0) (900) (by decide) (Or.inr (by decide)) (by decide) (by omega) (by omega))
  have e63 : I62 (ad g 1) 1 = L := by rw [eI62, pp_ne _ _ (Or.inr (by decide))]; exact e59
  have e64 : I62 (ad g 1) 6 = v61 := by rw [eI62, pp_self]
  have fr65 : fz 74 g [1] I I62 := by rw [eI62]; exact fzx_pp hy fr0 (by decide) (by decide)
  clear eI62
  exact WP_vret dX5_rewind_5 rfl ⟨⟨hI62, rfl, fr65, frj0⟩, rfl⟩
set_option maxHeartbeats 4000000 in
set_option maxRecDepth 100000 in
theorem sx_readWord {g : GG} {n : Int} {L : Int32} (hy : LyX g)  {I : pI} {J : pJ} {R : pR} (hr : RfX g R) (hI : XI g n L I)   : SP g mX5_readWord [.ref (ad g 1)] I J R (fun r I' J' R' => (XI g n L I' ∧ R' = R ∧ fz 74 g [1] I I' ∧ fz 74 g [1] J J') ∧ r = none) := by
  refine SP_of ⟨by decide, rfl⟩ (Nat.le_of_ble_eq_true rfl) ?_
  have e66 : I (ad g 1) 1 = L := hI.2
  have b67 := BT_get hI.1 1 1 2 (0) (0) (900) (by decide) 1 (by decide) (by decide)
  rw [e66] at b67
  have fr0 : fz 74 g [1] I I := fz_rf
  have frj0 : fz 74 g [1] J J := fz_rf
  refine WP_aload_n dX5_readWord_0 rfl ?_
  refine WP_lconst (0) dX5_readWord_1 rfl ?_
  obtain ⟨l68, hl68, el68⟩ : ∃ v : Int64, v.toInt = 0 ∧ (0 : Int64) = v := ⟨_, rfl, rfl⟩
  rw [el68]; clear el68
  refine WQ_putl dX5_readWord_2 fX5_41 rfl rfl (lyx_is hy 1 5 rfl) (fun J69 eJ69 => ?_)
  have fr70 : fz 74 g [1] J J69 := by rw [eJ69]; exact fzx_pp hy frj0 (by decide) (by decide)
  clear eJ69
  have lp5_73 : ∀ (mz : Nat)  (I71 : pI) (J72 : pJ), XI g n L I71 → fz 74 g [1] I I71 → fz 74 g [1] J J72 → ∀ (w73 : Int32), I71 (ad g 1) 6 = w73 → (901 - w73.toInt).toNat < mz → WP g mX5_readWord 5 [(0, .ref (ad g 1))] [] I71 J72 R (fun r I' J' R' => (XI g n L I' ∧ R' = R ∧ fz 74 g [1] I I' ∧ fz 74 g [1] J J') ∧ r = none) := by
    intro mz
    induction mz with
    | zero =>
      intro  I71 J72 hI71 fiI71 fjJ72 w73 ew73  hmlp5_73
      exact absurd hmlp5_73 (Nat.not_lt_zero _)
    | succ mz ihlp5_73 =>
      intro  I71 J72 hI71 fiI71 fjJ72 w73 ew73  hmlp5_73
      have bw73 := BT_get hI71.1 1 6 7 (0) (0) (900) (by decide) 6 (by decide) (by decide)
      rw [ew73] at bw73
      have e75 : I71 (ad g 1) 1 = L := hI71.2
      have b76 := BT_get hI71.1 1 1 2 (0) (0) (900) (by decide) 1 (by decide) (by decide)
      rw [e75] at b76
      refine WP_aload_n dX5_readWord_5 rfl ?_
      refine WQ_getim dX5_readWord_6 fX5_19 rfl (lyx_is hy 1 5 rfl) ew73 ?_
      refine WP_aload_n dX5_readWord_9 rfl ?_
      refine WQ_getim dX5_readWord_10 fX5_15 rfl (lyx_is hy 1 5 rfl) e75 ?_
      refine WQ_icmp_ge 66 dX5_readWord_13 rfl (fun c76 => ?_) (fun c76 => ?_)
      · refine WP_aload_n dX5_readWord_66 rfl ?_
        refine WP_aload_n dX5_readWord_67 rfl ?_
        refine WQ_getim dX5_readWord_68 fX5_19 rfl (lyx_is hy 1 5 rfl) ew73 ?_
        refine WP_aload_n dX5_readWord_71 rfl ?_
        refine WQ_geti dX5_readWord_72 fX5_22 rfl (lyx_is hy 1 5 rfl) (BT_get hI71.1 1 3 4 (0) (0) (900) (by decide) 3 (by decide) (by decide)) (fun v78 ev78 av78 bv78 => ?_)
        refine WQ_isub dX5_readWord_75 (by omega) (by omega) (fun v79 hv79 => ?_)
        refine WQ_bipush (8) (8) dX5_readWord_76 rfl rfl (fun v80 hv80 => ?_)
        have jn86_83 : ∀ (v83 : Int32), 1 ≤ v83.toInt → v83.toInt ≤ 4 → WP g mX5_readWord 86 [(0, .ref (ad g 1))] [.int v83, .ref (ad g 1)] I71 J72 R (fun r I' J' R' => (XI g n L I' ∧ R' = R ∧ fz 74 g [1] I I' ∧ fz 74 g [1] J J') ∧ r = none) := by
          intro v83 av83 bv83
          refine WQ_puti dX5_readWord_86 fX5_25 rfl rfl (lyx_is hy 1 5 rfl) (fun I85 eI85 => ?_)
          have hI85 : XI g n L I85 := by rw [eI85]; exact (xi_f hy hI71 (c := 1) (0) (0) (4) (by decide) (Or.inr (by decide)) (by decide) (by omega) (by omega))
          have e86 : I85 (ad g 1) 6 = w73 := by rw [eI85, pp_ne _ _ (Or.inr (by decide))]; exact ew73
          have e87 : I85 (ad g 1) 1 = L := by rw [eI85, pp_ne _ _ (Or.inr (by decide))]; exact e75
          have e88 : I85 (ad g 1) 3 = v78 := by rw [eI85, pp_ne _ _ (Or.inr (by decide))]; exact ev78
          have e89 : I85 (ad g 1) 2 = v83 := by rw [eI85, pp_self]
          have fr90 : fz 74 g [1] I I85 := by rw [eI85]; exact fzx_pp hy fiI71 (by decide) (by decide)
          clear eI85
          exact WP_vret dX5_readWord_89 rfl ⟨⟨hI85, rfl, fr90, fjJ72⟩, rfl⟩
        refine WQ_icmp_le 85 dX5_readWord_78 rfl (fun c90 => ?_) (fun c90 => ?_)
        · refine WQ_iconst (1) (1) dX5_readWord_85 rfl rfl (fun v92 hv92 => ?_)
          exact WP_sub (fc rfl fn) (jn86_83 v92 (by omega) (by omega))
        · refine WQ_iconst (4) (4) dX5_readWord_81 rfl rfl (fun v93 hv93 => ?_)
          refine WP_goto 86 dX5_readWord_82 rfl ?_
          exact WP_sub (fc rfl fn) (jn86_83 v93 (by omega) (by omega))
      · refine WP_aload_n dX5_readWord_16 rfl ?_
        refine WP_getr dX5_readWord_17 fX5_9 rfl (lyx_is hy 1 5 rfl) (rfx hr 1 0 2 (by decide)) ?_
        refine WP_aload_n dX5_readWord_20 rfl ?_
        refine WQ_getim dX5_readWord_21 fX5_19 rfl (lyx_is hy 1 5 rfl) ew73 ?_
        refine WQ_baldu dX5_readWord_24 (lyx_is hy 2 12 rfl) (lyx_n hy 2 900 rfl) (by omega) (by omega) (fun v94 => ?_)
        refine WP_callS1 dX5_readWord_25 ⟨⟨⟨by decide, by decide⟩, zX5_isLetter⟩, lX5_28, tX5_isLetter⟩ (sx_isLetter hy hr hI71 v94 ) (Nat.le_of_ble_eq_true rfl) ?_
        intro r Ia Ja Ra hq
        obtain ⟨⟨ea, eb, ec⟩, v95, rfl, av95, bv95⟩ := hq
        show WP _ _ _ _ (.int _ :: _) _ _ _ _
        rw [ea, eb, ec]
        clear ea eb ec Ia Ja Ra
        refine WQ_if_eq 66 dX5_readWord_28 rfl (fun c95 => ?_) (fun c95 => ?_)
        · refine WP_aload_n dX5_readWord_66 rfl ?_
          refine WP_aload_n dX5_readWord_67 rfl ?_
          refine WQ_getim dX5_readWord_68 fX5_19 rfl (lyx_is hy 1 5 rfl) ew73 ?_
          refine WP_aload_n dX5_readWord_71 rfl ?_
          refine WQ_geti dX5_readWord_72 fX5_22 rfl (lyx_is hy 1 5 rfl) (BT_get hI71.1 1 3 4 (0) (0) (900) (by decide) 3 (by decide) (by decide)) (fun v97 ev97 av97 bv97 => ?_)
          refine WQ_isub dX5_readWord_75 (by omega) (by omega) (fun v98 hv98 => ?_)
          refine WQ_bipush (8) (8) dX5_readWord_76 rfl rfl (fun v99 hv99 => ?_)
          have jn86_102 : ∀ (v102 : Int32), 1 ≤ v102.toInt → v102.toInt ≤ 4 → WP g mX5_readWord 86 [(0, .ref (ad g 1))] [.int v102, .ref (ad g 1)] I71 J72 R (fun r I' J' R' => (XI g n L I' ∧ R' = R ∧ fz 74 g [1] I I' ∧ fz 74 g [1] J J') ∧ r = none) := by
            intro v102 av102 bv102
            refine WQ_puti dX5_readWord_86 fX5_25 rfl rfl (lyx_is hy 1 5 rfl) (fun I104 eI104 => ?_)
            have hI104 : XI g n L I104 := by rw [eI104]; exact (xi_f hy hI71 (c := 1) (0) (0) (4) (by decide) (Or.inr (by decide)) (by decide) (by omega) (by omega))
            have e105 : I104 (ad g 1) 6 = w73 := by rw [eI104, pp_ne _ _ (Or.inr (by decide))]; exact ew73
            have e106 : I104 (ad g 1) 1 = L := by rw [eI104, pp_ne _ _ (Or.inr (by decide))]; exact e75
            have e107 : I104 (ad g 1) 3 = v97 := by rw [eI104, pp_ne _ _ (Or.inr (by decide))]; exact ev97
            have e108 : I104 (ad g 1) 2 = v102 := by rw [eI104, pp_self]
            have fr109 : fz 74 g [1] I I104 := by rw [eI104]; exact fzx_pp hy fiI71 (by decide) (by decide)
            clear eI104
            exact WP_vret dX5_readWord_89 rfl ⟨⟨hI104, rfl, fr109, fjJ72⟩, rfl⟩
          refine WQ_icmp_le 85 dX5_readWord_78 rfl (fun c109 => ?_) (fun c109 => ?_)
          · refine WQ_iconst (1) (1) dX5_readWord_85 rfl rfl (fun v111 hv111 => ?_)
            exact WP_sub (fc rfl fn) (jn86_102 v111 (by omega) (by omega))
          · refine WQ_iconst (4) (4) dX5_readWord_81 rfl rfl (fun v112 hv112 => ?_)
            refine WP_goto 86 dX5_readWord_82 rfl ?_
            exact WP_sub (fc rfl fn) (jn86_102 v112 (by omega) (by omega))
        · refine WP_aload_n dX5_readWord_31 rfl ?_
          refine WP_aload_n dX5_readWord_32 rfl ?_
          refine WQ_getl dX5_readWord_33 fX5_41 rfl (lyx_is hy 1 5 rfl) (fun l113 el113 => ?_)
          refine WQ_bipush (8) (8) dX5_readWord_36 rfl rfl (fun v114 hv114 => ?_)
          refine WQ_lshl dX5_readWord_38 (fun l115 => ?_)
          refine WP_aload_n dX5_readWord_39 rfl ?_
          refine WP_getr dX5_readWord_40 fX5_9 rfl (lyx_is hy 1 5 rfl) (rfx hr 1 0 2 (by decide)) ?_
          refine WP_aload_n dX5_readWord_43 rfl ?_
          refine WQ_getim dX5_readWord_44 fX5_19 rfl (lyx_is hy 1 5 rfl) ew73 ?_
          refine WQ_baldu dX5_readWord_47 (lyx_is hy 2 12 rfl) (lyx_n hy 2 900 rfl) (by omega) (by omega) (fun v116 => ?_)
          refine WQ_i2l dX5_readWord_48 (fun l117 hl117 => ?_)
          refine WQ_lor dX5_readWord_49 (fun l118 => ?_)
          refine WQ_putl dX5_readWord_50 fX5_41 rfl rfl (lyx_is hy 1 5 rfl) (fun J119 eJ119 => ?_)
          have fr120 : fz 74 g [1] J J119 := by rw [eJ119]; exact fzx_pp hy fjJ72 (by decide) (by decide)
          clear eJ119
          refine WP_aload_n dX5_readWord_53 rfl ?_
          refine WP_dup dX5_readWord_54 rfl ?_
          refine WQ_getim dX5_readWord_55 fX5_19 rfl (lyx_is hy 1 5 rfl) ew73 ?_
          refine WQ_iconst (1) (1) dX5_readWord_58 rfl rfl (fun v121 hv121 => ?_)
          refine WQ_iadd dX5_readWord_59 (by omega) (by omega) (fun v122 hv122 => ?_)
          refine WQ_puti dX5_readWord_60 fX5_19 rfl rfl (lyx_is hy 1 5 rfl) (fun I123 eI123 => ?_)
          have hI123 : XI g n L I123 := by rw [eI123]; exact (xi_f hy hI71 (c := 1) (0) (0) (900) (by decide) (Or.inr (by decide)) (by decide) (by omega) (by omega))
          have e124 : I123 (ad g 1) 1 = L := by rw [eI123, pp_ne _ _ (Or.inr (by decide))]; exact e75
          have e125 : I123 (ad g 1) 6 = v122 := by rw [eI123, pp_self]
          have fr126 : fz 74 g [1] I I123 := by rw [eI123]; exact fzx_pp hy fiI71 (by decide) (by decide)
          clear eI123
          refine WP_goto 5 dX5_readWord_63 rfl ?_
          exact WP_sub (fc rfl fn) (ihlp5_73 I123 J119 hI123 fr126 fr120 v122 e125 (by omega))
  obtain ⟨w127, ew127⟩ : ∃ w : Int32, I (ad g 1) 6 = w := ⟨_, rfl⟩
  have bw127 := BT_get hI.1 1 6 7 (0) (0) (900) (by decide) 6 (by decide) (by decide)
  rw [ew127] at bw127
  exact WP_sub (fc rfl fn) (lp5_73 _ I J69 hI fr0 fr70 w127 ew127 (Nat.lt_succ_self _))
set_option maxHeartbeats 4000000 in
set_option maxRecDepth 100000 in
theorem sx_readNumber {g : GG} {n : Int} {L : Int32} (hy : LyX g)  {I : pI} {J : pJ} {R : pR} (hr : RfX g R) (hI : XI g n L I)   : SP g mX5_readNumber [.ref (ad g 1)] I J R (fun r I' J' R' => (XI g n L I' ∧ R' = R ∧ fz 74 g [1] I I' ∧ fz 74 g [] J J') ∧ r = none) := by
  refine SP_of ⟨by decide, rfl⟩ (Nat.le_of_ble_eq_true rfl) ?_
  have e128 : I (ad g 1) 1 = L := hI.2
  have b129 := BT_get hI.1 1 1 2 (0) (0) (900) (by decide) 1 (by decide) (by decide)
  rw [e128] at b129
  have fr0 : fz 74 g [1] I I := fz_rf
  have frj0 : fz 74 g [] J J := fz_rf
  refine WP_aload_n dX5_readNumber_0 rfl ?_
  refine WQ_iconst (0) (0) dX5_readNumber_1 rfl rfl (fun v130 hv130 => ?_)
  refine WQ_puti dX5_readNumber_2 fX5_45 rfl rfl (lyx_is hy 1 5 rfl) (fun I131 eI131 => ?_)
  have hI131 : XI g n L I131 := by rw [eI131]; exact (xi_f0 hy hI (c := 1) (by decide) (Or.inr (by decide)) (by decide))
  have e132 : I131 (ad g 1) 1 = L := by rw [eI131, pp_ne _ _ (Or.inr (by decide))]; exact e128
  have e133 : I131 (ad g 1) 4 = v130 := by rw [eI131, pp_self]
  have fr134 : fz 74 g [1] I I131 := by rw [eI131]; exact fzx_pp hy fr0 (by decide) (by decide)
  clear eI131
  have lp5_137 : ∀ (mz : Nat)  (I135 : pI) (J136 : pJ), XI g n L I135 → fz 74 g [1] I I135 → fz 74 g [] J J136 → ∀ (w137 : Int32), I135 (ad g 1) 6 = w137 → (901 - w137.toInt).toNat < mz → WP g mX5_readNumber 5 [(0, .ref (ad g 1))] [] I135 J136 R (fun r I' J' R' => (XI g n L I' ∧ R' = R ∧ fz 74 g [1] I I' ∧ fz 74 g [] J J') ∧ r = none) := by
    intro mz
    induction mz with
    | zero =>
      intro  I135 J136 hI135 fiI135 fjJ136 w137 ew137  hmlp5_137
      exact absurd hmlp5_137 (Nat.not_lt_zero _)
    | succ mz ihlp5_137 =>
      intro  I135 J136 hI135 fiI135 fjJ136 w137 ew137  hmlp5_137
      have bw137 := BT_get hI135.1 1 6 7 (0) (0) (900) (by decide) 6 (by decide) (by decide)
      rw [ew137] at bw137
      have e139 : I135 (ad g 1) 1 = L := hI135.2
      have b140 := BT_get hI135.1 1 1 2 (0) (0) (900) (by decide) 1 (by decide) (by decide)
      rw [e139] at b140
      refine WP_aload_n dX5_readNumber_5 rfl ?_
      refine WQ_getim dX5_readNumber_6 fX5_19 rfl (lyx_is hy 1 5 rfl) ew137 ?_
      refine WP_aload_n dX5_readNumber_9 rfl ?_
      refine WQ_getim dX5_readNumber_10 fX5_15 rfl (lyx_is hy 1 5 rfl) e139 ?_
      refine WQ_icmp_ge 68 dX5_readNumber_13 rfl (fun c140 => ?_) (fun c140 => ?_)
      · refine WP_aload_n dX5_readNumber_68 rfl ?_
        refine WP_aload_n dX5_readNumber_69 rfl ?_
        refine WQ_getim dX5_readNumber_70 fX5_19 rfl (lyx_is hy 1 5 rfl) ew137 ?_
        refine WP_aload_n dX5_readNumber_73 rfl ?_
        refine WQ_geti dX5_readNumber_74 fX5_22 rfl (lyx_is hy 1 5 rfl) (BT_get hI135.1 1 3 4 (0) (0) (900) (by decide) 3 (by decide) (by decide)) (fun v142 ev142 av142 bv142 => ?_)
        refine WQ_isub dX5_readNumber_77 (by omega) (by omega) (fun v143 hv143 => ?_)
        refine WQ_iconst (4) (4) dX5_readNumber_78 rfl rfl (fun v144 hv144 => ?_)
        have jn87_147 : ∀ (v147 : Int32), 2 ≤ v147.toInt → v147.toInt ≤ 4 → WP g mX5_readNumber 87 [(0, .ref (ad g 1))] [.int v147, .ref (ad g 1)] I135 J136 R (fun r I' J' R' => (XI g n L I' ∧ R' = R ∧ fz 74 g [1] I I' ∧ fz 74 g [] J J') ∧ r = none) := by
          intro v147 av147 bv147
          refine WQ_puti dX5_readNumber_87 fX5_25 rfl rfl (lyx_is hy 1 5 rfl) (fun I149 eI149 => ?_)
          have hI149 : XI g n L I149 := by rw [eI149]; exact (xi_f hy hI135 (c := 1) (0) (0) (4) (by decide) (Or.inr (by decide)) (by decide) (by omega) (by omega))
          have e150 : I149 (ad g 1) 6 = w137 := by rw [eI149, pp_ne _ _ (Or.inr (by decide))]; exact ew137
          have e151 : I149 (ad g 1) 1 = L := by rw [eI149, pp_ne _ _ (Or.inr (by decide))]; exact e139
          have e152 : I149 (ad g 1) 3 = v142 := by rw [eI149, pp_ne _ _ (Or.inr (by decide))]; exact ev142
          have e153 : I149 (ad g 1) 2 = v147 := by rw [eI149, pp_self]
          have fr154 : fz 74 g [1] I I149 := by rw [eI149]; exact fzx_pp hy fiI135 (by decide) (by decide)
          clear eI149
          exact WP_vret dX5_readNumber_90 rfl ⟨⟨hI149, rfl, fr154, fjJ136⟩, rfl⟩
        refine WQ_icmp_le 86 dX5_readNumber_79 rfl (fun c154 => ?_) (fun c154 => ?_)
        · refine WQ_iconst (2) (2) dX5_readNumber_86 rfl rfl (fun v156 hv156 => ?_)
          exact WP_sub (fc rfl fn) (jn87_147 v156 (by omega) (by omega))
        · refine WQ_iconst (4) (4) dX5_readNumber_82 rfl rfl (fun v157 hv157 => ?_)
          refine WP_goto 87 dX5_readNumber_83 rfl ?_
          exact WP_sub (fc rfl fn) (jn87_147 v157 (by omega) (by omega))
      · refine WP_aload_n dX5_readNumber_16 rfl ?_
        refine WP_getr dX5_readNumber_17 fX5_9 rfl (lyx_is hy 1 5 rfl) (rfx hr 1 0 2 (by decide)) ?_
        refine WP_aload_n dX5_readNumber_20 rfl ?_
        refine WQ_getim dX5_readNumber_21 fX5_19 rfl (lyx_is hy 1 5 rfl) ew137 ?_
        refine WQ_baldu dX5_readNumber_24 (lyx_is hy 2 12 rfl) (lyx_n hy 2 900 rfl) (by omega) (by omega) (fun v158 => ?_)
        refine WP_callS1 dX5_readNumber_25 ⟨⟨⟨by decide, by decide⟩, zX5_isDigit⟩, lX5_35, tX5_isDigit⟩ (sx_isDigit hy hr hI135 v158 ) (Nat.le_of_ble_eq_true rfl) ?_
        intro r Ia Ja Ra hq
        obtain ⟨⟨ea, eb, ec⟩, v159, rfl, av159, bv159⟩ := hq
        show WP _ _ _ _ (.int _ :: _) _ _ _ _
        rw [ea, eb, ec]
        clear ea eb ec Ia Ja Ra
        refine WQ_if_eq 68 dX5_readNumber_28 rfl (fun c159 => ?_) (fun c159 => ?_)
        · refine WP_aload_n dX5_readNumber_68 rfl ?_
          refine WP_aload_n dX5_readNumber_69 rfl ?_
          refine WQ_getim dX5_readNumber_70 fX5_19 rfl (lyx_is hy 1 5 rfl) ew137 ?_
          refine WP_aload_n dX5_readNumber_73 rfl ?_
          refine WQ_geti dX5_readNumber_74 fX5_22 rfl (lyx_is hy 1 5 rfl) (BT_get hI135.1 1 3 4 (0) (0) (900) (by decide) 3 (by decide) (by decide)) (fun v161 ev161 av161 bv161 => ?_)
          refine WQ_isub dX5_readNumber_77 (by omega) (by omega) (fun v162 hv162 => ?_)
          refine WQ_iconst (4) (4) dX5_readNumber_78 rfl rfl (fun v163 hv163 => ?_)
          have jn87_166 : ∀ (v166 : Int32), 2 ≤ v166.toInt → v166.toInt ≤ 4 → WP g mX5_readNumber 87 [(0, .ref (ad g 1))] [.int v166, .ref (ad g 1)] I135 J136 R (fun r I' J' R' => (XI g n L I' ∧ R' = R ∧ fz 74 g [1] I I' ∧ fz 74 g [] J J') ∧ r = none) := by
            intro v166 av166 bv166
            refine WQ_puti dX5_readNumber_87 fX5_25 rfl rfl (lyx_is hy 1 5 rfl) (fun I168 eI168 => ?_)
            have hI168 : XI g n L I168 := by rw [eI168]; exact (xi_f hy hI135 (c := 1) (0) (0) (4) (by decide) (Or.inr (by decide)) (by decide) (by omega) (by omega))
            have e169 : I168 (ad g 1) 6 = w137 := by rw [eI168, pp_ne _ _ (Or.inr (by decide))]; exact ew137
            have e170 : I168 (ad g 1) 1 = L := by rw [eI168, pp_ne _ _ (Or.inr (by decide))]; exact e139
            have e171 : I168 (ad g 1) 3 = v161 := by rw [eI168, pp_ne _ _ (Or.inr (by decide))]; exact ev161
            have e172 : I168 (ad g 1) 2 = v166 := by rw [eI168, pp_self]
            have fr173 : fz 74 g [1] I I168 := by rw [eI168]; exact fzx_pp hy fiI135 (by decide) (by decide)
            clear eI168
            exact WP_vret dX5_readNumber_90 rfl ⟨⟨hI168, rfl, fr173, fjJ136⟩, rfl⟩
          refine WQ_icmp_le 86 dX5_readNumber_79 rfl (fun c173 => ?_) (fun c173 => ?_)
          · refine WQ_iconst (2) (2) dX5_readNumber_86 rfl rfl (fun v175 hv175 => ?_)
            exact WP_sub (fc rfl fn) (jn87_166 v175 (by omega) (by omega))
          · refine WQ_iconst (4) (4) dX5_readNumber_82 rfl rfl (fun v176 hv176 => ?_)
            refine WP_goto 87 dX5_readNumber_83 rfl ?_
            exact WP_sub (fc rfl fn) (jn87_166 v176 (by omega) (by omega))
        · refine WP_aload_n dX5_readNumber_31 rfl ?_
          refine WP_aload_n dX5_readNumber_32 rfl ?_
          refine WQ_getiu dX5_readNumber_33 fX5_45 rfl (lyx_is hy 1 5 rfl) (fun v177 ev177 => ?_)
          refine WQ_bipush (10) (10) dX5_readNumber_36 rfl rfl (fun v178 hv178 => ?_)
          refine WQ_imulu dX5_readNumber_38 (fun v179 => ?_)
          refine WP_aload_n dX5_readNumber_39 rfl ?_
          refine WP_getr dX5_readNumber_40 fX5_9 rfl (lyx_is hy 1 5 rfl) (rfx hr 1 0 2 (by decide)) ?_
          refine WP_aload_n dX5_readNumber_43 rfl ?_
          refine WQ_getim dX5_readNumber_44 fX5_19 rfl (lyx_is hy 1 5 rfl) ew137 ?_
          refine WQ_baldu dX5_readNumber_47 (lyx_is hy 2 12 rfl) (lyx_n hy 2 900 rfl) (by omega) (by omega) (fun v180 => ?_)
          refine WQ_iaddu dX5_readNumber_48 (fun v181 => ?_)
          refine WQ_bipush (48) (48) dX5_readNumber_49 rfl rfl (fun v182 hv182 => ?_)
          refine WQ_isubu dX5_readNumber_51 (fun v183 => ?_)
          refine WQ_puti dX5_readNumber_52 fX5_45 rfl rfl (lyx_is hy 1 5 rfl) (fun I184 eI184 => ?_)
          have hI184 : XI g n L I184 := by rw [eI184]; exact (xi_f0 hy hI135 (c := 1) (by decide) (Or.inr (by decide)) (by decide))
          have e185 : I184 (ad g 1) 6 = w137 := by rw [eI184, pp_ne _ _ (Or.inr (by decide))]; exact ew137
          have e186 : I184 (ad g 1) 1 = L := by rw [eI184, pp_ne _ _ (Or.inr (by decide))]; exact e139
          have e187 : I184 (ad g 1) 4 = v183 := by rw [eI184, pp_self]
          have fr188 : fz 74 g [1] I I184 := by rw [eI184]; exact fzx_pp hy fiI135 (by decide) (by decide)
          clear eI184
          refine WP_aload_n dX5_readNumber_55 rfl ?_
          refine WP_dup dX5_readNumber_56 rfl ?_
          refine WQ_getim dX5_readNumber_57 fX5_19 rfl (lyx_is hy 1 5 rfl) e185 ?_
          refine WQ_iconst (1) (1) dX5_readNumber_60 rfl rfl (fun v189 hv189 => ?_)
          refine WQ_iadd dX5_readNumber_61 (by omega) (by omega) (fun v190 hv190 => ?_)
          refine WQ_puti dX5_readNumber_62 fX5_19 rfl rfl (lyx_is hy 1 5 rfl) (fun I191 eI191 => ?_)
          have hI191 : XI g n L I191 := by rw [eI191]; exact (xi_f hy hI184 (c := 1) (0) (0) (900) (by decide) (Or.inr (by decide)) (by decide) (by omega) (by omega))
          have e192 : I191 (ad g 1) 1 = L := by rw [eI191, pp_ne _ _ (Or.inr (by decide))]; exact e186
          have e193 : I191 (ad g 1) 4 = v183 := by rw [eI191, pp_ne _ _ (Or.inr (by decide))]; exact e187
          have e194 : I191 (ad g 1) 6 = v190 := by rw [eI191, pp_self]
          have fr195 : fz 74 g [1] I I191 := by rw [eI191]; exact fzx_pp hy fr188 (by decide) (by decide)
          clear eI191
          refine WP_goto 5 dX5_readNumber_65 rfl ?_
          exact WP_sub (fc rfl fn) (ihlp5_137 I191 J136 hI191 fr195 fjJ136 v190 e194 (by omega))
  obtain ⟨w196, ew196⟩ : ∃ w : Int32, I131 (ad g 1) 6 = w := ⟨_, rfl⟩
  have bw196 := BT_get hI131.1 1 6 7 (0) (0) (900) (by decide) 6 (by decide) (by decide)
  rw [ew196] at bw196
  exact WP_sub (fc rfl fn) (lp5_137 _ I131 J hI131 fr134 frj0 w196 ew196 (Nat.lt_succ_self _))
set_option maxHeartbeats 4000000 in
set_option maxRecDepth 100000 in
theorem sx_next {g : GG} {n : Int} {L : Int32} (hy : LyX g)  {I : pI} {J : pJ} {R : pR} (hr : RfX g R) (hI : XI g n L I)   : SP g mX5_next [.ref (ad g 1)] I J R (fun r I' J' R' => (XI g n L I' ∧ R' = R ∧ fz 74 g [1] I I' ∧ fz 74 g [1] J J') ∧ r = none) := by
  refine SP_of ⟨by decide, rfl⟩ (Nat.le_of_ble_eq_true rfl) ?_
  have e197 : I (ad g 1) 1 = L := hI.2
  have b198 := BT_get hI.1 1 1 2 (0) (0) (900) (by decide) 1 (by decide) (by decide)
  rw [e197] at b198
  have fr0 : fz 74 g [1] I I := fz_rf
  have frj0 : fz 74 g [1] J J := fz_rf
  have lp0_201 : ∀ (mz : Nat)  (I199 : pI) (J200 : pJ), XI g n L I199 → fz 74 g [1] I I199 → fz 74 g [1] J J200 → ∀ (w201 : Int32), I199 (ad g 1) 6 = w201 → (901 - w201.toInt).toNat < mz → WP g mX5_next 0 [(0, .ref (ad g 1))] [] I199 J200 R (fun r I' J' R' => (XI g n L I' ∧ R' = R ∧ fz 74 g [1] I I' ∧ fz 74 g [1] J J') ∧ r = none) := by
    intro mz
    induction mz with
    | zero =>
      intro  I199 J200 hI199 fiI199 fjJ200 w201 ew201  hmlp0_201
      exact absurd hmlp0_201 (Nat.not_lt_zero _)
    | succ mz ihlp0_201 =>
      intro  I199 J200 hI199 fiI199 fjJ200 w201 ew201  hmlp0_201
      have bw201 := BT_get hI199.1 1 6 7 (0) (0) (900) (by decide) 6 (by decide) (by decide)
      rw [ew201] at bw201
      have e203 : I199 (ad g 1) 1 = L := hI199.2
      have b204 := BT_get hI199.1 1 1 2 (0) (0) (900) (by decide) 1 (by decide) (by decide)
      rw [e203] at b204
      refine WP_aload_n dX5_next_0 rfl ?_
      refine WQ_getim dX5_next_1 fX5_19 rfl (lyx_is hy 1 5 rfl) ew201 ?_
      refine WP_aload_n dX5_next_4 rfl ?_
      refine WQ_getim dX5_next_5 fX5_15 rfl (lyx_is hy 1 5 rfl) e203 ?_
      refine WQ_icmp_ge 52 dX5_next_8 rfl (fun c204 => ?_) (fun c204 => ?_)
      · refine WP_aload_n dX5_next_52 rfl ?_
        refine WP_aload_n dX5_next_53 rfl ?_
        refine WQ_getim dX5_next_54 fX5_19 rfl (lyx_is hy 1 5 rfl) ew201 ?_
        refine WQ_puti dX5_next_57 fX5_22 rfl rfl (lyx_is hy 1 5 rfl) (fun I206 eI206 => ?_)
        have hI206 : XI g n L I206 := by rw [eI206]; exact (xi_f hy hI199 (c := 1) (0) (0) (900) (by decide) (Or.inr (by decide)) (by decide) (by omega) (by omega))
        have e207 : I206 (ad g 1) 6 = w201 := by rw [eI206, pp_ne _ _ (Or.inr (by decide))]; exact ew201
        have e208 : I206 (ad g 1) 1 = L := by rw [eI206, pp_ne _ _ (Or.inr (by decide))]; exact e203
        have e209 : I206 (ad g 1) 3 = w201 := by rw [eI206, pp_self]
        have fr210 : fz 74 g [1] I I206 := by rw [eI206]; exact fzx_pp hy fiI199 (by decide) (by decide)
        clear eI206
        refine WP_aload_n dX5_next_60 rfl ?_
        refine WQ_getim dX5_next_61 fX5_19 rfl (lyx_is hy 1 5 rfl) e207 ?_
        refine WP_aload_n dX5_next_64 rfl ?_
        refine WQ_getim dX5_next_65 fX5_15 rfl (lyx_is hy 1 5 rfl) e208 ?_
        refine WQ_icmp_lt 79 dX5_next_68 rfl (fun c210 => ?_) (fun c210 => ?_)
        · refine WP_aload_n dX5_next_79 rfl ?_
          refine WP_getr dX5_next_80 fX5_9 rfl (lyx_is hy 1 5 rfl) (rfx hr 1 0 2 (by decide)) ?_
          refine WP_aload_n dX5_next_83 rfl ?_
          refine WQ_getim dX5_next_84 fX5_19 rfl (lyx_is hy 1 5 rfl) e207 ?_
          refine WQ_baldu dX5_next_87 (lyx_is hy 2 12 rfl) (lyx_n hy 2 900 rfl) (by omega) (by omega) (fun v212 => ?_)
          refine WP_callS1 dX5_next_88 ⟨⟨⟨by decide, by decide⟩, zX5_isLetter⟩, lX5_28, tX5_isLetter⟩ (sx_isLetter hy hr hI206 v212 ) (Nat.le_of_ble_eq_true rfl) ?_
          intro r Ia Ja Ra hq
          obtain ⟨⟨ea, eb, ec⟩, v213, rfl, av213, bv213⟩ := hq
          show WP _ _ _ _ (.int _ :: _) _ _ _ _
          rw [ea, eb, ec]
          clear ea eb ec Ia Ja Ra
          refine WQ_if_eq 101 dX5_next_91 rfl (fun c213 => ?_) (fun c213 => ?_)
          · refine WP_aload_n dX5_next_101 rfl ?_
            refine WP_getr dX5_next_102 fX5_9 rfl (lyx_is hy 1 5 rfl) (rfx hr 1 0 2 (by decide)) ?_
            refine WP_aload_n dX5_next_105 rfl ?_
            refine WQ_getim dX5_next_106 fX5_19 rfl (lyx_is hy 1 5 rfl) e207 ?_
            refine WQ_baldu dX5_next_109 (lyx_is hy 2 12 rfl) (lyx_n hy 2 900 rfl) (by omega) (by omega) (fun v215 => ?_)
            refine WP_callS1 dX5_next_110 ⟨⟨⟨by decide, by decide⟩, zX5_isDigit⟩, lX5_35, tX5_isDigit⟩ (sx_isDigit hy hr hI206 v215 ) (Nat.le_of_ble_eq_true rfl) ?_
            intro r Ia Ja Ra hq
            obtain ⟨⟨ea, eb, ec⟩, v216, rfl, av216, bv216⟩ := hq
            show WP _ _ _ _ (.int _ :: _) _ _ _ _
            rw [ea, eb, ec]
            clear ea eb ec Ia Ja Ra
            refine WQ_if_eq 123 dX5_next_113 rfl (fun c216 => ?_) (fun c216 => ?_)
            · refine WP_aload_n dX5_next_123 rfl ?_
              refine WP_aload_n dX5_next_124 rfl ?_
              refine WP_getr dX5_next_125 fX5_9 rfl (lyx_is hy 1 5 rfl) (rfx hr 1 0 2 (by decide)) ?_
              refine WP_aload_n dX5_next_128 rfl ?_
              refine WQ_getim dX5_next_129 fX5_19 rfl (lyx_is hy 1 5 rfl) e207 ?_
              refine WQ_baldu dX5_next_132 (lyx_is hy 2 12 rfl) (lyx_n hy 2 900 rfl) (by omega) (by omega) (fun v218 => ?_)
              refine WQ_bipush (59) (59) dX5_next_133 rfl rfl (fun v219 hv219 => ?_)
              have jn143_222 : ∀ (v222 : Int32), 3 ≤ v222.toInt → v222.toInt ≤ 4 → WP g mX5_next 143 [(0, .ref (ad g 1))] [.int v222, .ref (ad g 1)] I206 J200 R (fun r I' J' R' => (XI g n L I' ∧ R' = R ∧ fz 74 g [1] I I' ∧ fz 74 g [1] J J') ∧ r = none) := by
                intro v222 av222 bv222
                refine WQ_puti dX5_next_143 fX5_25 rfl rfl (lyx_is hy 1 5 rfl) (fun I224 eI224 => ?_)
                have hI224 : XI g n L I224 := by rw [eI224]; exact (xi_f hy hI206 (c := 1) (0) (0) (4) (by decide) (Or.inr (by decide)) (by decide) (by omega) (by omega))
                have e225 : I224 (ad g 1) 6 = w201 := by rw [eI224, pp_ne _ _ (Or.inr (by decide))]; exact e207
                have e226 : I224 (ad g 1) 1 = L := by rw [eI224, pp_ne _ _ (Or.inr (by decide))]; exact e208
                have e227 : I224 (ad g 1) 3 = w201 := by rw [eI224, pp_ne _ _ (Or.inr (by decide))]; exact e209
                have e228 : I224 (ad g 1) 2 = v222 := by rw [eI224, pp_self]
                have fr229 : fz 74 g [1] I I224 := by rw [eI224]; exact fzx_pp hy fr210 (by decide) (by decide)
                clear eI224
                refine WP_aload_n dX5_next_146 rfl ?_
                refine WP_dup dX5_next_147 rfl ?_
                refine WQ_getim dX5_next_148 fX5_19 rfl (lyx_is hy 1 5 rfl) e225 ?_
                refine WQ_iconst (1) (1) dX5_next_151 rfl rfl (fun v230 hv230 => ?_)
                refine WQ_iadd dX5_next_152 (by omega) (by omega) (fun v231 hv231 => ?_)
                refine WQ_puti dX5_next_153 fX5_19 rfl rfl (lyx_is hy 1 5 rfl) (fun I232 eI232 => ?_)
                have hI232 : XI g n L I232 := by rw [eI232]; exact (xi_f hy hI224 (c := 1) (0) (0) (900) (by decide) (Or.inr (by decide)) (by decide) (by omega) (by omega))
                have e233 : I232 (ad g 1) 1 = L := by rw [eI232, pp_ne _ _ (Or.inr (by decide))]; exact e226
                have e234 : I232 (ad g 1) 3 = w201 := by rw [eI232, pp_ne _ _ (Or.inr (by decide))]; exact e227
                have e235 : I232 (ad g 1) 2 = v222 := by rw [eI232, pp_ne _ _ (Or.inr (by decide))]; exact e228
                have e236 : I232 (ad g 1) 6 = v231 := by rw [eI232, pp_self]
                have fr237 : fz 74 g [1] I I232 := by rw [eI232]; exact fzx_pp hy fr229 (by decide) (by decide)
                clear eI232
                exact WP_vret dX5_next_156 rfl ⟨⟨hI232, rfl, fr237, fjJ200⟩, rfl⟩
              refine WX_icmp_ne 142 dX5_next_135 rfl ?_ ?_
              · refine WQ_iconst (4) (4) dX5_next_142 rfl rfl (fun v238 hv238 => ?_)
                exact WP_sub (fc rfl fn) (jn143_222 v238 (by omega) (by omega))
              · refine WQ_iconst (3) (3) dX5_next_138 rfl rfl (fun v239 hv239 => ?_)
                refine WP_goto 143 dX5_next_139 rfl ?_
                exact WP_sub (fc rfl fn) (jn143_222 v239 (by omega) (by omega))
            · refine WP_aload_n dX5_next_116 rfl ?_
              refine WP_callV0 (k := 5) dX5_next_117 ⟨⟨⟨by decide, by decide⟩, zX5_readNumber⟩, lX5_38, by decide, rfl, vX5_readNumber.1, vX5_readNumber.2⟩ (lyx_is hy 1 5 rfl) (sx_readNumber hy hr hI206  ) (Nat.le_of_ble_eq_true rfl) ?_
              intro r I240 J241 Ra hq
              obtain ⟨⟨hI240, ec, fiI240, fjI240⟩, rfl⟩ := hq
              rw [ec]
              clear ec Ra
              have fr242 : fz 74 g [1] I I240 := fz_tr fr210 (fz_mono fiI240 (by decide))
              have fr243 : fz 74 g [1] J J241 := fz_tr fjJ200 (fz_mono fjI240 (by decide))
              have e244 : I240 (ad g 1) 1 = L := hI240.2
              have b245 := BT_get hI240.1 1 1 2 (0) (0) (900) (by decide) 1 (by decide) (by decide)
              rw [e244] at b245
              refine WP_goto 156 dX5_next_120 rfl ?_
              exact WP_vret dX5_next_156 rfl ⟨⟨hI240, rfl, fr242, fr243⟩, rfl⟩
          · refine WP_aload_n dX5_next_94 rfl ?_
            refine WP_callV0 (k := 5) dX5_next_95 ⟨⟨⟨by decide, by decide⟩, zX5_readWord⟩, lX5_32, by decide, rfl, vX5_readWord.1, vX5_readWord.2⟩ (lyx_is hy 1 5 rfl) (sx_readWord hy hr hI206  ) (Nat.le_of_ble_eq_true rfl) ?_
            intro r I246 J247 Ra hq
            obtain ⟨⟨hI246, ec, fiI246, fjI246⟩, rfl⟩ := hq
            rw [ec]
            clear ec Ra
            have fr248 : fz 74 g [1] I I246 := fz_tr fr210 (fz_mono fiI246 (by decide))
            have fr249 : fz 74 g [1] J J247 := fz_tr fjJ200 (fz_mono fjI246 (by decide))
            have e250 : I246 (ad g 1) 1 = L := hI246.2
            have b251 := BT_get hI246.1 1 1 2 (0) (0) (900) (by decide) 1 (by decide) (by decide)
            rw [e250] at b251
            refine WP_goto 156 dX5_next_98 rfl ?_
            exact WP_vret dX5_next_156 rfl ⟨⟨hI246, rfl, fr248, fr249⟩, rfl⟩
        · refine WP_aload_n dX5_next_71 rfl ?_
          refine WQ_iconst (0) (0) dX5_next_72 rfl rfl (fun v252 hv252 => ?_)
          refine WQ_puti dX5_next_73 fX5_25 rfl rfl (lyx_is hy 1 5 rfl) (fun I253 eI253 => ?_)
          have hI253 : XI g n L I253 := by rw [eI253]; exact (xi_f hy hI206 (c := 1) (0) (0) (4) (by decide) (Or.inr (by decide)) (by decide) (by omega) (by omega))
          have e254 : I253 (ad g 1) 6 = w201 := by rw [eI253, pp_ne _ _ (Or.inr (by decide))]; exact e207
          have e255 : I253 (ad g 1) 1 = L := by rw [eI253, pp_ne _ _ (Or.inr (by decide))]; exact e208
          have e256 : I253 (ad g 1) 3 = w201 := by rw [eI253, pp_ne _ _ (Or.inr (by decide))]; exact e209
          have e257 : I253 (ad g 1) 2 = v252 := by rw [eI253, pp_self]
          have fr258 : fz 74 g [1] I I253 := by rw [eI253]; exact fzx_pp hy fr210 (by decide) (by decide)
          clear eI253
          refine WP_goto 156 dX5_next_76 rfl ?_
          exact WP_vret dX5_next_156 rfl ⟨⟨hI253, rfl, fr258, fjJ200⟩, rfl⟩
      · refine WP_aload_n dX5_next_11 rfl ?_
        refine WP_getr dX5_next_12 fX5_9 rfl (lyx_is hy 1 5 rfl) (rfx hr 1 0 2 (by decide)) ?_
        refine WP_aload_n dX5_next_15 rfl ?_
        refine WQ_getim dX5_next_16 fX5_19 rfl (lyx_is hy 1 5 rfl) ew201 ?_
        refine WQ_baldu dX5_next_19 (lyx_is hy 2 12 rfl) (lyx_n hy 2 900 rfl) (by omega) (by omega) (fun v259 => ?_)
        refine WQ_bipush (32) (32) dX5_next_20 rfl rfl (fun v260 hv260 => ?_)
        refine WX_icmp_eq 39 dX5_next_22 rfl ?_ ?_
        · refine WP_aload_n dX5_next_39 rfl ?_
          refine WP_dup dX5_next_40 rfl ?_
          refine WQ_getim dX5_next_41 fX5_19 rfl (lyx_is hy 1 5 rfl) ew201 ?_
          refine WQ_iconst (1) (1) dX5_next_44 rfl rfl (fun v261 hv261 => ?_)
          refine WQ_iadd dX5_next_45 (by omega) (by omega) (fun v262 hv262 => ?_)
          refine WQ_puti dX5_next_46 fX5_19 rfl rfl (lyx_is hy 1 5 rfl) (fun I263 eI263 => ?_)
          have hI263 : XI g n L I263 := by rw [eI263]; exact (xi_f hy hI199 (c := 1) (0) (0) (900) (by decide) (Or.inr (by decide)) (by decide) (by omega) (by omega))
          have e264 : I263 (ad g 1) 1 = L := by rw [eI263, pp_ne _ _ (Or.inr (by decide))]; exact e203
          have e265 : I263 (ad g 1) 6 = v262 := by rw [eI263, pp_self]
          have fr266 : fz 74 g [1] I I263 := by rw [eI263]; exact fzx_pp hy fiI199 (by decide) (by decide)
          clear eI263
          refine WP_goto 0 dX5_next_49 rfl ?_
          exact WP_sub (fc rfl fn) (ihlp0_201 I263 J200 hI263 fr266 fjJ200 v262 e265 (by omega))
        · refine WP_aload_n dX5_next_25 rfl ?_
          refine WP_getr dX5_next_26 fX5_9 rfl (lyx_is hy 1 5 rfl) (rfx hr 1 0 2 (by decide)) ?_
          refine WP_aload_n dX5_next_29 rfl ?_
          refine WQ_getim dX5_next_30 fX5_19 rfl (lyx_is hy 1 5 rfl) ew201 ?_
          refine WQ_baldu dX5_next_33 (lyx_is hy 2 12 rfl) (lyx_n hy 2 900 rfl) (by omega) (by omega) (fun v267 => ?_)
          refine WQ_bipush (10) (10) dX5_next_34 rfl rfl (fun v268 hv268 => ?_)
          refine WX_icmp_ne 52 dX5_next_36 rfl ?_ ?_
          · refine WP_aload_n dX5_next_52 rfl ?_
            refine WP_aload_n dX5_next_53 rfl ?_
            refine WQ_getim dX5_next_54 fX5_19 rfl (lyx_is hy 1 5 rfl) ew201 ?_
            refine WQ_puti dX5_next_57 fX5_22 rfl rfl (lyx_is hy 1 5 rfl) (fun I269 eI269 => ?_)
            have hI269 : XI g n L I269 := by rw [eI269]; exact (xi_f hy hI199 (c := 1) (0) (0) (900) (by decide) (Or.inr (by decide)) (by decide) (by omega) (by omega))
            have e270 : I269 (ad g 1) 6 = w201 := by rw [eI269, pp_ne _ _ (Or.inr (by decide))]; exact ew201
            have e271 : I269 (ad g 1) 1 = L := by rw [eI269, pp_ne _ _ (Or.inr (by decide))]; exact e203
            have e272 : I269 (ad g 1) 3 = w201 := by rw [eI269, pp_self]
            have fr273 : fz 74 g [1] I I269 := by rw [eI269]; exact fzx_pp hy fiI199 (by decide) (by decide)
            clear eI269
            refine WP_aload_n dX5_next_60 rfl ?_
            refine WQ_getim dX5_next_61 fX5_19 rfl (lyx_is hy 1 5 rfl) e270 ?_
            refine WP_aload_n dX5_next_64 rfl ?_
            refine WQ_getim dX5_next_65 fX5_15 rfl (lyx_is hy 1 5 rfl) e271 ?_
            refine WQ_icmp_lt 79 dX5_next_68 rfl (fun c273 => ?_) (fun c273 => ?_)
            · refine WP_aload_n dX5_next_79 rfl ?_
              refine WP_getr dX5_next_80 fX5_9 rfl (lyx_is hy 1 5 rfl) (rfx hr 1 0 2 (by decide)) ?_
              refine WP_aload_n dX5_next_83 rfl ?_
              refine WQ_getim dX5_next_84 fX5_19 rfl (lyx_is hy 1 5 rfl) e270 ?_
              refine WQ_baldu dX5_next_87 (lyx_is hy 2 12 rfl) (lyx_n hy 2 900 rfl) (by omega) (by omega) (fun v275 => ?_)
              refine WP_callS1 dX5_next_88 ⟨⟨⟨by decide, by decide⟩, zX5_isLetter⟩, lX5_28, tX5_isLetter⟩ (sx_isLetter hy hr hI269 v275 ) (Nat.le_of_ble_eq_true rfl) ?_
              intro r Ia Ja Ra hq
              obtain ⟨⟨ea, eb, ec⟩, v276, rfl, av276, bv276⟩ := hq
              show WP _ _ _ _ (.int _ :: _) _ _ _ _
              rw [ea, eb, ec]
              clear ea eb ec Ia Ja Ra
              refine WQ_if_eq 101 dX5_next_91 rfl (fun c276 => ?_) (fun c276 => ?_)
              · refine WP_aload_n dX5_next_101 rfl ?_
                refine WP_getr dX5_next_102 fX5_9 rfl (lyx_is hy 1 5 rfl) (rfx hr 1 0 2 (by decide)) ?_
                refine WP_aload_n dX5_next_105 rfl ?_
                refine WQ_getim dX5_next_106 fX5_19 rfl (lyx_is hy 1 5 rfl) e270 ?_
                refine WQ_baldu dX5_next_109 (lyx_is hy 2 12 rfl) (lyx_n hy 2 900 rfl) (by omega) (by omega) (fun v278 => ?_)
                refine WP_callS1 dX5_next_110 ⟨⟨⟨by decide, by decide⟩, zX5_isDigit⟩, lX5_35, tX5_isDigit⟩ (sx_isDigit hy hr hI269 v278 ) (Nat.le_of_ble_eq_true rfl) ?_
                intro r Ia Ja Ra hq
                obtain ⟨⟨ea, eb, ec⟩, v279, rfl, av279, bv279⟩ := hq
                show WP _ _ _ _ (.int _ :: _) _ _ _ _
                rw [ea, eb, ec]
                clear ea eb ec Ia Ja Ra
                refine WQ_if_eq 123 dX5_next_113 rfl (fun c279 => ?_) (fun c279 => ?_)
                · refine WP_aload_n dX5_next_123 rfl ?_
                  refine WP_aload_n dX5_next_124 rfl ?_
                  refine WP_getr dX5_next_125 fX5_9 rfl (lyx_is hy 1 5 rfl) (rfx hr 1 0 2 (by decide)) ?_
                  refine WP_aload_n dX5_next_128 rfl ?_
                  refine WQ_getim dX5_next_129 fX5_19 rfl (lyx_is hy 1 5 rfl) e270 ?_
                  refine WQ_baldu dX5_next_132 (lyx_is hy 2 12 rfl) (lyx_n hy 2 900 rfl) (by omega) (by omega) (fun v281 => ?_)
                  refine WQ_bipush (59) (59) dX5_next_133 rfl rfl (fun v282 hv282 => ?_)
                  have jn143_285 : ∀ (v285 : Int32), 3 ≤ v285.toInt → v285.toInt ≤ 4 → WP g mX5_next 143 [(0, .ref (ad g 1))] [.int v285, .ref (ad g 1)] I269 J200 R (fun r I' J' R' => (XI g n L I' ∧ R' = R ∧ fz 74 g [1] I I' ∧ fz 74 g [1] J J') ∧ r = none) := by
                    intro v285 av285 bv285
                    refine WQ_puti dX5_next_143 fX5_25 rfl rfl (lyx_is hy 1 5 rfl) (fun I287 eI287 => ?_)
                    have hI287 : XI g n L I287 := by rw [eI287]; exact (xi_f hy hI269 (c := 1) (0) (0) (4) (by decide) (Or.inr (by decide)) (by decide) (by omega) (by omega))
                    have e288 : I287 (ad g 1) 6 = w201 := by rw [eI287, pp_ne _ _ (Or.inr (by decide))]; exact e270
                    have e289 : I287 (ad g 1) 1 = L := by rw [eI287, pp_ne _ _ (Or.inr (by decide))]; exact e271
                    have e290 : I287 (ad g 1) 3 = w201 := by rw [eI287, pp_ne _ _ (Or.inr (by decide))]; exact e272
                    have e291 : I287 (ad g 1) 2 = v285 := by rw [eI287, pp_self]
                    have fr292 : fz 74 g [1] I I287 := by rw [eI287]; exact fzx_pp hy fr273 (by decide) (by decide)
                    clear eI287
                    refine WP_aload_n dX5_next_146 rfl ?_
                    refine WP_dup dX5_next_147 rfl ?_
                    refine WQ_getim dX5_next_148 fX5_19 rfl (lyx_is hy 1 5 rfl) e288 ?_
                    refine WQ_iconst (1) (1) dX5_next_151 rfl rfl (fun v293 hv293 => ?_)
                    refine WQ_iadd dX5_next_152 (by omega) (by omega) (fun v294 hv294 => ?_)
                    refine WQ_puti dX5_next_153 fX5_19 rfl rfl (lyx_is hy 1 5 rfl) (fun I295 eI295 => ?_)
                    have hI295 : XI g n L I295 := by rw [eI295]; exact (xi_f hy hI287 (c := 1) (0) (0) (900) (by decide) (Or.inr (by decide)) (by decide) (by omega) (by omega))
                    have e296 : I295 (ad g 1) 1 = L := by rw [eI295, pp_ne _ _ (Or.inr (by decide))]; exact e289
                    have e297 : I295 (ad g 1) 3 = w201 := by rw [eI295, pp_ne _ _ (Or.inr (by decide))]; exact e290
                    have e298 : I295 (ad g 1) 2 = v285 := by rw [eI295, pp_ne _ _ (Or.inr (by decide))]; exact e291
                    have e299 : I295 (ad g 1) 6 = v294 := by rw [eI295, pp_self]
                    have fr300 : fz 74 g [1] I I295 := by rw [eI295]; exact fzx_pp hy fr292 (by decide) (by decide)
                    clear eI295
                    exact WP_vret dX5_next_156 rfl ⟨⟨hI295, rfl, fr300, fjJ200⟩, rfl⟩
                  refine WX_icmp_ne 142 dX5_next_135 rfl ?_ ?_
                  · refine WQ_iconst (4) (4) dX5_next_142 rfl rfl (fun v301 hv301 => ?_)
                    exact WP_sub (fc rfl fn) (jn143_285 v301 (by omega) (by omega))
                  · refine WQ_iconst (3) (3) dX5_next_138 rfl rfl (fun v302 hv302 => ?_)
                    refine WP_goto 143 dX5_next_139 rfl ?_
                    exact WP_sub (fc rfl fn) (jn143_285 v302 (by omega) (by omega))
                · refine WP_aload_n dX5_next_116 rfl ?_
                  refine WP_callV0 (k := 5) dX5_next_117 ⟨⟨⟨by decide, by decide⟩, zX5_readNumber⟩, lX5_38, by decide, rfl, vX5_readNumber.1, vX5_readNumber.2⟩ (lyx_is hy 1 5 rfl) (sx_readNumber hy hr hI269  ) (Nat.le_of_ble_eq_true rfl) ?_
                  intro r I303 J304 Ra hq
                  obtain ⟨⟨hI303, ec, fiI303, fjI303⟩, rfl⟩ := hq
                  rw [ec]
                  clear ec Ra
                  have fr305 : fz 74 g [1] I I303 := fz_tr fr273 (fz_mono fiI303 (by decide))
                  have fr306 : fz 74 g [1] J J304 := fz_tr fjJ200 (fz_mono fjI303 (by decide))
                  have e307 : I303 (ad g 1) 1 = L := hI303.2
                  have b308 := BT_get hI303.1 1 1 2 (0) (0) (900) (by decide) 1 (by decide) (by decide)
                  rw [e307] at b308
                  refine WP_goto 156 dX5_next_120 rfl ?_
                  exact WP_vret dX5_next_156 rfl ⟨⟨hI303, rfl, fr305, fr306⟩, rfl⟩
              · refine WP_aload_n dX5_next_94 rfl ?_
                refine WP_callV0 (k := 5) dX5_next_95 ⟨⟨⟨by decide, by decide⟩, zX5_readWord⟩, lX5_32, by decide, rfl, vX5_readWord.1, vX5_readWord.2⟩ (lyx_is hy 1 5 rfl) (sx_readWord hy hr hI269  ) (Nat.le_of_ble_eq_true rfl) ?_
                intro r I309 J310 Ra hq
                obtain ⟨⟨hI309, ec, fiI309, fjI309⟩, rfl⟩ := hq
                rw [ec]
                clear ec Ra
                have fr311 : fz 74 g [1] I I309 := fz_tr fr273 (fz_mono fiI309 (by decide))
                have fr312 : fz 74 g [1] J J310 := fz_tr fjJ200 (fz_mono fjI309 (by decide))
                have e313 : I309 (ad g 1) 1 = L := hI309.2
                have b314 := BT_get hI309.1 1 1 2 (0) (0) (900) (by decide) 1 (by decide) (by decide)
                rw [e313] at b314
                refine WP_goto 156 dX5_next_98 rfl ?_
                exact WP_vret dX5_next_156 rfl ⟨⟨hI309, rfl, fr311, fr312⟩, rfl⟩
            · refine WP_aload_n dX5_next_71 rfl ?_
              refine WQ_iconst (0) (0) dX5_next_72 rfl rfl (fun v315 hv315 => ?_)
              refine WQ_puti dX5_next_73 fX5_25 rfl rfl (lyx_is hy 1 5 rfl) (fun I316 eI316 => ?_)
              have hI316 : XI g n L I316 := by rw [eI316]; exact (xi_f hy hI269 (c := 1) (0) (0) (4) (by decide) (Or.inr (by decide)) (by decide) (by omega) (by omega))
              have e317 : I316 (ad g 1) 6 = w201 := by rw [eI316, pp_ne _ _ (Or.inr (by decide))]; exact e270
              have e318 : I316 (ad g 1) 1 = L := by rw [eI316, pp_ne _ _ (Or.inr (by decide))]; exact e271
              have e319 : I316 (ad g 1) 3 = w201 := by rw [eI316, pp_ne _ _ (Or.inr (by decide))]; exact e272
              have e320 : I316 (ad g 1) 2 = v315 := by rw [eI316, pp_self]
              have fr321 : fz 74 g [1] I I316 := by rw [eI316]; exact fzx_pp hy fr273 (by decide) (by decide)
              clear eI316
              refine WP_goto 156 dX5_next_76 rfl ?_
              exact WP_vret dX5_next_156 rfl ⟨⟨hI316, rfl, fr321, fjJ200⟩, rfl⟩
          · refine WP_aload_n dX5_next_39 rfl ?_
            refine WP_dup dX5_next_40 rfl ?_
            refine WQ_getim dX5_next_41 fX5_19 rfl (lyx_is hy 1 5 rfl) ew201 ?_
            refine WQ_iconst (1) (1) dX5_next_44 rfl rfl (fun v322 hv322 => ?_)
            refine WQ_iadd dX5_next_45 (by omega) (by omega) (fun v323 hv323 => ?_)
            refine WQ_puti dX5_next_46 fX5_19 rfl rfl (lyx_is hy 1 5 rfl) (fun I324 eI324 => ?_)
            have hI324 : XI g n L I324 := by rw [eI324]; exact (xi_f hy hI199 (c := 1) (0) (0) (900) (by decide) (Or.inr (by decide)) (by decide) (by omega) (by omega))
            have e325 : I324 (ad g 1) 1 = L := by rw [eI324, pp_ne _ _ (Or.inr (by decide))]; exact e203
            have e326 : I324 (ad g 1) 6 = v323 := by rw [eI324, pp_self]
            have fr327 : fz 74 g [1] I I324 := by rw [eI324]; exact fzx_pp hy fiI199 (by decide) (by decide)
            clear eI324
            refine WP_goto 0 dX5_next_49 rfl ?_
            exact WP_sub (fc rfl fn) (ihlp0_201 I324 J200 hI324 fr327 fjJ200 v323 e326 (by omega))
  obtain ⟨w328, ew328⟩ : ∃ w : Int32, I (ad g 1) 6 = w := ⟨_, rfl⟩
  have bw328 := BT_get hI.1 1 6 7 (0) (0) (900) (by decide) 6 (by decide) (by decide)
  rw [ew328] at bw328
  exact WP_sub (fc rfl fn) (lp0_201 _ I J hI fr0 frj0 w328 ew328 (Nat.lt_succ_self _))
