set_option maxHeartbeats 4000000 in
set_option maxRecDepth 100000 in
theorem sm_in {g : GG} {n : Int} {L : Int32} (hy : Ly g)  {I : pI} {J : pJ} {R : pR} (hr : Rf g R) (hI : MP g n L I) (a : Int64) (lo : Int64) (hi : Int64)  : SP g mX11_in [.long a, .long lo, .long hi] I J R (fun r I' J' R' => (I' = I ∧ J' = J ∧ R' = R) ∧ ∃ v : Int32, r = some (.int v) ∧ 0 ≤ v.toInt ∧ v.toInt ≤ 1 ∧ (v.toInt = 1 ↔ lo.toInt ≤ a.toInt ∧ a.toInt ≤ hi.toInt)) := by
  refine SP_of ⟨by decide, rfl⟩ (Nat.le_of_ble_eq_true rfl) ?_
  have e1 : I (ad g 0) 1 = L := hI.1.2
  have b2 := BT_get hI.1.1 0 1 2 (0) (0) (900) (by decide) 1 (by decide) (by decide)
  rw [e1] at b2
  refine WP_lload_n dX11_in_0 rfl ?_
  refine WP_lload_n dX11_in_1 rfl ?_
  refine WQ_lcmp dX11_in_2 (fun v3 av3 bv3 => ?_)
  refine WQ_if_lt 17 dX11_in_3 rfl (fun c3 => ?_) (fun c3 => ?_)
  · refine WQ_iconst (0) (0) dX11_in_17 rfl rfl (fun v5 hv5 => ?_)
    exact WP_zret dX11_in_18 rfl (nar_z (by omega)) ⟨⟨rfl, rfl, rfl⟩, _, rfl, by omega, by omega, by omega⟩
  · refine WP_lload_n dX11_in_6 rfl ?_
    refine WP_lload dX11_in_7 rfl ?_
    refine WQ_lcmp dX11_in_9 (fun v6 av6 bv6 => ?_)
    refine WQ_if_gt 17 dX11_in_10 rfl (fun c6 => ?_) (fun c6 => ?_)
    · refine WQ_iconst (0) (0) dX11_in_17 rfl rfl (fun v8 hv8 => ?_)
      exact WP_zret dX11_in_18 rfl (nar_z (by omega)) ⟨⟨rfl, rfl, rfl⟩, _, rfl, by omega, by omega, by omega⟩
    · refine WQ_iconst (1) (1) dX11_in_13 rfl rfl (fun v9 hv9 => ?_)
      refine WP_goto 18 dX11_in_14 rfl ?_
      exact WP_zret dX11_in_18 rfl (nar_z (by omega)) ⟨⟨rfl, rfl, rfl⟩, _, rfl, by omega, by omega, by omega⟩
set_option maxHeartbeats 4000000 in
set_option maxRecDepth 100000 in
theorem sm_isSmall {g : GG} {n : Int} {L : Int32} (hy : Ly g)  {I : pI} {J : pJ} {R : pR} (hr : Rf g R) (hI : MP g n L I) (c : Int32)  : SP g mX11_isSmall [.int c] I J R (fun r I' J' R' => (I' = I ∧ J' = J ∧ R' = R) ∧ ∃ v : Int32, r = some (.int v) ∧ 0 ≤ v.toInt ∧ v.toInt ≤ 1 ∧ (v.toInt = 1 ↔ 97 ≤ c.toInt ∧ c.toInt ≤ 122)) := by
  refine SP_of ⟨by decide, rfl⟩ (Nat.le_of_ble_eq_true rfl) ?_
  have e10 : I (ad g 0) 1 = L := hI.1.2
  have b11 := BT_get hI.1.1 0 1 2 (0) (0) (900) (by decide) 1 (by decide) (by decide)
  rw [e10] at b11
  refine WP_iload_n dX11_isSmall_0 rfl ?_
  refine WQ_bipush (97) (97) dX11_isSmall_1 rfl rfl (fun v12 hv12 => ?_)
  refine WQ_icmp_lt 16 dX11_isSmall_3 rfl (fun c12 => ?_) (fun c12 => ?_)
  · refine WQ_iconst (0) (0) dX11_isSmall_16 rfl rfl (fun v14 hv14 => ?_)
    exact WP_zret dX11_isSmall_17 rfl (nar_z (by omega)) ⟨⟨rfl, rfl, rfl⟩, _, rfl, by omega, by omega, by omega⟩
  · refine WP_iload_n dX11_isSmall_6 rfl ?_
    refine WQ_bipush (122) (122) dX11_isSmall_7 rfl rfl (fun v15 hv15 => ?_)
    refine WQ_icmp_gt 16 dX11_isSmall_9 rfl (fun c15 => ?_) (fun c15 => ?_)
    · refine WQ_iconst (0) (0) dX11_isSmall_16 rfl rfl (fun v17 hv17 => ?_)
      exact WP_zret dX11_isSmall_17 rfl (nar_z (by omega)) ⟨⟨rfl, rfl, rfl⟩, _, rfl, by omega, by omega, by omega⟩
    · refine WQ_iconst (1) (1) dX11_isSmall_12 rfl rfl (fun v18 hv18 => ?_)
      refine WP_goto 17 dX11_isSmall_13 rfl ?_
      exact WP_zret dX11_isSmall_17 rfl (nar_z (by omega)) ⟨⟨rfl, rfl, rfl⟩, _, rfl, by omega, by omega, by omega⟩
set_option maxHeartbeats 4000000 in
set_option maxRecDepth 100000 in
theorem sm_isDigit {g : GG} {n : Int} {L : Int32} (hy : Ly g)  {I : pI} {J : pJ} {R : pR} (hr : Rf g R) (hI : MP g n L I) (c : Int32)  : SP g mX11_isDigit [.int c] I J R (fun r I' J' R' => (I' = I ∧ J' = J ∧ R' = R) ∧ ∃ v : Int32, r = some (.int v) ∧ 0 ≤ v.toInt ∧ v.toInt ≤ 1 ∧ (v.toInt = 1 ↔ 48 ≤ c.toInt ∧ c.toInt ≤ 57)) := by
  refine SP_of ⟨by decide, rfl⟩ (Nat.le_of_ble_eq_true rfl) ?_
  have e19 : I (ad g 0) 1 = L := hI.1.2
  have b20 := BT_get hI.1.1 0 1 2 (0) (0) (900) (by decide) 1 (by decide) (by decide)
  rw [e19] at b20
  refine WP_iload_n dX11_isDigit_0 rfl ?_
  refine WQ_bipush (48) (48) dX11_isDigit_1 rfl rfl (fun v21 hv21 => ?_)
  refine WQ_icmp_lt 16 dX11_isDigit_3 rfl (fun c21 => ?_) (fun c21 => ?_)
  · refine WQ_iconst (0) (0) dX11_isDigit_16 rfl rfl (fun v23 hv23 => ?_)
    exact WP_zret dX11_isDigit_17 rfl (nar_z (by omega)) ⟨⟨rfl, rfl, rfl⟩, _, rfl, by omega, by omega, by omega⟩
  · refine WP_iload_n dX11_isDigit_6 rfl ?_
    refine WQ_bipush (57) (57) dX11_isDigit_7 rfl rfl (fun v24 hv24 => ?_)
    refine WQ_icmp_gt 16 dX11_isDigit_9 rfl (fun c24 => ?_) (fun c24 => ?_)
    · refine WQ_iconst (0) (0) dX11_isDigit_16 rfl rfl (fun v26 hv26 => ?_)
      exact WP_zret dX11_isDigit_17 rfl (nar_z (by omega)) ⟨⟨rfl, rfl, rfl⟩, _, rfl, by omega, by omega, by omega⟩
    · refine WQ_iconst (1) (1) dX11_isDigit_12 rfl rfl (fun v27 hv27 => ?_)
      refine WP_goto 17 dX11_isDigit_13 rfl ?_
      exact WP_zret dX11_isDigit_17 rfl (nar_z (by omega)) ⟨⟨rfl, rfl, rfl⟩, _, rfl, by omega, by omega, by omega⟩
set_option maxHeartbeats 4000000 in
set_option maxRecDepth 100000 in
theorem sm_byteAt {g : GG} {n : Int} {L : Int32} (hy : Ly g)  {I : pI} {J : pJ} {R : pR} (hr : Rf g R) (hI : MP g n L I) (k : Int32) (k_lo : 0 ≤ k.toInt) (k_hi : k.toInt ≤ 901) : SP g mX11_byteAt [.ref (ad g 0), .int k] I J R (fun r I' J' R' => (I' = I ∧ J' = J ∧ R' = R) ∧ ∃ v : Int32, r = some (.int v) ∧ ((I (ad g 0) 2).toInt ≤ k.toInt → v.toInt = 0)) := by
  refine SP_of ⟨by decide, rfl⟩ (Nat.le_of_ble_eq_true rfl) ?_
  have e28 : I (ad g 0) 1 = L := hI.1.2
  have b29 := BT_get hI.1.1 0 1 2 (0) (0) (900) (by decide) 1 (by decide) (by decide)
  rw [e28] at b29
  refine WP_iload_n dX11_byteAt_0 rfl ?_
  refine WP_aload_n dX11_byteAt_1 rfl ?_
  refine WQ_geti dX11_byteAt_2 fX11_13 rfl (ly_is hy 0 11 rfl) (BT_get hI.1.1 0 2 3 (0) (0) (900) (by decide) 2 (by decide) (by decide)) (fun v30 ev30 av30 bv30 => ?_)
  refine WQ_icmp_ge 21 dX11_byteAt_5 rfl (fun c30 => ?_) (fun c30 => ?_)
  · refine WQ_iconst (0) (0) dX11_byteAt_21 rfl rfl (fun v32 hv32 => ?_)
    exact WP_iret dX11_byteAt_22 rfl ⟨⟨rfl, rfl, rfl⟩, _, rfl, by (try rw [ev30]); omega⟩
  · refine WP_aload_n dX11_byteAt_8 rfl ?_
    refine WP_getr dX11_byteAt_9 fX11_16 rfl (ly_is hy 0 11 rfl) (rf hr 0 0 1 (by decide)) ?_
    refine WP_iload_n dX11_byteAt_12 rfl ?_
    refine WQ_baldu dX11_byteAt_13 (ly_is hy 1 12 rfl) (ly_n hy 1 900 rfl) (by omega) (by omega) (fun v33 => ?_)
    refine WQ_sipush (255) (255) dX11_byteAt_14 rfl rfl (fun v34 hv34 => ?_)
    refine WQ_iandu dX11_byteAt_17 (fun v35 => ?_)
    refine WP_goto 22 dX11_byteAt_18 rfl ?_
    exact WP_iret dX11_byteAt_22 rfl ⟨⟨rfl, rfl, rfl⟩, _, rfl, by (try rw [ev30]); omega⟩
set_option maxHeartbeats 4000000 in
set_option maxRecDepth 100000 in
theorem sm_putFour {g : GG} {n : Int} {L : Int32} (hy : Ly g)  {I : pI} {J : pJ} {R : pR} (hr : Rf g R) (hI : MP g n L I) (f : Int32)  (h4 : L.toInt ≤ 896) : SP g mX11_putFour [.ref (ad g 0), .int f] I J R (fun r I' J' R' => ((∃ L2 : Int32, MP g n L2 I' ∧ L2.toInt = L.toInt + 4) ∧ R' = R ∧ fz 49 g [0, 1] I I' ∧ fz 49 g [] J J' ∧ fs g [1] I I') ∧ r = none) := by
  refine SP_of ⟨by decide, rfl⟩ (Nat.le_of_ble_eq_true rfl) ?_
  have e52 : I (ad g 0) 1 = L := hI.1.2
  have b53 := BT_get hI.1.1 0 1 2 (0) (0) (900) (by decide) 1 (by decide) (by decide)
  rw [e52] at b53
  have fr0 : fz 49 g [0, 1] I I := fz_rf
  have frj0 : fz 49 g [] J J := fz_rf
  have frq0 : fs g [1] I I := fs_rf
  refine WQ_bipush (24) (24) dX11_putFour_0 rfl rfl (fun v54 hv54 => ?_)
  refine WP_istore_n (ls' := [(0, _), (1, _), (2, _)]) dX11_putFour_2 (by decide) rfl ?_
  have lp3_58 : ∀ (mz : Nat) (i55 : Int32) (L58 : Int32) (I56 : pI) (J57 : pJ), MP g n L58 I56 → fz 49 g [0, 1] I I56 → fz 49 g [] J J57 → fs g [1] I I56 → -8 ≤ i55.toInt → i55.toInt ≤ 24 → 8 * (L58.toInt - L.toInt) = 24 - i55.toInt → (i55.toInt + 8).toNat < mz → WP g mX11_putFour 3 [(0, .ref (ad g 0)), (1, .int f), (2, .int i55)] [] I56 J57 R (fun r I' J' R' => ((∃ L2 : Int32, MP g n L2 I' ∧ L2.toInt = L.toInt + 4) ∧ R' = R ∧ fz 49 g [0, 1] I I' ∧ fz 49 g [] J J' ∧ fs g [1] I I') ∧ r = none) := by
    intro mz
    induction mz with
    | zero =>
      intro i55 L58 I56 J57 hI56 fiI56 fjJ57 fqI56 ai55 bi55 j0_I56 hmlp3_58
      exact absurd hmlp3_58 (Nat.not_lt_zero _)
    | succ mz ihlp3_58 =>
      intro i55 L58 I56 J57 hI56 fiI56 fjJ57 fqI56 ai55 bi55 j0_I56 hmlp3_58
      have e60 : I56 (ad g 0) 1 = L58 := hI56.1.2
      have b61 := BT_get hI56.1.1 0 1 2 (0) (0) (900) (by decide) 1 (by decide) (by decide)
      rw [e60] at b61
      refine WP_iload_n dX11_putFour_3 rfl ?_
      refine WQ_if_lt 36 dX11_putFour_4 rfl (fun c61 => ?_) (fun c61 => ?_)
      · exact WP_vret dX11_putFour_36 rfl ⟨⟨⟨_, hI56, by omega⟩, rfl, fiI56, fjJ57, fqI56⟩, rfl⟩
      · refine WP_aload_n dX11_putFour_7 rfl ?_
        refine WP_getr dX11_putFour_8 fX11_16 rfl (ly_is hy 0 11 rfl) (rf hr 0 0 1 (by decide)) ?_
        refine WP_aload_n dX11_putFour_11 rfl ?_
        refine WQ_getim dX11_putFour_12 fX11_75 rfl (ly_is hy 0 11 rfl) e60 ?_
        refine WP_iload_n dX11_putFour_15 rfl ?_
        refine WP_iload_n dX11_putFour_16 rfl ?_
        refine WQ_ishru dX11_putFour_17 (fun v63 => ?_)
        refine WQ_i2b dX11_putFour_18 (fun v64 => ?_)
        refine WQ_bast dX11_putFour_19 (ly_is hy 1 12 rfl) (ly_n hy 1 900 rfl) (by omega) (by omega) (fun I65 v66 eI65 => ?_)
        have hI65 : MP g n L58 I65 := by rw [eI65]; exact (mp_w hy hI56 (c := 1) (mi_r0 hy hI56.1 (c := 1) (by decide) (Or.inl (by decide)) (by decide)) (by decide) (by decide) (Or.inl (by decide)))
        have e67 : I65 (ad g 0) 1 = L58 := by rw [eI65, pp_ne _ _ (Or.inl (ly_ne hy (by decide) (by decide) (by decide)))]; exact e60
        have fr68 : fs g [1] I I65 := by rw [eI65]; exact fs_ppn hy fqI56 (by decide) (by decide)
        have fr69 : fz 49 g [0, 1] I I65 := by rw [eI65]; exact fzm_pp hy fiI56 (by decide) (by decide)
        clear eI65
        refine WP_aload_n dX11_putFour_20 rfl ?_
        refine WP_dup dX11_putFour_21 rfl ?_
        refine WQ_getim dX11_putFour_22 fX11_75 rfl (ly_is hy 0 11 rfl) e67 ?_
        refine WQ_iconst (1) (1) dX11_putFour_25 rfl rfl (fun v70 hv70 => ?_)
        refine WQ_iadd dX11_putFour_26 (by omega) (by omega) (fun v71 hv71 => ?_)
        refine WQ_puti dX11_putFour_27 fX11_75 rfl rfl (ly_is hy 0 11 rfl) (fun I72 eI72 => ?_)
        have hI72 : MP g n v71 I72 := by rw [eI72]; exact (mp_w hy hI65 (c := 0) (mi_len hy hI65.1 (by omega) (by omega)) (by decide) (by decide) (Or.inr (by decide)))
        have e73 : I72 (ad g 0) 1 = v71 := by rw [eI72, pp_self]
        have fr74 : fs g [1] I I72 := by rw [eI72]; exact fs_pp0 fr68 (by decide)
        have fr75 : fz 49 g [0, 1] I I72 := by rw [eI72]; exact fzm_pp hy fr69 (by decide) (by decide)
        clear eI72
        refine WP_iinc (ls' := [(0, _), (1, _), (2, _)]) dX11_putFour_30 rfl (by decide) rfl ?_
        have hv76 : (i55 + Int32.ofInt (-8)).toInt = i55.toInt + (-8) := ia_n rfl (by omega) (by omega)
        generalize i55 + Int32.ofInt (-8) = v76 at hv76 ⊢
        refine WP_goto 3 dX11_putFour_33 rfl ?_
        exact WP_sub (fc rfl (fc rfl (fc rfl fn))) (ihlp3_58 v76 v71 I72 J57 hI72 fr75 fjJ57 fr74 (by omega) (by omega) (by omega) (by omega))
  exact WP_sub (fc rfl (fc rfl (fc rfl fn))) (lp3_58 _ v54 L I J hI fr0 frj0 frq0 (by omega) (by omega) (by omega) (Nat.lt_succ_self _))
set_option maxHeartbeats 4000000 in
set_option maxRecDepth 100000 in
theorem sm_feed {g : GG} {n : Int} {L : Int32} (hy : Ly g)  {I : pI} {J : pJ} {R : pR} (hr : Rf g R) (hI : MP g n L I) (a : Int32) (b : Int32) (c : Int32) (e : Int32) (f : Int32)  : SP g mX11_feed [.ref (ad g 0), .int a, .int b, .int c, .int e, .int f] I J R (fun r I' J' R' => ((∃ L2 : Int32, MP g n L2 I' ∧ (880 < L.toInt ∧ L2.toInt = L.toInt ∨ L.toInt ≤ 880 ∧ L2.toInt = L.toInt + 20)) ∧ R' = R ∧ fz 49 g [0, 1] I I' ∧ fz 49 g [] J J' ∧ fs g [1] I I') ∧ ∃ v : Int32, r = some (.int v) ∧ (880 < L.toInt ∧ v.toInt = -3 ∨ L.toInt ≤ 880 ∧ v.toInt = L.toInt + 20)) := by
  refine SP_of ⟨by decide, rfl⟩ (Nat.le_of_ble_eq_true rfl) ?_
  have e77 : I (ad g 0) 1 = L := hI.1.2
  have b78 := BT_get hI.1.1 0 1 2 (0) (0) (900) (by decide) 1 (by decide) (by decide)
  rw [e77] at b78
  have fr0 : fz 49 g [0, 1] I I := fz_rf
  have frj0 : fz 49 g [] J J := fz_rf
  have frq0 : fs g [1] I I := fs_rf
  refine WP_aload_n dX11_feed_0 rfl ?_
  refine WQ_getim dX11_feed_1 fX11_75 rfl (ly_is hy 0 11 rfl) e77 ?_
  refine WQ_bipush (20) (20) dX11_feed_4 rfl rfl (fun v79 hv79 => ?_)
  refine WQ_iadd dX11_feed_6 (by omega) (by omega) (fun v80 hv80 => ?_)
  refine WQ_sipush (900) (900) dX11_feed_7 rfl rfl (fun v81 hv81 => ?_)
  refine WQ_icmp_le 16 dX11_feed_10 rfl (fun c81 => ?_) (fun c81 => ?_)
  · refine WP_aload_n dX11_feed_16 rfl ?_
    refine WP_iload_n dX11_feed_17 rfl ?_
    refine WP_callV1 (k := 11) dX11_feed_18 ⟨⟨⟨by decide, by decide⟩, zX11_putFour⟩, lX11_319, by decide, rfl, vX11_putFour.1, vX11_putFour.2⟩ (ly_is hy 0 11 rfl) (sm_putFour hy hr hI a  (by omega)) (Nat.le_of_ble_eq_true rfl) ?_
    intro r I83 J84 Ra hq
    obtain ⟨⟨⟨L85, hI83, qL85⟩, ec, fiI83, fjI83, fqI83⟩, rfl⟩ := hq
    rw [ec]
    clear ec Ra
    have fr86 : fz 49 g [0, 1] I I83 := fz_tr fr0 (fz_mono fiI83 (by decide))
    have fr87 : fs g [1] I I83 := fs_tr frq0 (fs_mono fqI83 (by decide))
    have fr88 : fz 49 g [] J J84 := fz_tr frj0 (fz_mono fjI83 (by decide))
    have e89 : I83 (ad g 0) 1 = L85 := hI83.1.2
    have b90 := BT_get hI83.1.1 0 1 2 (0) (0) (900) (by decide) 1 (by decide) (by decide)
    rw [e89] at b90
    refine WP_aload_n dX11_feed_21 rfl ?_
    refine WP_iload_n dX11_feed_22 rfl ?_
    refine WP_callV1 (k := 11) dX11_feed_23 ⟨⟨⟨by decide, by decide⟩, zX11_putFour⟩, lX11_319, by decide, rfl, vX11_putFour.1, vX11_putFour.2⟩ (ly_is hy 0 11 rfl) (sm_putFour hy hr hI83 b  (by omega)) (Nat.le_of_ble_eq_true rfl) ?_
    intro r I91 J92 Ra hq
    obtain ⟨⟨⟨L93, hI91, qL93⟩, ec, fiI91, fjI91, fqI91⟩, rfl⟩ := hq
    rw [ec]
    clear ec Ra
    have fr94 : fz 49 g [0, 1] I I91 := fz_tr fr86 (fz_mono fiI91 (by decide))
    have fr95 : fs g [1] I I91 := fs_tr fr87 (fs_mono fqI91 (by decide))
    have fr96 : fz 49 g [] J J92 := fz_tr fr88 (fz_mono fjI91 (by decide))
    have e97 : I91 (ad g 0) 1 = L93 := hI91.1.2
    have b98 := BT_get hI91.1.1 0 1 2 (0) (0) (900) (by decide) 1 (by decide) (by decide)
    rw [e97] at b98
    refine WP_aload_n dX11_feed_26 rfl ?_
    refine WP_iload_n dX11_feed_27 rfl ?_
    refine WP_callV1 (k := 11) dX11_feed_28 ⟨⟨⟨by decide, by decide⟩, zX11_putFour⟩, lX11_319, by decide, rfl, vX11_putFour.1, vX11_putFour.2⟩ (ly_is hy 0 11 rfl) (sm_putFour hy hr hI91 c  (by omega)) (Nat.le_of_ble_eq_true rfl) ?_
    intro r I99 J100 Ra hq
    obtain ⟨⟨⟨L101, hI99, qL101⟩, ec, fiI99, fjI99, fqI99⟩, rfl⟩ := hq
    rw [ec]
    clear ec Ra
    have fr102 : fz 49 g [0, 1] I I99 := fz_tr fr94 (fz_mono fiI99 (by decide))
    have fr103 : fs g [1] I I99 := fs_tr fr95 (fs_mono fqI99 (by decide))
    have fr104 : fz 49 g [] J J100 := fz_tr fr96 (fz_mono fjI99 (by decide))
    have e105 : I99 (ad g 0) 1 = L101 := hI99.1.2
    have b106 := BT_get hI99.1.1 0 1 2 (0) (0) (900) (by decide) 1 (by decide) (by decide)
    rw [e105] at b106
    refine WP_aload_n dX11_feed_31 rfl ?_
    refine WP_iload dX11_feed_32 rfl ?_
    refine WP_callV1 (k := 11) dX11_feed_34 ⟨⟨⟨by decide, by decide⟩, zX11_putFour⟩, lX11_319, by decide, rfl, vX11_putFour.1, vX11_putFour.2⟩ (ly_is hy 0 11 rfl) (sm_putFour hy hr hI99 e  (by omega)) (Nat.le_of_ble_eq_true rfl) ?_
    intro r I107 J108 Ra hq
    obtain ⟨⟨⟨L109, hI107, qL109⟩, ec, fiI107, fjI107, fqI107⟩, rfl⟩ := hq
    rw [ec]
    clear ec Ra
    have fr110 : fz 49 g [0, 1] I I107 := fz_tr fr102 (fz_mono fiI107 (by decide))
    have fr111 : fs g [1] I I107 := fs_tr fr103 (fs_mono fqI107 (by decide))
    have fr112 : fz 49 g [] J J108 := fz_tr fr104 (fz_mono fjI107 (by decide))
    have e113 : I107 (ad g 0) 1 = L109 := hI107.1.2
    have b114 := BT_get hI107.1.1 0 1 2 (0) (0) (900) (by decide) 1 (by decide) (by decide)
    rw [e113] at b114
    refine WP_aload_n dX11_feed_37 rfl ?_
    refine WP_iload dX11_feed_38 rfl ?_
    refine WP_callV1 (k := 11) dX11_feed_40 ⟨⟨⟨by decide, by decide⟩, zX11_putFour⟩, lX11_319, by decide, rfl, vX11_putFour.1, vX11_putFour.2⟩ (ly_is hy 0 11 rfl) (sm_putFour hy hr hI107 f  (by omega)) (Nat.le_of_ble_eq_true rfl) ?_
    intro r I115 J116 Ra hq
    obtain ⟨⟨⟨L117, hI115, qL117⟩, ec, fiI115, fjI115, fqI115⟩, rfl⟩ := hq
    rw [ec]
    clear ec Ra
    have fr118 : fz 49 g [0, 1] I I115 := fz_tr fr110 (fz_mono fiI115 (by decide))
    have fr119 : fs g [1] I I115 := fs_tr fr111 (fs_mono fqI115 (by decide))
    have fr120 : fz 49 g [] J J116 := fz_tr fr112 (fz_mono fjI115 (by decide))
    have e121 : I115 (ad g 0) 1 = L117 := hI115.1.2
    have b122 := BT_get hI115.1.1 0 1 2 (0) (0) (900) (by decide) 1 (by decide) (by decide)
    rw [e121] at b122
    refine WP_aload_n dX11_feed_43 rfl ?_
    refine WQ_getim dX11_feed_44 fX11_75 rfl (ly_is hy 0 11 rfl) e121 ?_
    exact WP_iret dX11_feed_47 rfl ⟨⟨⟨_, hI115, by omega⟩, rfl, fr118, fr120, fr119⟩, _, rfl, by omega⟩
  · refine WQ_bipush (-3) (-3) dX11_feed_13 rfl rfl (fun v123 hv123 => ?_)
    exact WP_iret dX11_feed_15 rfl ⟨⟨⟨_, hI, by omega⟩, rfl, fr0, frj0, frq0⟩, _, rfl, by omega⟩
set_option maxHeartbeats 4000000 in
set_option maxRecDepth 100000 in
theorem sm_end {g : GG} {n : Int} {L : Int32} (hy : Ly g)  {I : pI} {J : pJ} {R : pR} (hr : Rf g R) (hI : MP g n L I) (a : Int32)  : SP g mX11_end [.ref (ad g 0), .int a] I J R (fun r I' J' R' => ((∃ L2 : Int32, MP g n L2 I' ∧ ((0 ≤ a.toInt ∧ a.toInt ≤ L.toInt) ∧ L2.toInt = a.toInt ∨ ¬ (0 ≤ a.toInt ∧ a.toInt ≤ L.toInt) ∧ L2.toInt = L.toInt)) ∧ R' = R ∧ fz 49 g [0] I I' ∧ fz 49 g [] J J' ∧ fs g [1] I I') ∧ ∃ v : Int32, r = some (.int v) ∧ ((0 ≤ a.toInt ∧ a.toInt ≤ L.toInt) ∧ v.toInt = a.toInt ∨ ¬ (0 ≤ a.toInt ∧ a.toInt ≤ L.toInt) ∧ v.toInt = -1)) := by
  refine SP_of ⟨by decide, rfl⟩ (Nat.le_of_ble_eq_true rfl) ?_
  have e124 : I (ad g 0) 1 = L := hI.1.2
  have b125 := BT_get hI.1.1 0 1 2 (0) (0) (900) (by decide) 1 (by decide) (by decide)
  rw [e124] at b125
  have fr0 : fz 49 g [0] I I := fz_rf
  have frj0 : fz 49 g [] J J := fz_rf
  have frq0 : fs g [1] I I := fs_rf
  refine WP_iload_n dX11_end_0 rfl ?_
  refine WQ_i2l dX11_end_1 (fun l126 hl126 => ?_)
  refine WP_lconst (0) dX11_end_2 rfl ?_
  obtain ⟨l127, hl127, el127⟩ : ∃ v : Int64, v.toInt = 0 ∧ (0 : Int64) = v := ⟨_, rfl, rfl⟩
  rw [el127]; clear el127
  refine WP_aload_n dX11_end_3 rfl ?_
  refine WQ_getim dX11_end_4 fX11_75 rfl (ly_is hy 0 11 rfl) e124 ?_
  refine WQ_i2l dX11_end_7 (fun l128 hl128 => ?_)
  refine WP_callS3 dX11_end_8 ⟨⟨⟨by decide, by decide⟩, zX11_in⟩, lX11_52, tX11_in⟩ (sm_in hy hr hI l126 l127 l128 ) (Nat.le_of_ble_eq_true rfl) ?_
  intro r Ia Ja Ra hq
  obtain ⟨⟨ea, eb, ec⟩, v129, rfl, av129, bv129, cv129⟩ := hq
  show WP _ _ _ _ (.int _ :: _) _ _ _ _
  rw [ea, eb, ec]
  clear ea eb ec Ia Ja Ra
  refine WQ_if_ne 16 dX11_end_11 rfl (fun c129 => ?_) (fun c129 => ?_)
  · refine WP_aload_n dX11_end_16 rfl ?_
    refine WP_iload_n dX11_end_17 rfl ?_
    refine WQ_puti dX11_end_18 fX11_75 rfl rfl (ly_is hy 0 11 rfl) (fun I131 eI131 => ?_)
    have hI131 : MP g n a I131 := by rw [eI131]; exact (mp_w hy hI (c := 0) (mi_len hy hI.1 (by omega) (by omega)) (by decide) (by decide) (Or.inr (by decide)))
    have e132 : I131 (ad g 0) 1 = a := by rw [eI131, pp_self]
    have fr133 : fs g [1] I I131 := by rw [eI131]; exact fs_pp0 frq0 (by decide)
    have fr134 : fz 49 g [0] I I131 := by rw [eI131]; exact fzm_pp hy fr0 (by decide) (by decide)
    clear eI131
    refine WP_iload_n dX11_end_21 rfl ?_
    exact WP_iret dX11_end_22 rfl ⟨⟨⟨_, hI131, by omega⟩, rfl, fr134, frj0, fr133⟩, _, rfl, by omega⟩
  · refine WQ_iconst (-1) (-1) dX11_end_14 rfl rfl (fun v135 hv135 => ?_)
    exact WP_iret dX11_end_15 rfl ⟨⟨⟨_, hI, by omega⟩, rfl, fr0, frj0, frq0⟩, _, rfl, by omega⟩
set_option maxHeartbeats 4000000 in
set_option maxRecDepth 100000 in
theorem sm_scan {g : GG} {n : Int} {L : Int32} (hy : Ly g)  {I : pI} {J : pJ} {R : pR} (hr : Rf g R) (hI : MP g n L I)   (hb : (I (ad g 0) 4).toInt ≤ (I (ad g 0) 2).toInt) : SP g mX11_scan [.ref (ad g 0)] I J R (fun r I' J' R' => (MP g n L I' ∧ R' = R ∧ fz 49 g [0] I I' ∧ fz 49 g [] J J' ∧ fs g [3, 4, 5, 6] I I' ∧ (I' (ad g 0) 4).toInt ≤ (I' (ad g 0) 2).toInt ∧ I' (ad g 0) 7 = I (ad g 0) 7 ∧ I' (ad g 0) 15 = I (ad g 0) 15 ∧ I' (ad g 0) 16 = I (ad g 0) 16) ∧ r = none) := by
  refine SP_of ⟨by decide, rfl⟩ (Nat.le_of_ble_eq_true rfl) ?_
  have e136 : I (ad g 0) 1 = L := hI.1.2
  have b137 := BT_get hI.1.1 0 1 2 (0) (0) (900) (by decide) 1 (by decide) (by decide)
  rw [e136] at b137
  have fr0 : fz 49 g [0] I I := fz_rf
  have frj0 : fz 49 g [] J J := fz_rf
  have frq0 : fs g [3, 4, 5, 6] I I := fs_rf
  obtain ⟨w138, ew138⟩ : ∃ w : Int32, I (ad g 0) 7 = w := ⟨_, rfl⟩
  have bw138 := BT_get hI.1.1 0 7 8 (-1) (0) (1000) (by decide) 7 (by decide) (by decide)
  rw [ew138] at bw138
  obtain ⟨w139, ew139⟩ : ∃ w : Int32, I (ad g 0) 15 = w := ⟨_, rfl⟩
  have bw139 := BT_get hI.1.1 0 15 16 (0) (0) (4) (by decide) 15 (by decide) (by decide)
  rw [ew139] at bw139
  obtain ⟨w140, ew140⟩ : ∃ w : Int32, I (ad g 0) 16 = w := ⟨_, rfl⟩
  have bw140 := BT_get hI.1.1 0 16 17 (0) (0) (3) (by decide) 16 (by decide) (by decide)
  rw [ew140] at bw140
  obtain ⟨w141, ew141⟩ : ∃ w : Int32, I (ad g 0) 4 = w := ⟨_, rfl⟩
  have bw141 := BT_get hI.1.1 0 4 5 (0) (0) (900) (by decide) 4 (by decide) (by decide)
  rw [ew141] at bw141
  obtain ⟨w142, ew142⟩ : ∃ w : Int32, I (ad g 0) 2 = w := ⟨_, rfl⟩
  have bw142 := BT_get hI.1.1 0 2 3 (0) (0) (900) (by decide) 2 (by decide) (by decide)
  rw [ew142] at bw142
  rw [ew141, ew142] at hb
  have lp0_149 : ∀ (mz : Nat)  (I143 : pI) (J144 : pJ), MP g n L I143 → fz 49 g [0] I I143 → fz 49 g [] J J144 → fs g [3, 4, 5, 6] I I143 → ∀ (w145 : Int32), I143 (ad g 0) 4 = w145 → ∀ (w146 : Int32), I143 (ad g 0) 2 = w146 → ∀ (w147 : Int32), I143 (ad g 0) 7 = w147 → ∀ (w148 : Int32), I143 (ad g 0) 15 = w148 → ∀ (w149 : Int32), I143 (ad g 0) 16 = w149 → w145.toInt ≤ w146.toInt → w147.toInt = w138.toInt → w148.toInt = w139.toInt → w149.toInt = w140.toInt → (901 - w145.toInt).toNat < mz → WP g mX11_scan 0 [(0, .ref (ad g 0))] [] I143 J144 R (fun r I' J' R' => (MP g n L I' ∧ R' = R ∧ fz 49 g [0] I I' ∧ fz 49 g [] J J' ∧ fs g [3, 4, 5, 6] I I' ∧ (I' (ad g 0) 4).toInt ≤ (I' (ad g 0) 2).toInt ∧ I' (ad g 0) 7 = I (ad g 0) 7 ∧ I' (ad g 0) 15 = I (ad g 0) 15 ∧ I' (ad g 0) 16 = I (ad g 0) 16) ∧ r = none) := by
    intro mz
    induction mz with
    | zero =>
      intro  I143 J144 hI143 fiI143 fjJ144 fqI143 w145 ew145 w146 ew146 w147 ew147 w148 ew148 w149 ew149 j0_I143 j1_I143 j2_I143 j3_I143 hmlp0_149
      exact absurd hmlp0_149 (Nat.not_lt_zero _)
    | succ mz ihlp0_149 =>
      intro  I143 J144 hI143 fiI143 fjJ144 fqI143 w145 ew145 w146 ew146 w147 ew147 w148 ew148 w149 ew149 j0_I143 j1_I143 j2_I143 j3_I143 hmlp0_149
      have bw145 := BT_get hI143.1.1 0 4 5 (0) (0) (900) (by decide) 4 (by decide) (by decide)
      rw [ew145] at bw145
      have bw146 := BT_get hI143.1.1 0 2 3 (0) (0) (900) (by decide) 2 (by decide) (by decide)
      rw [ew146] at bw146
      have bw147 := BT_get hI143.1.1 0 7 8 (-1) (0) (1000) (by decide) 7 (by decide) (by decide)
      rw [ew147] at bw147
      have bw148 := BT_get hI143.1.1 0 15 16 (0) (0) (4) (by decide) 15 (by decide) (by decide)
      rw [ew148] at bw148
      have bw149 := BT_get hI143.1.1 0 16 17 (0) (0) (3) (by decide) 16 (by decide) (by decide)
      rw [ew149] at bw149
      have e151 : I143 (ad g 0) 1 = L := hI143.1.2
      have b152 := BT_get hI143.1.1 0 1 2 (0) (0) (900) (by decide) 1 (by decide) (by decide)
      rw [e151] at b152
      refine WP_aload_n dX11_scan_0 rfl ?_
      refine WQ_getim dX11_scan_1 fX11_20 rfl (ly_is hy 0 11 rfl) ew145 ?_
      refine WP_aload_n dX11_scan_4 rfl ?_
      refine WQ_getim dX11_scan_5 fX11_13 rfl (ly_is hy 0 11 rfl) ew146 ?_
      refine WQ_icmp_ge 52 dX11_scan_8 rfl (fun c152 => ?_) (fun c152 => ?_)
      · refine WP_aload_n dX11_scan_52 rfl ?_
        refine WP_aload_n dX11_scan_53 rfl ?_
        refine WQ_getim dX11_scan_54 fX11_20 rfl (ly_is hy 0 11 rfl) ew145 ?_
        refine WQ_puti dX11_scan_57 fX11_7 rfl rfl (ly_is hy 0 11 rfl) (fun I154 eI154 => ?_)
        have hI154 : MP g n L I154 := by rw [eI154]; exact (mp_w hy hI143 (c := 0) (mi_f hy hI143.1 (c := 0) (0) (0) (900) (by decide) (Or.inr (by decide)) (by decide) (by omega) (by omega)) (by decide) (by decide) (Or.inr (by decide)))
        have e155 : I154 (ad g 0) 4 = w145 := by rw [eI154, pp_ne _ _ (Or.inr (by decide))]; exact ew145
        have e156 : I154 (ad g 0) 2 = w146 := by rw [eI154, pp_ne _ _ (Or.inr (by decide))]; exact ew146
        have e157 : I154 (ad g 0) 7 = w147 := by rw [eI154, pp_ne _ _ (Or.inr (by decide))]; exact ew147
        have e158 : I154 (ad g 0) 15 = w148 := by rw [eI154, pp_ne _ _ (Or.inr (by decide))]; exact ew148
        have e159 : I154 (ad g 0) 16 = w149 := by rw [eI154, pp_ne _ _ (Or.inr (by decide))]; exact ew149
        have e160 : I154 (ad g 0) 1 = L := by rw [eI154, pp_ne _ _ (Or.inr (by decide))]; exact e151
        have e161 : I154 (ad g 0) 3 = w145 := by rw [eI154, pp_self]
        have fr162 : fs g [3, 4, 5, 6] I I154 := by rw [eI154]; exact fs_pp0 fqI143 (by decide)
        have fr163 : fz 49 g [0] I I154 := by rw [eI154]; exact fzm_pp hy fiI143 (by decide) (by decide)
        clear eI154
        refine WP_aload_n dX11_scan_60 rfl ?_
        refine WP_aload_n dX11_scan_61 rfl ?_
        refine WQ_getim dX11_scan_62 fX11_7 rfl (ly_is hy 0 11 rfl) e161 ?_
        refine WP_callV1 (k := 11) dX11_scan_65 ⟨⟨⟨by decide, by decide⟩, zX11_byteAt⟩, lX11_23, by decide, rfl, vX11_byteAt.1, vX11_byteAt.2⟩ (ly_is hy 0 11 rfl) (sm_byteAt hy hr hI154 w145 (by omega) (by omega)) (Nat.le_of_ble_eq_true rfl) ?_
        intro r Ia Ja Ra hq
        obtain ⟨⟨ea, eb, ec⟩, v164, rfl, cv164⟩ := hq
        show WP _ _ _ _ (.int _ :: _) _ _ _ _
        rw [ea, eb, ec]
        clear ea eb ec Ia Ja Ra
        rw [e156] at cv164
        refine WP_istore_n (ls' := [(0, _), (1, _)]) dX11_scan_68 (by decide) rfl ?_
        refine WP_aload_n dX11_scan_69 rfl ?_
        refine WQ_getim dX11_scan_70 fX11_7 rfl (ly_is hy 0 11 rfl) e161 ?_
        refine WP_aload_n dX11_scan_73 rfl ?_
        refine WQ_getim dX11_scan_74 fX11_13 rfl (ly_is hy 0 11 rfl) e156 ?_
        refine WQ_icmp_ne 88 dX11_scan_77 rfl (fun c164 => ?_) (fun c164 => ?_)
        · refine WP_iload_n dX11_scan_88 rfl ?_
          refine WP_callS1 dX11_scan_89 ⟨⟨⟨by decide, by decide⟩, zX11_isSmall⟩, lX11_30, tX11_isSmall⟩ (sm_isSmall hy hr hI154 v164 ) (Nat.le_of_ble_eq_true rfl) ?_
          intro r Ia Ja Ra hq
          obtain ⟨⟨ea, eb, ec⟩, v166, rfl, av166, bv166, cv166⟩ := hq
          show WP _ _ _ _ (.int _ :: _) _ _ _ _
          rw [ea, eb, ec]
          clear ea eb ec Ia Ja Ra
          refine WQ_if_eq 148 dX11_scan_92 rfl (fun c166 => ?_) (fun c166 => ?_)
          · refine WP_iload_n dX11_scan_148 rfl ?_
            refine WP_callS1 dX11_scan_149 ⟨⟨⟨by decide, by decide⟩, zX11_isDigit⟩, lX11_34, tX11_isDigit⟩ (sm_isDigit hy hr hI154 v164 ) (Nat.le_of_ble_eq_true rfl) ?_
            intro r Ia Ja Ra hq
            obtain ⟨⟨ea, eb, ec⟩, v168, rfl, av168, bv168, cv168⟩ := hq
            show WP _ _ _ _ (.int _ :: _) _ _ _ _
            rw [ea, eb, ec]
            clear ea eb ec Ia Ja Ra
            refine WQ_if_eq 248 dX11_scan_152 rfl (fun c168 => ?_) (fun c168 => ?_)
            · refine WP_aload_n dX11_scan_248 rfl ?_
              refine WP_iload_n dX11_scan_249 rfl ?_
              refine WQ_bipush (59) (59) dX11_scan_250 rfl rfl (fun v170 hv170 => ?_)
              have jn260_173 : ∀ (v173 : Int32), 3 ≤ v173.toInt → v173.toInt ≤ 4 → WP g mX11_scan 260 [(0, .ref (ad g 0)), (1, .int v164)] [.int v173, .ref (ad g 0)] I154 J144 R (fun r I' J' R' => (MP g n L I' ∧ R' = R ∧ fz 49 g [0] I I' ∧ fz 49 g [] J J' ∧ fs g [3, 4, 5, 6] I I' ∧ (I' (ad g 0) 4).toInt ≤ (I' (ad g 0) 2).toInt ∧ I' (ad g 0) 7 = I (ad g 0) 7 ∧ I' (ad g 0) 15 = I (ad g 0) 15 ∧ I' (ad g 0) 16 = I (ad g 0) 16) ∧ r = none) := by
                intro v173 av173 bv173
                refine WQ_puti dX11_scan_260 fX11_27 rfl rfl (ly_is hy 0 11 rfl) (fun I175 eI175 => ?_)
                have hI175 : MP g n L I175 := by rw [eI175]; exact (mp_w hy hI154 (c := 0) (mi_f hy hI154.1 (c := 0) (0) (0) (4) (by decide) (Or.inr (by decide)) (by decide) (by omega) (by omega)) (by decide) (by decide) (Or.inr (by decide)))
                have e176 : I175 (ad g 0) 4 = w145 := by rw [eI175, pp_ne _ _ (Or.inr (by decide))]; exact e155
                have e177 : I175 (ad g 0) 2 = w146 := by rw [eI175, pp_ne _ _ (Or.inr (by decide))]; exact e156
                have e178 : I175 (ad g 0) 7 = w147 := by rw [eI175, pp_ne _ _ (Or.inr (by decide))]; exact e157
                have e179 : I175 (ad g 0) 15 = w148 := by rw [eI175, pp_ne _ _ (Or.inr (by decide))]; exact e158
                have e180 : I175 (ad g 0) 16 = w149 := by rw [eI175, pp_ne _ _ (Or.inr (by decide))]; exact e159
                have e181 : I175 (ad g 0) 1 = L := by rw [eI175, pp_ne _ _ (Or.inr (by decide))]; exact e160
                have e182 : I175 (ad g 0) 3 = w145 := by rw [eI175, pp_ne _ _ (Or.inr (by decide))]; exact e161
                have e183 : I175 (ad g 0) 5 = v173 := by rw [eI175, pp_self]
                have fr184 : fs g [3, 4, 5, 6] I I175 := by rw [eI175]; exact fs_pp0 fr162 (by decide)
                have fr185 : fz 49 g [0] I I175 := by rw [eI175]; exact fzm_pp hy fr163 (by decide) (by decide)
                clear eI175
                refine WP_aload_n dX11_scan_263 rfl ?_
                refine WP_dup dX11_scan_264 rfl ?_
                refine WQ_getim dX11_scan_265 fX11_20 rfl (ly_is hy 0 11 rfl) e176 ?_
                refine WQ_iconst (1) (1) dX11_scan_268 rfl rfl (fun v186 hv186 => ?_)
                refine WQ_iadd dX11_scan_269 (by omega) (by omega) (fun v187 hv187 => ?_)
                refine WQ_puti dX11_scan_270 fX11_20 rfl rfl (ly_is hy 0 11 rfl) (fun I188 eI188 => ?_)
                have hI188 : MP g n L I188 := by rw [eI188]; exact (mp_w hy hI175 (c := 0) (mi_f hy hI175.1 (c := 0) (0) (0) (900) (by decide) (Or.inr (by decide)) (by decide) (by omega) (by omega)) (by decide) (by decide) (Or.inr (by decide)))
                have e189 : I188 (ad g 0) 2 = w146 := by rw [eI188, pp_ne _ _ (Or.inr (by decide))]; exact e177
                have e190 : I188 (ad g 0) 7 = w147 := by rw [eI188, pp_ne _ _ (Or.inr (by decide))]; exact e178
                have e191 : I188 (ad g 0) 15 = w148 := by rw [eI188, pp_ne _ _ (Or.inr (by decide))]; exact e179
                have e192 : I188 (ad g 0) 16 = w149 := by rw [eI188, pp_ne _ _ (Or.inr (by decide))]; exact e180
                have e193 : I188 (ad g 0) 1 = L := by rw [eI188, pp_ne _ _ (Or.inr (by decide))]; exact e181
                have e194 : I188 (ad g 0) 3 = w145 := by rw [eI188, pp_ne _ _ (Or.inr (by decide))]; exact e182
                have e195 : I188 (ad g 0) 5 = v173 := by rw [eI188, pp_ne _ _ (Or.inr (by decide))]; exact e183
                have e196 : I188 (ad g 0) 4 = v187 := by rw [eI188, pp_self]
                have fr197 : fs g [3, 4, 5, 6] I I188 := by rw [eI188]; exact fs_pp0 fr184 (by decide)
                have fr198 : fz 49 g [0] I I188 := by rw [eI188]; exact fzm_pp hy fr185 (by decide) (by decide)
                clear eI188
                exact WP_vret dX11_scan_273 rfl ⟨⟨hI188, rfl, fr198, fjJ144, fr197, ⟨(by rw [e196, e189]; omega), (by rw [e190, ew138] <;> exact (eq32 _ _).mpr (by omega)), (by rw [e191, ew139] <;> exact (eq32 _ _).mpr (by omega)), (by rw [e192, ew140] <;> exact (eq32 _ _).mpr (by omega))⟩⟩, rfl⟩
              refine WQ_icmp_ne 259 dX11_scan_252 rfl (fun c198 => ?_) (fun c198 => ?_)
              · refine WQ_iconst (4) (4) dX11_scan_259 rfl rfl (fun v200 hv200 => ?_)
                exact WP_sub (fc rfl (fc rfl fn)) (jn260_173 v200 (by omega) (by omega))
              · refine WQ_iconst (3) (3) dX11_scan_255 rfl rfl (fun v201 hv201 => ?_)
                refine WP_goto 260 dX11_scan_256 rfl ?_
                exact WP_sub (fc rfl (fc rfl fn)) (jn260_173 v201 (by omega) (by omega))
            · refine WP_aload_n dX11_scan_155 rfl ?_
              refine WQ_iconst (0) (0) dX11_scan_156 rfl rfl (fun v202 hv202 => ?_)
              refine WQ_puti dX11_scan_157 fX11_37 rfl rfl (ly_is hy 0 11 rfl) (fun I203 eI203 => ?_)
              have hI203 : MP g n L I203 := by rw [eI203]; exact (mp_w hy hI154 (c := 0) (mi_f0 hy hI154.1 (c := 0) (by decide) (Or.inr (by decide)) (by decide)) (by decide) (by decide) (Or.inr (by decide)))
              have e204 : I203 (ad g 0) 4 = w145 := by rw [eI203, pp_ne _ _ (Or.inr (by decide))]; exact e155
              have e205 : I203 (ad g 0) 2 = w146 := by rw [eI203, pp_ne _ _ (Or.inr (by decide))]; exact e156
              have e206 : I203 (ad g 0) 7 = w147 := by rw [eI203, pp_ne _ _ (Or.inr (by decide))]; exact e157
              have e207 : I203 (ad g 0) 15 = w148 := by rw [eI203, pp_ne _ _ (Or.inr (by decide))]; exact e158
              have e208 : I203 (ad g 0) 16 = w149 := by rw [eI203, pp_ne _ _ (Or.inr (by decide))]; exact e159
              have e209 : I203 (ad g 0) 1 = L := by rw [eI203, pp_ne _ _ (Or.inr (by decide))]; exact e160
              have e210 : I203 (ad g 0) 3 = w145 := by rw [eI203, pp_ne _ _ (Or.inr (by decide))]; exact e161
              have e211 : I203 (ad g 0) 6 = v202 := by rw [eI203, pp_self]
              have fr212 : fs g [3, 4, 5, 6] I I203 := by rw [eI203]; exact fs_pp0 fr162 (by decide)
              have fr213 : fz 49 g [0] I I203 := by rw [eI203]; exact fzm_pp hy fr163 (by decide) (by decide)
              clear eI203
              have lp160_221 : ∀ (mz : Nat)  (I214 : pI) (J215 : pJ), MP g n L I214 → fz 49 g [0] I I214 → fz 49 g [] J J215 → fs g [3, 4, 5, 6] I I214 → ∀ (w216 : Int32), I214 (ad g 0) 4 = w216 → ∀ (w217 : Int32), I214 (ad g 0) 2 = w217 → ∀ (w218 : Int32), I214 (ad g 0) 7 = w218 → ∀ (w219 : Int32), I214 (ad g 0) 15 = w219 → ∀ (w220 : Int32), I214 (ad g 0) 16 = w220 → ∀ (w221 : Int32), I214 (ad g 0) 3 = w221 → w216.toInt ≤ w217.toInt → w218.toInt = w138.toInt → w219.toInt = w139.toInt → w220.toInt = w140.toInt → (901 - w216.toInt).toNat < mz → WP g mX11_scan 160 [(0, .ref (ad g 0)), (1, .int v164)] [] I214 J215 R (fun r I' J' R' => (MP g n L I' ∧ R' = R ∧ fz 49 g [0] I I' ∧ fz 49 g [] J J' ∧ fs g [3, 4, 5, 6] I I' ∧ (I' (ad g 0) 4).toInt ≤ (I' (ad g 0) 2).toInt ∧ I' (ad g 0) 7 = I (ad g 0) 7 ∧ I' (ad g 0) 15 = I (ad g 0) 15 ∧ I' (ad g 0) 16 = I (ad g 0) 16) ∧ r = none) := by
                intro mz
                induction mz with
                | zero =>
                  intro  I214 J215 hI214 fiI214 fjJ215 fqI214 w216 ew216 w217 ew217 w218 ew218 w219 ew219 w220 ew220 w221 ew221 j0_I214 j1_I214 j2_I214 j3_I214 hmlp160_221
                  exact absurd hmlp160_221 (Nat.not_lt_zero _)
                | succ mz ihlp160_221 =>
                  intro  I214 J215 hI214 fiI214 fjJ215 fqI214 w216 ew216 w217 ew217 w218 ew218 w219 ew219 w220 ew220 w221 ew221 j0_I214 j1_I214 j2_I214 j3_I214 hmlp160_221
                  have bw216 := BT_get hI214.1.1 0 4 5 (0) (0) (900) (by decide) 4 (by decide) (by decide)
                  rw [ew216] at bw216
                  have bw217 := BT_get hI214.1.1 0 2 3 (0) (0) (900) (by decide) 2 (by decide) (by decide)
                  rw [ew217] at bw217
                  have bw218 := BT_get hI214.1.1 0 7 8 (-1) (0) (1000) (by decide) 7 (by decide) (by decide)
                  rw [ew218] at bw218
                  have bw219 := BT_get hI214.1.1 0 15 16 (0) (0) (4) (by decide) 15 (by decide) (by decide)
                  rw [ew219] at bw219
                  have bw220 := BT_get hI214.1.1 0 16 17 (0) (0) (3) (by decide) 16 (by decide) (by decide)
                  rw [ew220] at bw220
                  have bw221 := BT_get hI214.1.1 0 3 4 (0) (0) (900) (by decide) 3 (by decide) (by decide)
                  rw [ew221] at bw221
                  have e223 : I214 (ad g 0) 1 = L := hI214.1.2
                  have b224 := BT_get hI214.1.1 0 1 2 (0) (0) (900) (by decide) 1 (by decide) (by decide)
                  rw [e223] at b224
                  refine WP_aload_n dX11_scan_160 rfl ?_
                  refine WP_aload_n dX11_scan_161 rfl ?_
                  refine WQ_getim dX11_scan_162 fX11_20 rfl (ly_is hy 0 11 rfl) ew216 ?_
                  refine WP_callV1 (k := 11) dX11_scan_165 ⟨⟨⟨by decide, by decide⟩, zX11_byteAt⟩, lX11_23, by decide, rfl, vX11_byteAt.1, vX11_byteAt.2⟩ (ly_is hy 0 11 rfl) (sm_byteAt hy hr hI214 w216 (by omega) (by omega)) (Nat.le_of_ble_eq_true rfl) ?_
                  intro r Ia Ja Ra hq
                  obtain ⟨⟨ea, eb, ec⟩, v225, rfl, cv225⟩ := hq
                  show WP _ _ _ _ (.int _ :: _) _ _ _ _
                  rw [ea, eb, ec]
                  clear ea eb ec Ia Ja Ra
                  rw [ew217] at cv225
                  refine WP_callS1 dX11_scan_168 ⟨⟨⟨by decide, by decide⟩, zX11_isDigit⟩, lX11_34, tX11_isDigit⟩ (sm_isDigit hy hr hI214 v225 ) (Nat.le_of_ble_eq_true rfl) ?_
                  intro r Ia Ja Ra hq
                  obtain ⟨⟨ea, eb, ec⟩, v226, rfl, av226, bv226, cv226⟩ := hq
                  show WP _ _ _ _ (.int _ :: _) _ _ _ _
                  rw [ea, eb, ec]
                  clear ea eb ec Ia Ja Ra
                  refine WQ_if_eq 223 dX11_scan_171 rfl (fun c226 => ?_) (fun c226 => ?_)
                  · refine WP_aload_n dX11_scan_223 rfl ?_
                    refine WP_aload_n dX11_scan_224 rfl ?_
                    refine WQ_getim dX11_scan_225 fX11_20 rfl (ly_is hy 0 11 rfl) ew216 ?_
                    refine WP_aload_n dX11_scan_228 rfl ?_
                    refine WQ_getim dX11_scan_229 fX11_7 rfl (ly_is hy 0 11 rfl) ew221 ?_
                    refine WQ_isub dX11_scan_232 (by omega) (by omega) (fun v228 hv228 => ?_)
                    refine WQ_iconst (4) (4) dX11_scan_233 rfl rfl (fun v229 hv229 => ?_)
                    have jn242_232 : ∀ (v232 : Int32), 2 ≤ v232.toInt → v232.toInt ≤ 4 → WP g mX11_scan 242 [(0, .ref (ad g 0)), (1, .int v164)] [.int v232, .ref (ad g 0)] I214 J215 R (fun r I' J' R' => (MP g n L I' ∧ R' = R ∧ fz 49 g [0] I I' ∧ fz 49 g [] J J' ∧ fs g [3, 4, 5, 6] I I' ∧ (I' (ad g 0) 4).toInt ≤ (I' (ad g 0) 2).toInt ∧ I' (ad g 0) 7 = I (ad g 0) 7 ∧ I' (ad g 0) 15 = I (ad g 0) 15 ∧ I' (ad g 0) 16 = I (ad g 0) 16) ∧ r = none) := by
                      intro v232 av232 bv232
                      refine WQ_puti dX11_scan_242 fX11_27 rfl rfl (ly_is hy 0 11 rfl) (fun I234 eI234 => ?_)
                      have hI234 : MP g n L I234 := by rw [eI234]; exact (mp_w hy hI214 (c := 0) (mi_f hy hI214.1 (c := 0) (0) (0) (4) (by decide) (Or.inr (by decide)) (by decide) (by omega) (by omega)) (by decide) (by decide) (Or.inr (by decide)))
                      have e235 : I234 (ad g 0) 4 = w216 := by rw [eI234, pp_ne _ _ (Or.inr (by decide))]; exact ew216
                      have e236 : I234 (ad g 0) 2 = w217 := by rw [eI234, pp_ne _ _ (Or.inr (by decide))]; exact ew217
                      have e237 : I234 (ad g 0) 7 = w218 := by rw [eI234, pp_ne _ _ (Or.inr (by decide))]; exact ew218
                      have e238 : I234 (ad g 0) 15 = w219 := by rw [eI234, pp_ne _ _ (Or.inr (by decide))]; exact ew219
                      have e239 : I234 (ad g 0) 16 = w220 := by rw [eI234, pp_ne _ _ (Or.inr (by decide))]; exact ew220
                      have e240 : I234 (ad g 0) 3 = w221 := by rw [eI234, pp_ne _ _ (Or.inr (by decide))]; exact ew221
                      have e241 : I234 (ad g 0) 1 = L := by rw [eI234, pp_ne _ _ (Or.inr (by decide))]; exact e223
                      have e242 : I234 (ad g 0) 5 = v232 := by rw [eI234, pp_self]
                      have fr243 : fs g [3, 4, 5, 6] I I234 := by rw [eI234]; exact fs_pp0 fqI214 (by decide)
                      have fr244 : fz 49 g [0] I I234 := by rw [eI234]; exact fzm_pp hy fiI214 (by decide) (by decide)
                      clear eI234
                      refine WP_goto 273 dX11_scan_245 rfl ?_
                      exact WP_vret dX11_scan_273 rfl ⟨⟨hI234, rfl, fr244, fjJ215, fr243, ⟨(by rw [e235, e236]; omega), (by rw [e237, ew138] <;> exact (eq32 _ _).mpr (by omega)), (by rw [e238, ew139] <;> exact (eq32 _ _).mpr (by omega)), (by rw [e239, ew140] <;> exact (eq32 _ _).mpr (by omega))⟩⟩, rfl⟩
                    refine WQ_icmp_le 241 dX11_scan_234 rfl (fun c244 => ?_) (fun c244 => ?_)
                    · refine WQ_iconst (2) (2) dX11_scan_241 rfl rfl (fun v246 hv246 => ?_)
                      exact WP_sub (fc rfl (fc rfl fn)) (jn242_232 v246 (by omega) (by omega))
                    · refine WQ_iconst (4) (4) dX11_scan_237 rfl rfl (fun v247 hv247 => ?_)
                      refine WP_goto 242 dX11_scan_238 rfl ?_
                      exact WP_sub (fc rfl (fc rfl fn)) (jn242_232 v247 (by omega) (by omega))
                  · refine WP_aload_n dX11_scan_174 rfl ?_
                    refine WQ_getim dX11_scan_175 fX11_20 rfl (ly_is hy 0 11 rfl) ew216 ?_
                    refine WP_aload_n dX11_scan_178 rfl ?_
                    refine WQ_getim dX11_scan_179 fX11_7 rfl (ly_is hy 0 11 rfl) ew221 ?_
                    refine WQ_isub dX11_scan_182 (by omega) (by omega) (fun v248 hv248 => ?_)
                    refine WQ_iconst (4) (4) dX11_scan_183 rfl rfl (fun v249 hv249 => ?_)
                    refine WQ_icmp_ge 210 dX11_scan_184 rfl (fun c249 => ?_) (fun c249 => ?_)
                    · refine WP_aload_n dX11_scan_210 rfl ?_
                      refine WP_dup dX11_scan_211 rfl ?_
                      refine WQ_getim dX11_scan_212 fX11_20 rfl (ly_is hy 0 11 rfl) ew216 ?_
                      refine WQ_iconst (1) (1) dX11_scan_215 rfl rfl (fun v251 hv251 => ?_)
                      refine WQ_iadd dX11_scan_216 (by omega) (by omega) (fun v252 hv252 => ?_)
                      refine WQ_puti dX11_scan_217 fX11_20 rfl rfl (ly_is hy 0 11 rfl) (fun I253 eI253 => ?_)
                      have hI253 : MP g n L I253 := by rw [eI253]; exact (mp_w hy hI214 (c := 0) (mi_f hy hI214.1 (c := 0) (0) (0) (900) (by decide) (Or.inr (by decide)) (by decide) (by omega) (by omega)) (by decide) (by decide) (Or.inr (by decide)))
                      have e254 : I253 (ad g 0) 2 = w217 := by rw [eI253, pp_ne _ _ (Or.inr (by decide))]; exact ew217
                      have e255 : I253 (ad g 0) 7 = w218 := by rw [eI253, pp_ne _ _ (Or.inr (by decide))]; exact ew218
                      have e256 : I253 (ad g 0) 15 = w219 := by rw [eI253, pp_ne _ _ (Or.inr (by decide))]; exact ew219
                      have e257 : I253 (ad g 0) 16 = w220 := by rw [eI253, pp_ne _ _ (Or.inr (by decide))]; exact ew220
                      have e258 : I253 (ad g 0) 3 = w221 := by rw [eI253, pp_ne _ _ (Or.inr (by decide))]; exact ew221
                      have e259 : I253 (ad g 0) 1 = L := by rw [eI253, pp_ne _ _ (Or.inr (by decide))]; exact e223
                      have e260 : I253 (ad g 0) 4 = v252 := by rw [eI253, pp_self]
                      have fr261 : fs g [3, 4, 5, 6] I I253 := by rw [eI253]; exact fs_pp0 fqI214 (by decide)
                      have fr262 : fz 49 g [0] I I253 := by rw [eI253]; exact fzm_pp hy fiI214 (by decide) (by decide)
                      clear eI253
                      refine WP_goto 160 dX11_scan_220 rfl ?_
                      exact WP_sub (fc rfl (fc rfl fn)) (ihlp160_221 I253 J215 hI253 fr262 fjJ215 fr261 v252 e260 w217 e254 w218 e255 w219 e256 w220 e257 w221 e258 (by omega) (by omega) (by omega) (by omega) (by omega))
                    · refine WP_aload_n dX11_scan_187 rfl ?_
                      refine WQ_bipush (10) (10) dX11_scan_188 rfl rfl (fun v263 hv263 => ?_)
                      refine WP_aload_n dX11_scan_190 rfl ?_
                      refine WQ_getiu dX11_scan_191 fX11_37 rfl (ly_is hy 0 11 rfl) (fun v264 ev264 => ?_)
                      refine WQ_imulu dX11_scan_194 (fun v265 => ?_)
                      refine WP_aload_n dX11_scan_195 rfl ?_
                      refine WP_aload_n dX11_scan_196 rfl ?_
                      refine WQ_getim dX11_scan_197 fX11_20 rfl (ly_is hy 0 11 rfl) ew216 ?_
                      refine WP_callV1 (k := 11) dX11_scan_200 ⟨⟨⟨by decide, by decide⟩, zX11_byteAt⟩, lX11_23, by decide, rfl, vX11_byteAt.1, vX11_byteAt.2⟩ (ly_is hy 0 11 rfl) (sm_byteAt hy hr hI214 w216 (by omega) (by omega)) (Nat.le_of_ble_eq_true rfl) ?_
                      intro r Ia Ja Ra hq
                      obtain ⟨⟨ea, eb, ec⟩, v266, rfl, cv266⟩ := hq
                      show WP _ _ _ _ (.int _ :: _) _ _ _ _
                      rw [ea, eb, ec]
                      clear ea eb ec Ia Ja Ra
                      rw [ew217] at cv266
                      refine WQ_iaddu dX11_scan_203 (fun v267 => ?_)
                      refine WQ_bipush (48) (48) dX11_scan_204 rfl rfl (fun v268 hv268 => ?_)
                      refine WQ_isubu dX11_scan_206 (fun v269 => ?_)
                      refine WQ_puti dX11_scan_207 fX11_37 rfl rfl (ly_is hy 0 11 rfl) (fun I270 eI270 => ?_)
                      have hI270 : MP g n L I270 := by rw [eI270]; exact (mp_w hy hI214 (c := 0) (mi_f0 hy hI214.1 (c := 0) (by decide) (Or.inr (by decide)) (by decide)) (by decide) (by decide) (Or.inr (by decide)))
                      have e271 : I270 (ad g 0) 4 = w216 := by rw [eI270, pp_ne _ _ (Or.inr (by decide))]; exact ew216
                      have e272 : I270 (ad g 0) 2 = w217 := by rw [eI270, pp_ne _ _ (Or.inr (by decide))]; exact ew217
                      have e273 : I270 (ad g 0) 7 = w218 := by rw [eI270, pp_ne _ _ (Or.inr (by decide))]; exact ew218
                      have e274 : I270 (ad g 0) 15 = w219 := by rw [eI270, pp_ne _ _ (Or.inr (by decide))]; exact ew219
                      have e275 : I270 (ad g 0) 16 = w220 := by rw [eI270, pp_ne _ _ (Or.inr (by decide))]; exact ew220
                      have e276 : I270 (ad g 0) 3 = w221 := by rw [eI270, pp_ne _ _ (Or.inr (by decide))]; exact ew221
                      have e277 : I270 (ad g 0) 1 = L := by rw [eI270, pp_ne _ _ (Or.inr (by decide))]; exact e223
                      have e278 : I270 (ad g 0) 6 = v269 := by rw [eI270, pp_self]
                      have fr279 : fs g [3, 4, 5, 6] I I270 := by rw [eI270]; exact fs_pp0 fqI214 (by decide)
                      have fr280 : fz 49 g [0] I I270 := by rw [eI270]; exact fzm_pp hy fiI214 (by decide) (by decide)
                      clear eI270
                      refine WP_aload_n dX11_scan_210 rfl ?_
                      refine WP_dup dX11_scan_211 rfl ?_
                      refine WQ_getim dX11_scan_212 fX11_20 rfl (ly_is hy 0 11 rfl) e271 ?_
                      refine WQ_iconst (1) (1) dX11_scan_215 rfl rfl (fun v281 hv281 => ?_)
                      refine WQ_iadd dX11_scan_216 (by omega) (by omega) (fun v282 hv282 => ?_)
                      refine WQ_puti dX11_scan_217 fX11_20 rfl rfl (ly_is hy 0 11 rfl) (fun I283 eI283 => ?_)
                      have hI283 : MP g n L I283 := by rw [eI283]; exact (mp_w hy hI270 (c := 0) (mi_f hy hI270.1 (c := 0) (0) (0) (900) (by decide) (Or.inr (by decide)) (by decide) (by omega) (by omega)) (by decide) (by decide) (Or.inr (by decide)))
                      have e284 : I283 (ad g 0) 2 = w217 := by rw [eI283, pp_ne _ _ (Or.inr (by decide))]; exact e272
                      have e285 : I283 (ad g 0) 7 = w218 := by rw [eI283, pp_ne _ _ (Or.inr (by decide))]; exact e273
                      have e286 : I283 (ad g 0) 15 = w219 := by rw [eI283, pp_ne _ _ (Or.inr (by decide))]; exact e274
                      have e287 : I283 (ad g 0) 16 = w220 := by rw [eI283, pp_ne _ _ (Or.inr (by decide))]; exact e275
                      have e288 : I283 (ad g 0) 3 = w221 := by rw [eI283, pp_ne _ _ (Or.inr (by decide))]; exact e276
                      have e289 : I283 (ad g 0) 1 = L := by rw [eI283, pp_ne _ _ (Or.inr (by decide))]; exact e277
                      have e290 : I283 (ad g 0) 6 = v269 := by rw [eI283, pp_ne _ _ (Or.inr (by decide))]; exact e278
                      have e291 : I283 (ad g 0) 4 = v282 := by rw [eI283, pp_self]
                      have fr292 : fs g [3, 4, 5, 6] I I283 := by rw [eI283]; exact fs_pp0 fr279 (by decide)
                      have fr293 : fz 49 g [0] I I283 := by rw [eI283]; exact fzm_pp hy fr280 (by decide) (by decide)
                      clear eI283
                      refine WP_goto 160 dX11_scan_220 rfl ?_
                      exact WP_sub (fc rfl (fc rfl fn)) (ihlp160_221 I283 J215 hI283 fr293 fjJ215 fr292 v282 e291 w217 e284 w218 e285 w219 e286 w220 e287 w221 e288 (by omega) (by omega) (by omega) (by omega) (by omega))
              exact WP_sub (fc rfl (fc rfl fn)) (lp160_221 _ I203 J144 hI203 fr213 fjJ144 fr212 w145 e204 w146 e205 w147 e206 w148 e207 w149 e208 w145 e210 (by omega) (by omega) (by omega) (by omega) (Nat.lt_succ_self _))
          · have lp95_301 : ∀ (mz : Nat)  (I294 : pI) (J295 : pJ), MP g n L I294 → fz 49 g [0] I I294 → fz 49 g [] J J295 → fs g [3, 4, 5, 6] I I294 → ∀ (w296 : Int32), I294 (ad g 0) 4 = w296 → ∀ (w297 : Int32), I294 (ad g 0) 2 = w297 → ∀ (w298 : Int32), I294 (ad g 0) 7 = w298 → ∀ (w299 : Int32), I294 (ad g 0) 15 = w299 → ∀ (w300 : Int32), I294 (ad g 0) 16 = w300 → ∀ (w301 : Int32), I294 (ad g 0) 3 = w301 → w296.toInt ≤ w297.toInt → w298.toInt = w138.toInt → w299.toInt = w139.toInt → w300.toInt = w140.toInt → (901 - w296.toInt).toNat < mz → WP g mX11_scan 95 [(0, .ref (ad g 0)), (1, .int v164)] [] I294 J295 R (fun r I' J' R' => (MP g n L I' ∧ R' = R ∧ fz 49 g [0] I I' ∧ fz 49 g [] J J' ∧ fs g [3, 4, 5, 6] I I' ∧ (I' (ad g 0) 4).toInt ≤ (I' (ad g 0) 2).toInt ∧ I' (ad g 0) 7 = I (ad g 0) 7 ∧ I' (ad g 0) 15 = I (ad g 0) 15 ∧ I' (ad g 0) 16 = I (ad g 0) 16) ∧ r = none) := by
              intro mz
              induction mz with
              | zero =>
                intro  I294 J295 hI294 fiI294 fjJ295 fqI294 w296 ew296 w297 ew297 w298 ew298 w299 ew299 w300 ew300 w301 ew301 j0_I294 j1_I294 j2_I294 j3_I294 hmlp95_301
                exact absurd hmlp95_301 (Nat.not_lt_zero _)
              | succ mz ihlp95_301 =>
                intro  I294 J295 hI294 fiI294 fjJ295 fqI294 w296 ew296 w297 ew297 w298 ew298 w299 ew299 w300 ew300 w301 ew301 j0_I294 j1_I294 j2_I294 j3_I294 hmlp95_301
                have bw296 := BT_get hI294.1.1 0 4 5 (0) (0) (900) (by decide) 4 (by decide) (by decide)
                rw [ew296] at bw296
                have bw297 := BT_get hI294.1.1 0 2 3 (0) (0) (900) (by decide) 2 (by decide) (by decide)
                rw [ew297] at bw297
                have bw298 := BT_get hI294.1.1 0 7 8 (-1) (0) (1000) (by decide) 7 (by decide) (by decide)
                rw [ew298] at bw298
                have bw299 := BT_get hI294.1.1 0 15 16 (0) (0) (4) (by decide) 15 (by decide) (by decide)
                rw [ew299] at bw299
                have bw300 := BT_get hI294.1.1 0 16 17 (0) (0) (3) (by decide) 16 (by decide) (by decide)
                rw [ew300] at bw300
                have bw301 := BT_get hI294.1.1 0 3 4 (0) (0) (900) (by decide) 3 (by decide) (by decide)
                rw [ew301] at bw301
                have e303 : I294 (ad g 0) 1 = L := hI294.1.2
                have b304 := BT_get hI294.1.1 0 1 2 (0) (0) (900) (by decide) 1 (by decide) (by decide)
                rw [e303] at b304
                refine WP_aload_n dX11_scan_95 rfl ?_
                refine WP_aload_n dX11_scan_96 rfl ?_
                refine WQ_getim dX11_scan_97 fX11_20 rfl (ly_is hy 0 11 rfl) ew296 ?_
                refine WP_callV1 (k := 11) dX11_scan_100 ⟨⟨⟨by decide, by decide⟩, zX11_byteAt⟩, lX11_23, by decide, rfl, vX11_byteAt.1, vX11_byteAt.2⟩ (ly_is hy 0 11 rfl) (sm_byteAt hy hr hI294 w296 (by omega) (by omega)) (Nat.le_of_ble_eq_true rfl) ?_
                intro r Ia Ja Ra hq
                obtain ⟨⟨ea, eb, ec⟩, v305, rfl, cv305⟩ := hq
                show WP _ _ _ _ (.int _ :: _) _ _ _ _
                rw [ea, eb, ec]
                clear ea eb ec Ia Ja Ra
                rw [ew297] at cv305
                refine WP_callS1 dX11_scan_103 ⟨⟨⟨by decide, by decide⟩, zX11_isSmall⟩, lX11_30, tX11_isSmall⟩ (sm_isSmall hy hr hI294 v305 ) (Nat.le_of_ble_eq_true rfl) ?_
                intro r Ia Ja Ra hq
                obtain ⟨⟨ea, eb, ec⟩, v306, rfl, av306, bv306, cv306⟩ := hq
                show WP _ _ _ _ (.int _ :: _) _ _ _ _
                rw [ea, eb, ec]
                clear ea eb ec Ia Ja Ra
                refine WQ_if_eq 122 dX11_scan_106 rfl (fun c306 => ?_) (fun c306 => ?_)
                · refine WP_aload_n dX11_scan_122 rfl ?_
                  refine WP_aload_n dX11_scan_123 rfl ?_
                  refine WQ_getim dX11_scan_124 fX11_20 rfl (ly_is hy 0 11 rfl) ew296 ?_
                  refine WP_aload_n dX11_scan_127 rfl ?_
                  refine WQ_getim dX11_scan_128 fX11_7 rfl (ly_is hy 0 11 rfl) ew301 ?_
                  refine WQ_isub dX11_scan_131 (by omega) (by omega) (fun v308 hv308 => ?_)
                  refine WQ_bipush (8) (8) dX11_scan_132 rfl rfl (fun v309 hv309 => ?_)
                  have jn142_312 : ∀ (v312 : Int32), 1 ≤ v312.toInt → v312.toInt ≤ 4 → WP g mX11_scan 142 [(0, .ref (ad g 0)), (1, .int v164)] [.int v312, .ref (ad g 0)] I294 J295 R (fun r I' J' R' => (MP g n L I' ∧ R' = R ∧ fz 49 g [0] I I' ∧ fz 49 g [] J J' ∧ fs g [3, 4, 5, 6] I I' ∧ (I' (ad g 0) 4).toInt ≤ (I' (ad g 0) 2).toInt ∧ I' (ad g 0) 7 = I (ad g 0) 7 ∧ I' (ad g 0) 15 = I (ad g 0) 15 ∧ I' (ad g 0) 16 = I (ad g 0) 16) ∧ r = none) := by
                    intro v312 av312 bv312
                    refine WQ_puti dX11_scan_142 fX11_27 rfl rfl (ly_is hy 0 11 rfl) (fun I314 eI314 => ?_)
                    have hI314 : MP g n L I314 := by rw [eI314]; exact (mp_w hy hI294 (c := 0) (mi_f hy hI294.1 (c := 0) (0) (0) (4) (by decide) (Or.inr (by decide)) (by decide) (by omega) (by omega)) (by decide) (by decide) (Or.inr (by decide)))
                    have e315 : I314 (ad g 0) 4 = w296 := by rw [eI314, pp_ne _ _ (Or.inr (by decide))]; exact ew296
                    have e316 : I314 (ad g 0) 2 = w297 := by rw [eI314, pp_ne _ _ (Or.inr (by decide))]; exact ew297
                    have e317 : I314 (ad g 0) 7 = w298 := by rw [eI314, pp_ne _ _ (Or.inr (by decide))]; exact ew298
                    have e318 : I314 (ad g 0) 15 = w299 := by rw [eI314, pp_ne _ _ (Or.inr (by decide))]; exact ew299
                    have e319 : I314 (ad g 0) 16 = w300 := by rw [eI314, pp_ne _ _ (Or.inr (by decide))]; exact ew300
                    have e320 : I314 (ad g 0) 3 = w301 := by rw [eI314, pp_ne _ _ (Or.inr (by decide))]; exact ew301
                    have e321 : I314 (ad g 0) 1 = L := by rw [eI314, pp_ne _ _ (Or.inr (by decide))]; exact e303
                    have e322 : I314 (ad g 0) 5 = v312 := by rw [eI314, pp_self]
                    have fr323 : fs g [3, 4, 5, 6] I I314 := by rw [eI314]; exact fs_pp0 fqI294 (by decide)
                    have fr324 : fz 49 g [0] I I314 := by rw [eI314]; exact fzm_pp hy fiI294 (by decide) (by decide)
                    clear eI314
                    refine WP_goto 273 dX11_scan_145 rfl ?_
                    exact WP_vret dX11_scan_273 rfl ⟨⟨hI314, rfl, fr324, fjJ295, fr323, ⟨(by rw [e315, e316]; omega), (by rw [e317, ew138] <;> exact (eq32 _ _).mpr (by omega)), (by rw [e318, ew139] <;> exact (eq32 _ _).mpr (by omega)), (by rw [e319, ew140] <;> exact (eq32 _ _).mpr (by omega))⟩⟩, rfl⟩
                  refine WQ_icmp_le 141 dX11_scan_134 rfl (fun c324 => ?_) (fun c324 => ?_)
                  · refine WQ_iconst (1) (1) dX11_scan_141 rfl rfl (fun v326 hv326 => ?_)
                    exact WP_sub (fc rfl (fc rfl fn)) (jn142_312 v326 (by omega) (by omega))
                  · refine WQ_iconst (4) (4) dX11_scan_137 rfl rfl (fun v327 hv327 => ?_)
                    refine WP_goto 142 dX11_scan_138 rfl ?_
                    exact WP_sub (fc rfl (fc rfl fn)) (jn142_312 v327 (by omega) (by omega))
                · refine WP_aload_n dX11_scan_109 rfl ?_
                  refine WP_dup dX11_scan_110 rfl ?_
                  refine WQ_getim dX11_scan_111 fX11_20 rfl (ly_is hy 0 11 rfl) ew296 ?_
                  refine WQ_iconst (1) (1) dX11_scan_114 rfl rfl (fun v328 hv328 => ?_)
                  refine WQ_iadd dX11_scan_115 (by omega) (by omega) (fun v329 hv329 => ?_)
                  refine WQ_puti dX11_scan_116 fX11_20 rfl rfl (ly_is hy 0 11 rfl) (fun I330 eI330 => ?_)
                  have hI330 : MP g n L I330 := by rw [eI330]; exact (mp_w hy hI294 (c := 0) (mi_f hy hI294.1 (c := 0) (0) (0) (900) (by decide) (Or.inr (by decide)) (by decide) (by omega) (by omega)) (by decide) (by decide) (Or.inr (by decide)))
                  have e331 : I330 (ad g 0) 2 = w297 := by rw [eI330, pp_ne _ _ (Or.inr (by decide))]; exact ew297
                  have e332 : I330 (ad g 0) 7 = w298 := by rw [eI330, pp_ne _ _ (Or.inr (by decide))]; exact ew298
                  have e333 : I330 (ad g 0) 15 = w299 := by rw [eI330, pp_ne _ _ (Or.inr (by decide))]; exact ew299
                  have e334 : I330 (ad g 0) 16 = w300 := by rw [eI330, pp_ne _ _ (Or.inr (by decide))]; exact ew300
                  have e335 : I330 (ad g 0) 3 = w301 := by rw [eI330, pp_ne _ _ (Or.inr (by decide))]; exact ew301
                  have e336 : I330 (ad g 0) 1 = L := by rw [eI330, pp_ne _ _ (Or.inr (by decide))]; exact e303
                  have e337 : I330 (ad g 0) 4 = v329 := by rw [eI330, pp_self]
                  have fr338 : fs g [3, 4, 5, 6] I I330 := by rw [eI330]; exact fs_pp0 fqI294 (by decide)
                  have fr339 : fz 49 g [0] I I330 := by rw [eI330]; exact fzm_pp hy fiI294 (by decide) (by decide)
                  clear eI330
                  refine WP_goto 95 dX11_scan_119 rfl ?_
                  exact WP_sub (fc rfl (fc rfl fn)) (ihlp95_301 I330 J295 hI330 fr339 fjJ295 fr338 v329 e337 w297 e331 w298 e332 w299 e333 w300 e334 w301 e335 (by omega) (by omega) (by omega) (by omega) (by omega))
            exact WP_sub (fc rfl (fc rfl fn)) (lp95_301 _ I154 J144 hI154 fr163 fjJ144 fr162 w145 e155 w146 e156 w147 e157 w148 e158 w149 e159 w145 e161 (by omega) (by omega) (by omega) (by omega) (Nat.lt_succ_self _))
        · refine WP_aload_n dX11_scan_80 rfl ?_
          refine WQ_iconst (0) (0) dX11_scan_81 rfl rfl (fun v340 hv340 => ?_)
          refine WQ_puti dX11_scan_82 fX11_27 rfl rfl (ly_is hy 0 11 rfl) (fun I341 eI341 => ?_)
          have hI341 : MP g n L I341 := by rw [eI341]; exact (mp_w hy hI154 (c := 0) (mi_f hy hI154.1 (c := 0) (0) (0) (4) (by decide) (Or.inr (by decide)) (by decide) (by omega) (by omega)) (by decide) (by decide) (Or.inr (by decide)))
          have e342 : I341 (ad g 0) 4 = w145 := by rw [eI341, pp_ne _ _ (Or.inr (by decide))]; exact e155
          have e343 : I341 (ad g 0) 2 = w146 := by rw [eI341, pp_ne _ _ (Or.inr (by decide))]; exact e156
          have e344 : I341 (ad g 0) 7 = w147 := by rw [eI341, pp_ne _ _ (Or.inr (by decide))]; exact e157
          have e345 : I341 (ad g 0) 15 = w148 := by rw [eI341, pp_ne _ _ (Or.inr (by decide))]; exact e158
          have e346 : I341 (ad g 0) 16 = w149 := by rw [eI341, pp_ne _ _ (Or.inr (by decide))]; exact e159
          have e347 : I341 (ad g 0) 1 = L := by rw [eI341, pp_ne _ _ (Or.inr (by decide))]; exact e160
          have e348 : I341 (ad g 0) 3 = w145 := by rw [eI341, pp_ne _ _ (Or.inr (by decide))]; exact e161
          have e349 : I341 (ad g 0) 5 = v340 := by rw [eI341, pp_self]
          have fr350 : fs g [3, 4, 5, 6] I I341 := by rw [eI341]; exact fs_pp0 fr162 (by decide)
          have fr351 : fz 49 g [0] I I341 := by rw [eI341]; exact fzm_pp hy fr163 (by decide) (by decide)
          clear eI341
          refine WP_goto 273 dX11_scan_85 rfl ?_
          exact WP_vret dX11_scan_273 rfl ⟨⟨hI341, rfl, fr351, fjJ144, fr350, ⟨(by rw [e342, e343]; omega), (by rw [e344, ew138] <;> exact (eq32 _ _).mpr (by omega)), (by rw [e345, ew139] <;> exact (eq32 _ _).mpr (by omega)), (by rw [e346, ew140] <;> exact (eq32 _ _).mpr (by omega))⟩⟩, rfl⟩
      · refine WP_aload_n dX11_scan_11 rfl ?_
        refine WP_getr dX11_scan_12 fX11_16 rfl (ly_is hy 0 11 rfl) (rf hr 0 0 1 (by decide)) ?_
        refine WP_aload_n dX11_scan_15 rfl ?_
        refine WQ_getim dX11_scan_16 fX11_20 rfl (ly_is hy 0 11 rfl) ew145 ?_
        refine WQ_baldu dX11_scan_19 (ly_is hy 1 12 rfl) (ly_n hy 1 900 rfl) (by omega) (by omega) (fun v352 => ?_)
        refine WQ_bipush (32) (32) dX11_scan_20 rfl rfl (fun v353 hv353 => ?_)
        refine WQ_icmp_eq 39 dX11_scan_22 rfl (fun c353 => ?_) (fun c353 => ?_)
        · refine WP_aload_n dX11_scan_39 rfl ?_
          refine WP_dup dX11_scan_40 rfl ?_
          refine WQ_getim dX11_scan_41 fX11_20 rfl (ly_is hy 0 11 rfl) ew145 ?_
          refine WQ_iconst (1) (1) dX11_scan_44 rfl rfl (fun v355 hv355 => ?_)
          refine WQ_iadd dX11_scan_45 (by omega) (by omega) (fun v356 hv356 => ?_)
          refine WQ_puti dX11_scan_46 fX11_20 rfl rfl (ly_is hy 0 11 rfl) (fun I357 eI357 => ?_)
          have hI357 : MP g n L I357 := by rw [eI357]; exact (mp_w hy hI143 (c := 0) (mi_f hy hI143.1 (c := 0) (0) (0) (900) (by decide) (Or.inr (by decide)) (by decide) (by omega) (by omega)) (by decide) (by decide) (Or.inr (by decide)))
          have e358 : I357 (ad g 0) 2 = w146 := by rw [eI357, pp_ne _ _ (Or.inr (by decide))]; exact ew146
          have e359 : I357 (ad g 0) 7 = w147 := by rw [eI357, pp_ne _ _ (Or.inr (by decide))]; exact ew147
          have e360 : I357 (ad g 0) 15 = w148 := by rw [eI357, pp_ne _ _ (Or.inr (by decide))]; exact ew148
          have e361 : I357 (ad g 0) 16 = w149 := by rw [eI357, pp_ne _ _ (Or.inr (by decide))]; exact ew149
          have e362 : I357 (ad g 0) 1 = L := by rw [eI357, pp_ne _ _ (Or.inr (by decide))]; exact e151
          have e363 : I357 (ad g 0) 4 = v356 := by rw [eI357, pp_self]
          have fr364 : fs g [3, 4, 5, 6] I I357 := by rw [eI357]; exact fs_pp0 fqI143 (by decide)
          have fr365 : fz 49 g [0] I I357 := by rw [eI357]; exact fzm_pp hy fiI143 (by decide) (by decide)
          clear eI357
          refine WP_goto 0 dX11_scan_49 rfl ?_
          exact WP_sub (fc rfl fn) (ihlp0_149 I357 J144 hI357 fr365 fjJ144 fr364 v356 e363 w146 e358 w147 e359 w148 e360 w149 e361 (by omega) (by omega) (by omega) (by omega) (by omega))
        · refine WP_aload_n dX11_scan_25 rfl ?_
          refine WP_getr dX11_scan_26 fX11_16 rfl (ly_is hy 0 11 rfl) (rf hr 0 0 1 (by decide)) ?_
          refine WP_aload_n dX11_scan_29 rfl ?_
          refine WQ_getim dX11_scan_30 fX11_20 rfl (ly_is hy 0 11 rfl) ew145 ?_
          refine WQ_baldu dX11_scan_33 (ly_is hy 1 12 rfl) (ly_n hy 1 900 rfl) (by omega) (by omega) (fun v366 => ?_)
          refine WQ_bipush (10) (10) dX11_scan_34 rfl rfl (fun v367 hv367 => ?_)
          refine WQ_icmp_ne 52 dX11_scan_36 rfl (fun c367 => ?_) (fun c367 => ?_)
          · refine WP_aload_n dX11_scan_52 rfl ?_
            refine WP_aload_n dX11_scan_53 rfl ?_
            refine WQ_getim dX11_scan_54 fX11_20 rfl (ly_is hy 0 11 rfl) ew145 ?_
            refine WQ_puti dX11_scan_57 fX11_7 rfl rfl (ly_is hy 0 11 rfl) (fun I369 eI369 => ?_)
            have hI369 : MP g n L I369 := by rw [eI369]; exact (mp_w hy hI143 (c := 0) (mi_f hy hI143.1 (c := 0) (0) (0) (900) (by decide) (Or.inr (by decide)) (by decide) (by omega) (by omega)) (by decide) (by decide) (Or.inr (by decide)))
            have e370 : I369 (ad g 0) 4 = w145 := by rw [eI369, pp_ne _ _ (Or.inr (by decide))]; exact ew145
            have e371 : I369 (ad g 0) 2 = w146 := by rw [eI369, pp_ne _ _ (Or.inr (by decide))]; exact ew146
            have e372 : I369 (ad g 0) 7 = w147 := by rw [eI369, pp_ne _ _ (Or.inr (by decide))]; exact ew147
            have e373 : I369 (ad g 0) 15 = w148 := by rw [eI369, pp_ne _ _ (Or.inr (by decide))]; exact ew148
            have e374 : I369 (ad g 0) 16 = w149 := by rw [eI369, pp_ne _ _ (Or.inr (by decide))]; exact ew149
            have e375 : I369 (ad g 0) 1 = L := by rw [eI369, pp_ne _ _ (Or.inr (by decide))]; exact e151
            have e376 : I369 (ad g 0) 3 = w145 := by rw [eI369, pp_self]
            have fr377 : fs g [3, 4, 5, 6] I I369 := by rw [eI369]; exact fs_pp0 fqI143 (by decide)
            have fr378 : fz 49 g [0] I I369 := by rw [eI369]; exact fzm_pp hy fiI143 (by decide) (by decide)
            clear eI369
            refine WP_aload_n dX11_scan_60 rfl ?_
            refine WP_aload_n dX11_scan_61 rfl ?_
            refine WQ_getim dX11_scan_62 fX11_7 rfl (ly_is hy 0 11 rfl) e376 ?_
            refine WP_callV1 (k := 11) dX11_scan_65 ⟨⟨⟨by decide, by decide⟩, zX11_byteAt⟩, lX11_23, by decide, rfl, vX11_byteAt.1, vX11_byteAt.2⟩ (ly_is hy 0 11 rfl) (sm_byteAt hy hr hI369 w145 (by omega) (by omega)) (Nat.le_of_ble_eq_true rfl) ?_
            intro r Ia Ja Ra hq
            obtain ⟨⟨ea, eb, ec⟩, v379, rfl, cv379⟩ := hq
            show WP _ _ _ _ (.int _ :: _) _ _ _ _
            rw [ea, eb, ec]
            clear ea eb ec Ia Ja Ra
            rw [e371] at cv379
            refine WP_istore_n (ls' := [(0, _), (1, _)]) dX11_scan_68 (by decide) rfl ?_
            refine WP_aload_n dX11_scan_69 rfl ?_
            refine WQ_getim dX11_scan_70 fX11_7 rfl (ly_is hy 0 11 rfl) e376 ?_
            refine WP_aload_n dX11_scan_73 rfl ?_
            refine WQ_getim dX11_scan_74 fX11_13 rfl (ly_is hy 0 11 rfl) e371 ?_
            refine WQ_icmp_ne 88 dX11_scan_77 rfl (fun c379 => ?_) (fun c379 => ?_)
            · refine WP_iload_n dX11_scan_88 rfl ?_
              refine WP_callS1 dX11_scan_89 ⟨⟨⟨by decide, by decide⟩, zX11_isSmall⟩, lX11_30, tX11_isSmall⟩ (sm_isSmall hy hr hI369 v379 ) (Nat.le_of_ble_eq_true rfl) ?_
              intro r Ia Ja Ra hq
              obtain ⟨⟨ea, eb, ec⟩, v381, rfl, av381, bv381, cv381⟩ := hq
              show WP _ _ _ _ (.int _ :: _) _ _ _ _
              rw [ea, eb, ec]
              clear ea eb ec Ia Ja Ra
              refine WQ_if_eq 148 dX11_scan_92 rfl (fun c381 => ?_) (fun c381 => ?_)
              · refine WP_iload_n dX11_scan_148 rfl ?_
                refine WP_callS1 dX11_scan_149 ⟨⟨⟨by decide, by decide⟩, zX11_isDigit⟩, lX11_34, tX11_isDigit⟩ (sm_isDigit hy hr hI369 v379 ) (Nat.le_of_ble_eq_true rfl) ?_
                intro r Ia Ja Ra hq
                obtain ⟨⟨ea, eb, ec⟩, v383, rfl, av383, bv383, cv383⟩ := hq
                show WP _ _ _ _ (.int _ :: _) _ _ _ _
                rw [ea, eb, ec]
                clear ea eb ec Ia Ja Ra
                refine WQ_if_eq 248 dX11_scan_152 rfl (fun c383 => ?_) (fun c383 => ?_)
                · refine WP_aload_n dX11_scan_248 rfl ?_
                  refine WP_iload_n dX11_scan_249 rfl ?_
                  refine WQ_bipush (59) (59) dX11_scan_250 rfl rfl (fun v385 hv385 => ?_)
                  have jn260_388 : ∀ (v388 : Int32), 3 ≤ v388.toInt → v388.toInt ≤ 4 → WP g mX11_scan 260 [(0, .ref (ad g 0)), (1, .int v379)] [.int v388, .ref (ad g 0)] I369 J144 R (fun r I' J' R' => (MP g n L I' ∧ R' = R ∧ fz 49 g [0] I I' ∧ fz 49 g [] J J' ∧ fs g [3, 4, 5, 6] I I' ∧ (I' (ad g 0) 4).toInt ≤ (I' (ad g 0) 2).toInt ∧ I' (ad g 0) 7 = I (ad g 0) 7 ∧ I' (ad g 0) 15 = I (ad g 0) 15 ∧ I' (ad g 0) 16 = I (ad g 0) 16) ∧ r = none) := by
                    intro v388 av388 bv388
                    refine WQ_puti dX11_scan_260 fX11_27 rfl rfl (ly_is hy 0 11 rfl) (fun I390 eI390 => ?_)
                    have hI390 : MP g n L I390 := by rw [eI390]; exact (mp_w hy hI369 (c := 0) (mi_f hy hI369.1 (c := 0) (0) (0) (4) (by decide) (Or.inr (by decide)) (by decide) (by omega) (by omega)) (by decide) (by decide) (Or.inr (by decide)))
                    have e391 : I390 (ad g 0) 4 = w145 := by rw [eI390, pp_ne _ _ (Or.inr (by decide))]; exact e370
                    have e392 : I390 (ad g 0) 2 = w146 := by rw [eI390, pp_ne _ _ (Or.inr (by decide))]; exact e371
                    have e393 : I390 (ad g 0) 7 = w147 := by rw [eI390, pp_ne _ _ (Or.inr (by decide))]; exact e372
                    have e394 : I390 (ad g 0) 15 = w148 := by rw [eI390, pp_ne _ _ (Or.inr (by decide))]; exact e373
                    have e395 : I390 (ad g 0) 16 = w149 := by rw [eI390, pp_ne _ _ (Or.inr (by decide))]; exact e374
                    have e396 : I390 (ad g 0) 1 = L := by rw [eI390, pp_ne _ _ (Or.inr (by decide))]; exact e375
                    have e397 : I390 (ad g 0) 3 = w145 := by rw [eI390, pp_ne _ _ (Or.inr (by decide))]; exact e376
                    have e398 : I390 (ad g 0) 5 = v388 := by rw [eI390, pp_self]
                    have fr399 : fs g [3, 4, 5, 6] I I390 := by rw [eI390]; exact fs_pp0 fr377 (by decide)
                    have fr400 : fz 49 g [0] I I390 := by rw [eI390]; exact fzm_pp hy fr378 (by decide) (by decide)
                    clear eI390
                    refine WP_aload_n dX11_scan_263 rfl ?_
                    refine WP_dup dX11_scan_264 rfl ?_
                    refine WQ_getim dX11_scan_265 fX11_20 rfl (ly_is hy 0 11 rfl) e391 ?_
                    refine WQ_iconst (1) (1) dX11_scan_268 rfl rfl (fun v401 hv401 => ?_)
                    refine WQ_iadd dX11_scan_269 (by omega) (by omega) (fun v402 hv402 => ?_)
                    refine WQ_puti dX11_scan_270 fX11_20 rfl rfl (ly_is hy 0 11 rfl) (fun I403 eI403 => ?_)
                    have hI403 : MP g n L I403 := by rw [eI403]; exact (mp_w hy hI390 (c := 0) (mi_f hy hI390.1 (c := 0) (0) (0) (900) (by decide) (Or.inr (by decide)) (by decide) (by omega) (by omega)) (by decide) (by decide) (Or.inr (by decide)))
                    have e404 : I403 (ad g 0) 2 = w146 := by rw [eI403, pp_ne _ _ (Or.inr (by decide))]; exact e392
                    have e405 : I403 (ad g 0) 7 = w147 := by rw [eI403, pp_ne _ _ (Or.inr (by decide))]; exact e393
                    have e406 : I403 (ad g 0) 15 = w148 := by rw [eI403, pp_ne _ _ (Or.inr (by decide))]; exact e394
                    have e407 : I403 (ad g 0) 16 = w149 := by rw [eI403, pp_ne _ _ (Or.inr (by decide))]; exact e395
                    have e408 : I403 (ad g 0) 1 = L := by rw [eI403, pp_ne _ _ (Or.inr (by decide))]; exact e396
                    have e409 : I403 (ad g 0) 3 = w145 := by rw [eI403, pp_ne _ _ (Or.inr (by decide))]; exact e397
                    have e410 : I403 (ad g 0) 5 = v388 := by rw [eI403, pp_ne _ _ (Or.inr (by decide))]; exact e398
                    have e411 : I403 (ad g 0) 4 = v402 := by rw [eI403, pp_self]
                    have fr412 : fs g [3, 4, 5, 6] I I403 := by rw [eI403]; exact fs_pp0 fr399 (by decide)
                    have fr413 : fz 49 g [0] I I403 := by rw [eI403]; exact fzm_pp hy fr400 (by decide) (by decide)
                    clear eI403
                    exact WP_vret dX11_scan_273 rfl ⟨⟨hI403, rfl, fr413, fjJ144, fr412, ⟨(by rw [e411, e404]; omega), (by rw [e405, ew138] <;> exact (eq32 _ _).mpr (by omega)), (by rw [e406, ew139] <;> exact (eq32 _ _).mpr (by omega)), (by rw [e407, ew140] <;> exact (eq32 _ _).mpr (by omega))⟩⟩, rfl⟩
                  refine WQ_icmp_ne 259 dX11_scan_252 rfl (fun c413 => ?_) (fun c413 => ?_)
                  · refine WQ_iconst (4) (4) dX11_scan_259 rfl rfl (fun v415 hv415 => ?_)
                    exact WP_sub (fc rfl (fc rfl fn)) (jn260_388 v415 (by omega) (by omega))
                  · refine WQ_iconst (3) (3) dX11_scan_255 rfl rfl (fun v416 hv416 => ?_)
                    refine WP_goto 260 dX11_scan_256 rfl ?_
                    exact WP_sub (fc rfl (fc rfl fn)) (jn260_388 v416 (by omega) (by omega))
                · refine WP_aload_n dX11_scan_155 rfl ?_
                  refine WQ_iconst (0) (0) dX11_scan_156 rfl rfl (fun v417 hv417 => ?_)
                  refine WQ_puti dX11_scan_157 fX11_37 rfl rfl (ly_is hy 0 11 rfl) (fun I418 eI418 => ?_)
                  have hI418 : MP g n L I418 := by rw [eI418]; exact (mp_w hy hI369 (c := 0) (mi_f0 hy hI369.1 (c := 0) (by decide) (Or.inr (by decide)) (by decide)) (by decide) (by decide) (Or.inr (by decide)))
                  have e419 : I418 (ad g 0) 4 = w145 := by rw [eI418, pp_ne _ _ (Or.inr (by decide))]; exact e370
                  have e420 : I418 (ad g 0) 2 = w146 := by rw [eI418, pp_ne _ _ (Or.inr (by decide))]; exact e371
                  have e421 : I418 (ad g 0) 7 = w147 := by rw [eI418, pp_ne _ _ (Or.inr (by decide))]; exact e372
                  have e422 : I418 (ad g 0) 15 = w148 := by rw [eI418, pp_ne _ _ (Or.inr (by decide))]; exact e373
                  have e423 : I418 (ad g 0) 16 = w149 := by rw [eI418, pp_ne _ _ (Or.inr (by decide))]; exact e374
                  have e424 : I418 (ad g 0) 1 = L := by rw [eI418, pp_ne _ _ (Or.inr (by decide))]; exact e375
                  have e425 : I418 (ad g 0) 3 = w145 := by rw [eI418, pp_ne _ _ (Or.inr (by decide))]; exact e376
                  have e426 : I418 (ad g 0) 6 = v417 := by rw [eI418, pp_self]
                  have fr427 : fs g [3, 4, 5, 6] I I418 := by rw [eI418]; exact fs_pp0 fr377 (by decide)
                  have fr428 : fz 49 g [0] I I418 := by rw [eI418]; exact fzm_pp hy fr378 (by decide) (by decide)
                  clear eI418
                  have lp160_436 : ∀ (mz : Nat)  (I429 : pI) (J430 : pJ), MP g n L I429 → fz 49 g [0] I I429 → fz 49 g [] J J430 → fs g [3, 4, 5, 6] I I429 → ∀ (w431 : Int32), I429 (ad g 0) 4 = w431 → ∀ (w432 : Int32), I429 (ad g 0) 2 = w432 → ∀ (w433 : Int32), I429 (ad g 0) 7 = w433 → ∀ (w434 : Int32), I429 (ad g 0) 15 = w434 → ∀ (w435 : Int32), I429 (ad g 0) 16 = w435 → ∀ (w436 : Int32), I429 (ad g 0) 3 = w436 → w431.toInt ≤ w432.toInt → w433.toInt = w138.toInt → w434.toInt = w139.toInt → w435.toInt = w140.toInt → (901 - w431.toInt).toNat < mz → WP g mX11_scan 160 [(0, .ref (ad g 0)), (1, .int v379)] [] I429 J430 R (fun r I' J' R' => (MP g n L I' ∧ R' = R ∧ fz 49 g [0] I I' ∧ fz 49 g [] J J' ∧ fs g [3, 4, 5, 6] I I' ∧ (I' (ad g 0) 4).toInt ≤ (I' (ad g 0) 2).toInt ∧ I' (ad g 0) 7 = I (ad g 0) 7 ∧ I' (ad g 0) 15 = I (ad g 0) 15 ∧ I' (ad g 0) 16 = I (ad g 0) 16) ∧ r = none) := by
                    intro mz
                    induction mz with
                    | zero =>
                      intro  I429 J430 hI429 fiI429 fjJ430 fqI429 w431 ew431 w432 ew432 w433 ew433 w434 ew434 w435 ew435 w436 ew436 j0_I429 j1_I429 j2_I429 j3_I429 hmlp160_436
                      exact absurd hmlp160_436 (Nat.not_lt_zero _)
                    | succ mz ihlp160_436 =>
                      intro  I429 J430 hI429 fiI429 fjJ430 fqI429 w431 ew431 w432 ew432 w433 ew433 w434 ew434 w435 ew435 w436 ew436 j0_I429 j1_I429 j2_I429 j3_I429 hmlp160_436
                      have bw431 := BT_get hI429.1.1 0 4 5 (0) (0) (900) (by decide) 4 (by decide) (by decide)
                      rw [ew431] at bw431
                      have bw432 := BT_get hI429.1.1 0 2 3 (0) (0) (900) (by decide) 2 (by decide) (by decide)
                      rw [ew432] at bw432
                      have bw433 := BT_get hI429.1.1 0 7 8 (-1) (0) (1000) (by decide) 7 (by decide) (by decide)
                      rw [ew433] at bw433
                      have bw434 := BT_get hI429.1.1 0 15 16 (0) (0) (4) (by decide) 15 (by decide) (by decide)
                      rw [ew434] at bw434
                      have bw435 := BT_get hI429.1.1 0 16 17 (0) (0) (3) (by decide) 16 (by decide) (by decide)
                      rw [ew435] at bw435
                      have bw436 := BT_get hI429.1.1 0 3 4 (0) (0) (900) (by decide) 3 (by decide) (by decide)
                      rw [ew436] at bw436
                      have e438 : I429 (ad g 0) 1 = L := hI429.1.2
                      have b439 := BT_get hI429.1.1 0 1 2 (0) (0) (900) (by decide) 1 (by decide) (by decide)
                      rw [e438] at b439
                      refine WP_aload_n dX11_scan_160 rfl ?_
                      refine WP_aload_n dX11_scan_161 rfl ?_
                      refine WQ_getim dX11_scan_162 fX11_20 rfl (ly_is hy 0 11 rfl) ew431 ?_
                      refine WP_callV1 (k := 11) dX11_scan_165 ⟨⟨⟨by decide, by decide⟩, zX11_byteAt⟩, lX11_23, by decide, rfl, vX11_byteAt.1, vX11_byteAt.2⟩ (ly_is hy 0 11 rfl) (sm_byteAt hy hr hI429 w431 (by omega) (by omega)) (Nat.le_of_ble_eq_true rfl) ?_
                      intro r Ia Ja Ra hq
                      obtain ⟨⟨ea, eb, ec⟩, v440, rfl, cv440⟩ := hq
                      show WP _ _ _ _ (.int _ :: _) _ _ _ _
                      rw [ea, eb, ec]
                      clear ea eb ec Ia Ja Ra
                      rw [ew432] at cv440
                      refine WP_callS1 dX11_scan_168 ⟨⟨⟨by decide, by decide⟩, zX11_isDigit⟩, lX11_34, tX11_isDigit⟩ (sm_isDigit hy hr hI429 v440 ) (Nat.le_of_ble_eq_true rfl) ?_
                      intro r Ia Ja Ra hq
                      obtain ⟨⟨ea, eb, ec⟩, v441, rfl, av441, bv441, cv441⟩ := hq
                      show WP _ _ _ _ (.int _ :: _) _ _ _ _
                      rw [ea, eb, ec]
                      clear ea eb ec Ia Ja Ra
                      refine WQ_if_eq 223 dX11_scan_171 rfl (fun c441 => ?_) (fun c441 => ?_)
                      · refine WP_aload_n dX11_scan_223 rfl ?_
                        refine WP_aload_n dX11_scan_224 rfl ?_
                        refine WQ_getim dX11_scan_225 fX11_20 rfl (ly_is hy 0 11 rfl) ew431 ?_
                        refine WP_aload_n dX11_scan_228 rfl ?_
                        refine WQ_getim dX11_scan_229 fX11_7 rfl (ly_is hy 0 11 rfl) ew436 ?_
                        refine WQ_isub dX11_scan_232 (by omega) (by omega) (fun v443 hv443 => ?_)
                        refine WQ_iconst (4) (4) dX11_scan_233 rfl rfl (fun v444 hv444 => ?_)
                        have jn242_447 : ∀ (v447 : Int32), 2 ≤ v447.toInt → v447.toInt ≤ 4 → WP g mX11_scan 242 [(0, .ref (ad g 0)), (1, .int v379)] [.int v447, .ref (ad g 0)] I429 J430 R (fun r I' J' R' => (MP g n L I' ∧ R' = R ∧ fz 49 g [0] I I' ∧ fz 49 g [] J J' ∧ fs g [3, 4, 5, 6] I I' ∧ (I' (ad g 0) 4).toInt ≤ (I' (ad g 0) 2).toInt ∧ I' (ad g 0) 7 = I (ad g 0) 7 ∧ I' (ad g 0) 15 = I (ad g 0) 15 ∧ I' (ad g 0) 16 = I (ad g 0) 16) ∧ r = none) := by
                          intro v447 av447 bv447
                          refine WQ_puti dX11_scan_242 fX11_27 rfl rfl (ly_is hy 0 11 rfl) (fun I449 eI449 => ?_)
                          have hI449 : MP g n L I449 := by rw [eI449]; exact (mp_w hy hI429 (c := 0) (mi_f hy hI429.1 (c := 0) (0) (0) (4) (by decide) (Or.inr (by decide)) (by decide) (by omega) (by omega)) (by decide) (by decide) (Or.inr (by decide)))
                          have e450 : I449 (ad g 0) 4 = w431 := by rw [eI449, pp_ne _ _ (Or.inr (by decide))]; exact ew431
                          have e451 : I449 (ad g 0) 2 = w432 := by rw [eI449, pp_ne _ _ (Or.inr (by decide))]; exact ew432
                          have e452 : I449 (ad g 0) 7 = w433 := by rw [eI449, pp_ne _ _ (Or.inr (by decide))]; exact ew433
                          have e453 : I449 (ad g 0) 15 = w434 := by rw [eI449, pp_ne _ _ (Or.inr (by decide))]; exact ew434
                          have e454 : I449 (ad g 0) 16 = w435 := by rw [eI449, pp_ne _ _ (Or.inr (by decide))]; exact ew435
                          have e455 : I449 (ad g 0) 3 = w436 := by rw [eI449, pp_ne _ _ (Or.inr (by decide))]; exact ew436
                          have e456 : I449 (ad g 0) 1 = L := by rw [eI449, pp_ne _ _ (Or.inr (by decide))]; exact e438
                          have e457 : I449 (ad g 0) 5 = v447 := by rw [eI449, pp_self]
                          have fr458 : fs g [3, 4, 5, 6] I I449 := by rw [eI449]; exact fs_pp0 fqI429 (by decide)
                          have fr459 : fz 49 g [0] I I449 := by rw [eI449]; exact fzm_pp hy fiI429 (by decide) (by decide)
                          clear eI449
                          refine WP_goto 273 dX11_scan_245 rfl ?_
                          exact WP_vret dX11_scan_273 rfl ⟨⟨hI449, rfl, fr459, fjJ430, fr458, ⟨(by rw [e450, e451]; omega), (by rw [e452, ew138] <;> exact (eq32 _ _).mpr (by omega)), (by rw [e453, ew139] <;> exact (eq32 _ _).mpr (by omega)), (by rw [e454, ew140] <;> exact (eq32 _ _).mpr (by omega))⟩⟩, rfl⟩
                        refine WQ_icmp_le 241 dX11_scan_234 rfl (fun c459 => ?_) (fun c459 => ?_)
                        · refine WQ_iconst (2) (2) dX11_scan_241 rfl rfl (fun v461 hv461 => ?_)
                          exact WP_sub (fc rfl (fc rfl fn)) (jn242_447 v461 (by omega) (by omega))
                        · refine WQ_iconst (4) (4) dX11_scan_237 rfl rfl (fun v462 hv462 => ?_)
                          refine WP_goto 242 dX11_scan_238 rfl ?_
                          exact WP_sub (fc rfl (fc rfl fn)) (jn242_447 v462 (by omega) (by omega))
                      · refine WP_aload_n dX11_scan_174 rfl ?_
                        refine WQ_getim dX11_scan_175 fX11_20 rfl (ly_is hy 0 11 rfl) ew431 ?_
                        refine WP_aload_n dX11_scan_178 rfl ?_
                        refine WQ_getim dX11_scan_179 fX11_7 rfl (ly_is hy 0 11 rfl) ew436 ?_
                        refine WQ_isub dX11_scan_182 (by omega) (by omega) (fun v463 hv463 => ?_)
                        refine WQ_iconst (4) (4) dX11_scan_183 rfl rfl (fun v464 hv464 => ?_)
                        refine WQ_icmp_ge 210 dX11_scan_184 rfl (fun c464 => ?_) (fun c464 => ?_)
                        · refine WP_aload_n dX11_scan_210 rfl ?_
                          refine WP_dup dX11_scan_211 rfl ?_
                          refine WQ_getim dX11_scan_212 fX11_20 rfl (ly_is hy 0 11 rfl) ew431 ?_
                          refine WQ_iconst (1) (1) dX11_scan_215 rfl rfl (fun v466 hv466 => ?_)
                          refine WQ_iadd dX11_scan_216 (by omega) (by omega) (fun v467 hv467 => ?_)
                          refine WQ_puti dX11_scan_217 fX11_20 rfl rfl (ly_is hy 0 11 rfl) (fun I468 eI468 => ?_)
                          have hI468 : MP g n L I468 := by rw [eI468]; exact (mp_w hy hI429 (c := 0) (mi_f hy hI429.1 (c := 0) (0) (0) (900) (by decide) (Or.inr (by decide)) (by decide) (by omega) (by omega)) (by decide) (by decide) (Or.inr (by decide)))
                          have e469 : I468 (ad g 0) 2 = w432 := by rw [eI468, pp_ne _ _ (Or.inr (by decide))]; exact ew432
                          have e470 : I468 (ad g 0) 7 = w433 := by rw [eI468, pp_ne _ _ (Or.inr (by decide))]; exact ew433
                          have e471 : I468 (ad g 0) 15 = w434 := by rw [eI468, pp_ne _ _ (Or.inr (by decide))]; exact ew434
                          have e472 : I468 (ad g 0) 16 = w435 := by rw [eI468, pp_ne _ _ (Or.inr (by decide))]; exact ew435
                          have e473 : I468 (ad g 0) 3 = w436 := by rw [eI468, pp_ne _ _ (Or.inr (by decide))]; exact ew436
                          have e474 : I468 (ad g 0) 1 = L := by rw [eI468, pp_ne _ _ (Or.inr (by decide))]; exact e438
                          have e475 : I468 (ad g 0) 4 = v467 := by rw [eI468, pp_self]
                          have fr476 : fs g [3, 4, 5, 6] I I468 := by rw [eI468]; exact fs_pp0 fqI429 (by decide)
                          have fr477 : fz 49 g [0] I I468 := by rw [eI468]; exact fzm_pp hy fiI429 (by decide) (by decide)
                          clear eI468
                          refine WP_goto 160 dX11_scan_220 rfl ?_
                          exact WP_sub (fc rfl (fc rfl fn)) (ihlp160_436 I468 J430 hI468 fr477 fjJ430 fr476 v467 e475 w432 e469 w433 e470 w434 e471 w435 e472 w436 e473 (by omega) (by omega) (by omega) (by omega) (by omega))
                        · refine WP_aload_n dX11_scan_187 rfl ?_
                          refine WQ_bipush (10) (10) dX11_scan_188 rfl rfl (fun v478 hv478 => ?_)
                          refine WP_aload_n dX11_scan_190 rfl ?_
                          refine WQ_getiu dX11_scan_191 fX11_37 rfl (ly_is hy 0 11 rfl) (fun v479 ev479 => ?_)
                          refine WQ_imulu dX11_scan_194 (fun v480 => ?_)
                          refine WP_aload_n dX11_scan_195 rfl ?_
                          refine WP_aload_n dX11_scan_196 rfl ?_
                          refine WQ_getim dX11_scan_197 fX11_20 rfl (ly_is hy 0 11 rfl) ew431 ?_
                          refine WP_callV1 (k := 11) dX11_scan_200 ⟨⟨⟨by decide, by decide⟩, zX11_byteAt⟩, lX11_23, by decide, rfl, vX11_byteAt.1, vX11_byteAt.2⟩ (ly_is hy 0 11 rfl) (sm_byteAt hy hr hI429 w431 (by omega) (by omega)) (Nat.le_of_ble_eq_true rfl) ?_
                          intro r Ia Ja Ra hq
                          obtain ⟨⟨ea, eb, ec⟩, v481, rfl, cv481⟩ := hq
                          show WP _ _ _ _ (.int _ :: _) _ _ _ _
                          rw [ea, eb, ec]
                          clear ea eb ec Ia Ja Ra
                          rw [ew432] at cv481
                          refine WQ_iaddu dX11_scan_203 (fun v482 => ?_)
                          refine WQ_bipush (48) (48) dX11_scan_204 rfl rfl (fun v483 hv483 => ?_)
                          refine WQ_isubu dX11_scan_206 (fun v484 => ?_)
                          refine WQ_puti dX11_scan_207 fX11_37 rfl rfl (ly_is hy 0 11 rfl) (fun I485 eI485 => ?_)
                          have hI485 : MP g n L I485 := by rw [eI485]; exact (mp_w hy hI429 (c := 0) (mi_f0 hy hI429.1 (c := 0) (by decide) (Or.inr (by decide)) (by decide)) (by decide) (by decide) (Or.inr (by decide)))
                          have e486 : I485 (ad g 0) 4 = w431 := by rw [eI485, pp_ne _ _ (Or.inr (by decide))]; exact ew431
                          have e487 : I485 (ad g 0) 2 = w432 := by rw [eI485, pp_ne _ _ (Or.inr (by decide))]; exact ew432
                          have e488 : I485 (ad g 0) 7 = w433 := by rw [eI485, pp_ne _ _ (Or.inr (by decide))]; exact ew433
                          have e489 : I485 (ad g 0) 15 = w434 := by rw [eI485, pp_ne _ _ (Or.inr (by decide))]; exact ew434
                          have e490 : I485 (ad g 0) 16 = w435 := by rw [eI485, pp_ne _ _ (Or.inr (by decide))]; exact ew435
                          have e491 : I485 (ad g 0) 3 = w436 := by rw [eI485, pp_ne _ _ (Or.inr (by decide))]; exact ew436
                          have e492 : I485 (ad g 0) 1 = L := by rw [eI485, pp_ne _ _ (Or.inr (by decide))]; exact e438
                          have e493 : I485 (ad g 0) 6 = v484 := by rw [eI485, pp_self]
                          have fr494 : fs g [3, 4, 5, 6] I I485 := by rw [eI485]; exact fs_pp0 fqI429 (by decide)
                          have fr495 : fz 49 g [0] I I485 := by rw [eI485]; exact fzm_pp hy fiI429 (by decide) (by decide)
                          clear eI485
                          refine WP_aload_n dX11_scan_210 rfl ?_
                          refine WP_dup dX11_scan_211 rfl ?_
                          refine WQ_getim dX11_scan_212 fX11_20 rfl (ly_is hy 0 11 rfl) e486 ?_
                          refine WQ_iconst (1) (1) dX11_scan_215 rfl rfl (fun v496 hv496 => ?_)
                          refine WQ_iadd dX11_scan_216 (by omega) (by omega) (fun v497 hv497 => ?_)
                          refine WQ_puti dX11_scan_217 fX11_20 rfl rfl (ly_is hy 0 11 rfl) (fun I498 eI498 => ?_)
                          have hI498 : MP g n L I498 := by rw [eI498]; exact (mp_w hy hI485 (c := 0) (mi_f hy hI485.1 (c := 0) (0) (0) (900) (by decide) (Or.inr (by decide)) (by decide) (by omega) (by omega)) (by decide) (by decide) (Or.inr (by decide)))
                          have e499 : I498 (ad g 0) 2 = w432 := by rw [eI498, pp_ne _ _ (Or.inr (by decide))]; exact e487
                          have e500 : I498 (ad g 0) 7 = w433 := by rw [eI498, pp_ne _ _ (Or.inr (by decide))]; exact e488
                          have e501 : I498 (ad g 0) 15 = w434 := by rw [eI498, pp_ne _ _ (Or.inr (by decide))]; exact e489
                          have e502 : I498 (ad g 0) 16 = w435 := by rw [eI498, pp_ne _ _ (Or.inr (by decide))]; exact e490
                          have e503 : I498 (ad g 0) 3 = w436 := by rw [eI498, pp_ne _ _ (Or.inr (by decide))]; exact e491
                          have e504 : I498 (ad g 0) 1 = L := by rw [eI498, pp_ne _ _ (Or.inr (by decide))]; exact e492
                          have e505 : I498 (ad g 0) 6 = v484 := by rw [eI498, pp_ne _ _ (Or.inr (by decide))]; exact e493
                          have e506 : I498 (ad g 0) 4 = v497 := by rw [eI498, pp_self]
                          have fr507 : fs g [3, 4, 5, 6] I I498 := by rw [eI498]; exact fs_pp0 fr494 (by decide)
                          have fr508 : fz 49 g [0] I I498 := by rw [eI498]; exact fzm_pp hy fr495 (by decide) (by decide)
                          clear eI498
                          refine WP_goto 160 dX11_scan_220 rfl ?_
                          exact WP_sub (fc rfl (fc rfl fn)) (ihlp160_436 I498 J430 hI498 fr508 fjJ430 fr507 v497 e506 w432 e499 w433 e500 w434 e501 w435 e502 w436 e503 (by omega) (by omega) (by omega) (by omega) (by omega))
                  exact WP_sub (fc rfl (fc rfl fn)) (lp160_436 _ I418 J144 hI418 fr428 fjJ144 fr427 w145 e419 w146 e420 w147 e421 w148 e422 w149 e423 w145 e425 (by omega) (by omega) (by omega) (by omega) (Nat.lt_succ_self _))
              · have lp95_516 : ∀ (mz : Nat)  (I509 : pI) (J510 : pJ), MP g n L I509 → fz 49 g [0] I I509 → fz 49 g [] J J510 → fs g [3, 4, 5, 6] I I509 → ∀ (w511 : Int32), I509 (ad g 0) 4 = w511 → ∀ (w512 : Int32), I509 (ad g 0) 2 = w512 → ∀ (w513 : Int32), I509 (ad g 0) 7 = w513 → ∀ (w514 : Int32), I509 (ad g 0) 15 = w514 → ∀ (w515 : Int32), I509 (ad g 0) 16 = w515 → ∀ (w516 : Int32), I509 (ad g 0) 3 = w516 → w511.toInt ≤ w512.toInt → w513.toInt = w138.toInt → w514.toInt = w139.toInt → w515.toInt = w140.toInt → (901 - w511.toInt).toNat < mz → WP g mX11_scan 95 [(0, .ref (ad g 0)), (1, .int v379)] [] I509 J510 R (fun r I' J' R' => (MP g n L I' ∧ R' = R ∧ fz 49 g [0] I I' ∧ fz 49 g [] J J' ∧ fs g [3, 4, 5, 6] I I' ∧ (I' (ad g 0) 4).toInt ≤ (I' (ad g 0) 2).toInt ∧ I' (ad g 0) 7 = I (ad g 0) 7 ∧ I' (ad g 0) 15 = I (ad g 0) 15 ∧ I' (ad g 0) 16 = I (ad g 0) 16) ∧ r = none) := by
                  intro mz
                  induction mz with
                  | zero =>
                    intro  I509 J510 hI509 fiI509 fjJ510 fqI509 w511 ew511 w512 ew512 w513 ew513 w514 ew514 w515 ew515 w516 ew516 j0_I509 j1_I509 j2_I509 j3_I509 hmlp95_516
                    exact absurd hmlp95_516 (Nat.not_lt_zero _)
                  | succ mz ihlp95_516 =>
                    intro  I509 J510 hI509 fiI509 fjJ510 fqI509 w511 ew511 w512 ew512 w513 ew513 w514 ew514 w515 ew515 w516 ew516 j0_I509 j1_I509 j2_I509 j3_I509 hmlp95_516
                    have bw511 := BT_get hI509.1.1 0 4 5 (0) (0) (900) (by decide) 4 (by decide) (by decide)
                    rw [ew511] at bw511
                    have bw512 := BT_get hI509.1.1 0 2 3 (0) (0) (900) (by decide) 2 (by decide) (by decide)
                    rw [ew512] at bw512
                    have bw513 := BT_get hI509.1.1 0 7 8 (-1) (0) (1000) (by decide) 7 (by decide) (by decide)
                    rw [ew513] at bw513
                    have bw514 := BT_get hI509.1.1 0 15 16 (0) (0) (4) (by decide) 15 (by decide) (by decide)
                    rw [ew514] at bw514
                    have bw515 := BT_get hI509.1.1 0 16 17 (0) (0) (3) (by decide) 16 (by decide) (by decide)
                    rw [ew515] at bw515
                    have bw516 := BT_get hI509.1.1 0 3 4 (0) (0) (900) (by decide) 3 (by decide) (by decide)
                    rw [ew516] at bw516
                    have e518 : I509 (ad g 0) 1 = L := hI509.1.2
                    have b519 := BT_get hI509.1.1 0 1 2 (0) (0) (900) (by decide) 1 (by decide) (by decide)
                    rw [e518] at b519
                    refine WP_aload_n dX11_scan_95 rfl ?_
                    refine WP_aload_n dX11_scan_96 rfl ?_
                    refine WQ_getim dX11_scan_97 fX11_20 rfl (ly_is hy 0 11 rfl) ew511 ?_
                    refine WP_callV1 (k := 11) dX11_scan_100 ⟨⟨⟨by decide, by decide⟩, zX11_byteAt⟩, lX11_23, by decide, rfl, vX11_byteAt.1, vX11_byteAt.2⟩ (ly_is hy 0 11 rfl) (sm_byteAt hy hr hI509 w511 (by omega) (by omega)) (Nat.le_of_ble_eq_true rfl) ?_
                    intro r Ia Ja Ra hq
                    obtain ⟨⟨ea, eb, ec⟩, v520, rfl, cv520⟩ := hq
                    show WP _ _ _ _ (.int _ :: _) _ _ _ _
                    rw [ea, eb, ec]
                    clear ea eb ec Ia Ja Ra
                    rw [ew512] at cv520
                    refine WP_callS1 dX11_scan_103 ⟨⟨⟨by decide, by decide⟩, zX11_isSmall⟩, lX11_30, tX11_isSmall⟩ (sm_isSmall hy hr hI509 v520 ) (Nat.le_of_ble_eq_true rfl) ?_
                    intro r Ia Ja Ra hq
                    obtain ⟨⟨ea, eb, ec⟩, v521, rfl, av521, bv521, cv521⟩ := hq
                    show WP _ _ _ _ (.int _ :: _) _ _ _ _
                    rw [ea, eb, ec]
                    clear ea eb ec Ia Ja Ra
                    refine WQ_if_eq 122 dX11_scan_106 rfl (fun c521 => ?_) (fun c521 => ?_)
                    · refine WP_aload_n dX11_scan_122 rfl ?_
                      refine WP_aload_n dX11_scan_123 rfl ?_
                      refine WQ_getim dX11_scan_124 fX11_20 rfl (ly_is hy 0 11 rfl) ew511 ?_
                      refine WP_aload_n dX11_scan_127 rfl ?_
                      refine WQ_getim dX11_scan_128 fX11_7 rfl (ly_is hy 0 11 rfl) ew516 ?_
                      refine WQ_isub dX11_scan_131 (by omega) (by omega) (fun v523 hv523 => ?_)
                      refine WQ_bipush (8) (8) dX11_scan_132 rfl rfl (fun v524 hv524 => ?_)
                      have jn142_527 : ∀ (v527 : Int32), 1 ≤ v527.toInt → v527.toInt ≤ 4 → WP g mX11_scan 142 [(0, .ref (ad g 0)), (1, .int v379)] [.int v527, .ref (ad g 0)] I509 J510 R (fun r I' J' R' => (MP g n L I' ∧ R' = R ∧ fz 49 g [0] I I' ∧ fz 49 g [] J J' ∧ fs g [3, 4, 5, 6] I I' ∧ (I' (ad g 0) 4).toInt ≤ (I' (ad g 0) 2).toInt ∧ I' (ad g 0) 7 = I (ad g 0) 7 ∧ I' (ad g 0) 15 = I (ad g 0) 15 ∧ I' (ad g 0) 16 = I (ad g 0) 16) ∧ r = none) := by
                        intro v527 av527 bv527
                        refine WQ_puti dX11_scan_142 fX11_27 rfl rfl (ly_is hy 0 11 rfl) (fun I529 eI529 => ?_)
                        have hI529 : MP g n L I529 := by rw [eI529]; exact (mp_w hy hI509 (c := 0) (mi_f hy hI509.1 (c := 0) (0) (0) (4) (by decide) (Or.inr (by decide)) (by decide) (by omega) (by omega)) (by decide) (by decide) (Or.inr (by decide)))
                        have e530 : I529 (ad g 0) 4 = w511 := by rw [eI529, pp_ne _ _ (Or.inr (by decide))]; exact ew511
                        have e531 : I529 (ad g 0) 2 = w512 := by rw [eI529, pp_ne _ _ (Or.inr (by decide))]; exact ew512
                        have e532 : I529 (ad g 0) 7 = w513 := by rw [eI529, pp_ne _ _ (Or.inr (by decide))]; exact ew513
                        have e533 : I529 (ad g 0) 15 = w514 := by rw [eI529, pp_ne _ _ (Or.inr (by decide))]; exact ew514
                        have e534 : I529 (ad g 0) 16 = w515 := by rw [eI529, pp_ne _ _ (Or.inr (by decide))]; exact ew515
                        have e535 : I529 (ad g 0) 3 = w516 := by rw [eI529, pp_ne _ _ (Or.inr (by decide))]; exact ew516
                        have e536 : I529 (ad g 0) 1 = L := by rw [eI529, pp_ne _ _ (Or.inr (by decide))]; exact e518
                        have e537 : I529 (ad g 0) 5 = v527 := by rw [eI529, pp_self]
                        have fr538 : fs g [3, 4, 5, 6] I I529 := by rw [eI529]; exact fs_pp0 fqI509 (by decide)
                        have fr539 : fz 49 g [0] I I529 := by rw [eI529]; exact fzm_pp hy fiI509 (by decide) (by decide)
                        clear eI529
                        refine WP_goto 273 dX11_scan_145 rfl ?_
                        exact WP_vret dX11_scan_273 rfl ⟨⟨hI529, rfl, fr539, fjJ510, fr538, ⟨(by rw [e530, e531]; omega), (by rw [e532, ew138] <;> exact (eq32 _ _).mpr (by omega)), (by rw [e533, ew139] <;> exact (eq32 _ _).mpr (by omega)), (by rw [e534, ew140] <;> exact (eq32 _ _).mpr (by omega))⟩⟩, rfl⟩
                      refine WQ_icmp_le 141 dX11_scan_134 rfl (fun c539 => ?_) (fun c539 => ?_)
                      · refine WQ_iconst (1) (1) dX11_scan_141 rfl rfl (fun v541 hv541 => ?_)
                        exact WP_sub (fc rfl (fc rfl fn)) (jn142_527 v541 (by omega) (by omega))
                      · refine WQ_iconst (4) (4) dX11_scan_137 rfl rfl (fun v542 hv542 => ?_)
                        refine WP_goto 142 dX11_scan_138 rfl ?_
                        exact WP_sub (fc rfl (fc rfl fn)) (jn142_527 v542 (by omega) (by omega))
                    · refine WP_aload_n dX11_scan_109 rfl ?_
                      refine WP_dup dX11_scan_110 rfl ?_
                      refine WQ_getim dX11_scan_111 fX11_20 rfl (ly_is hy 0 11 rfl) ew511 ?_
                      refine WQ_iconst (1) (1) dX11_scan_114 rfl rfl (fun v543 hv543 => ?_)
                      refine WQ_iadd dX11_scan_115 (by omega) (by omega) (fun v544 hv544 => ?_)
                      refine WQ_puti dX11_scan_116 fX11_20 rfl rfl (ly_is hy 0 11 rfl) (fun I545 eI545 => ?_)
                      have hI545 : MP g n L I545 := by rw [eI545]; exact (mp_w hy hI509 (c := 0) (mi_f hy hI509.1 (c := 0) (0) (0) (900) (by decide) (Or.inr (by decide)) (by decide) (by omega) (by omega)) (by decide) (by decide) (Or.inr (by decide)))
                      have e546 : I545 (ad g 0) 2 = w512 := by rw [eI545, pp_ne _ _ (Or.inr (by decide))]; exact ew512
                      have e547 : I545 (ad g 0) 7 = w513 := by rw [eI545, pp_ne _ _ (Or.inr (by decide))]; exact ew513
                      have e548 : I545 (ad g 0) 15 = w514 := by rw [eI545, pp_ne _ _ (Or.inr (by decide))]; exact ew514
                      have e549 : I545 (ad g 0) 16 = w515 := by rw [eI545, pp_ne _ _ (Or.inr (by decide))]; exact ew515
                      have e550 : I545 (ad g 0) 3 = w516 := by rw [eI545, pp_ne _ _ (Or.inr (by decide))]; exact ew516
                      have e551 : I545 (ad g 0) 1 = L := by rw [eI545, pp_ne _ _ (Or.inr (by decide))]; exact e518
                      have e552 : I545 (ad g 0) 4 = v544 := by rw [eI545, pp_self]
                      have fr553 : fs g [3, 4, 5, 6] I I545 := by rw [eI545]; exact fs_pp0 fqI509 (by decide)
                      have fr554 : fz 49 g [0] I I545 := by rw [eI545]; exact fzm_pp hy fiI509 (by decide) (by decide)
                      clear eI545
                      refine WP_goto 95 dX11_scan_119 rfl ?_
                      exact WP_sub (fc rfl (fc rfl fn)) (ihlp95_516 I545 J510 hI545 fr554 fjJ510 fr553 v544 e552 w512 e546 w513 e547 w514 e548 w515 e549 w516 e550 (by omega) (by omega) (by omega) (by omega) (by omega))
                exact WP_sub (fc rfl (fc rfl fn)) (lp95_516 _ I369 J144 hI369 fr378 fjJ144 fr377 w145 e370 w146 e371 w147 e372 w148 e373 w149 e374 w145 e376 (by omega) (by omega) (by omega) (by omega) (Nat.lt_succ_self _))
            · refine WP_aload_n dX11_scan_80 rfl ?_
              refine WQ_iconst (0) (0) dX11_scan_81 rfl rfl (fun v555 hv555 => ?_)
              refine WQ_puti dX11_scan_82 fX11_27 rfl rfl (ly_is hy 0 11 rfl) (fun I556 eI556 => ?_)
              have hI556 : MP g n L I556 := by rw [eI556]; exact (mp_w hy hI369 (c := 0) (mi_f hy hI369.1 (c := 0) (0) (0) (4) (by decide) (Or.inr (by decide)) (by decide) (by omega) (by omega)) (by decide) (by decide) (Or.inr (by decide)))
              have e557 : I556 (ad g 0) 4 = w145 := by rw [eI556, pp_ne _ _ (Or.inr (by decide))]; exact e370
              have e558 : I556 (ad g 0) 2 = w146 := by rw [eI556, pp_ne _ _ (Or.inr (by decide))]; exact e371
              have e559 : I556 (ad g 0) 7 = w147 := by rw [eI556, pp_ne _ _ (Or.inr (by decide))]; exact e372
              have e560 : I556 (ad g 0) 15 = w148 := by rw [eI556, pp_ne _ _ (Or.inr (by decide))]; exact e373
              have e561 : I556 (ad g 0) 16 = w149 := by rw [eI556, pp_ne _ _ (Or.inr (by decide))]; exact e374
              have e562 : I556 (ad g 0) 1 = L := by rw [eI556, pp_ne _ _ (Or.inr (by decide))]; exact e375
              have e563 : I556 (ad g 0) 3 = w145 := by rw [eI556, pp_ne _ _ (Or.inr (by decide))]; exact e376
              have e564 : I556 (ad g 0) 5 = v555 := by rw [eI556, pp_self]
              have fr565 : fs g [3, 4, 5, 6] I I556 := by rw [eI556]; exact fs_pp0 fr377 (by decide)
              have fr566 : fz 49 g [0] I I556 := by rw [eI556]; exact fzm_pp hy fr378 (by decide) (by decide)
              clear eI556
              refine WP_goto 273 dX11_scan_85 rfl ?_
              exact WP_vret dX11_scan_273 rfl ⟨⟨hI556, rfl, fr566, fjJ144, fr565, ⟨(by rw [e557, e558]; omega), (by rw [e559, ew138] <;> exact (eq32 _ _).mpr (by omega)), (by rw [e560, ew139] <;> exact (eq32 _ _).mpr (by omega)), (by rw [e561, ew140] <;> exact (eq32 _ _).mpr (by omega))⟩⟩, rfl⟩
          · refine WP_aload_n dX11_scan_39 rfl ?_
            refine WP_dup dX11_scan_40 rfl ?_
            refine WQ_getim dX11_scan_41 fX11_20 rfl (ly_is hy 0 11 rfl) ew145 ?_
            refine WQ_iconst (1) (1) dX11_scan_44 rfl rfl (fun v567 hv567 => ?_)
            refine WQ_iadd dX11_scan_45 (by omega) (by omega) (fun v568 hv568 => ?_)
            refine WQ_puti dX11_scan_46 fX11_20 rfl rfl (ly_is hy 0 11 rfl) (fun I569 eI569 => ?_)
            have hI569 : MP g n L I569 := by rw [eI569]; exact (mp_w hy hI143 (c := 0) (mi_f hy hI143.1 (c := 0) (0) (0) (900) (by decide) (Or.inr (by decide)) (by decide) (by omega) (by omega)) (by decide) (by decide) (Or.inr (by decide)))
            have e570 : I569 (ad g 0) 2 = w146 := by rw [eI569, pp_ne _ _ (Or.inr (by decide))]; exact ew146
            have e571 : I569 (ad g 0) 7 = w147 := by rw [eI569, pp_ne _ _ (Or.inr (by decide))]; exact ew147
            have e572 : I569 (ad g 0) 15 = w148 := by rw [eI569, pp_ne _ _ (Or.inr (by decide))]; exact ew148
            have e573 : I569 (ad g 0) 16 = w149 := by rw [eI569, pp_ne _ _ (Or.inr (by decide))]; exact ew149
            have e574 : I569 (ad g 0) 1 = L := by rw [eI569, pp_ne _ _ (Or.inr (by decide))]; exact e151
            have e575 : I569 (ad g 0) 4 = v568 := by rw [eI569, pp_self]
            have fr576 : fs g [3, 4, 5, 6] I I569 := by rw [eI569]; exact fs_pp0 fqI143 (by decide)
            have fr577 : fz 49 g [0] I I569 := by rw [eI569]; exact fzm_pp hy fiI143 (by decide) (by decide)
            clear eI569
            refine WP_goto 0 dX11_scan_49 rfl ?_
            exact WP_sub (fc rfl fn) (ihlp0_149 I569 J144 hI569 fr577 fjJ144 fr576 v568 e575 w146 e570 w147 e571 w148 e572 w149 e573 (by omega) (by omega) (by omega) (by omega) (by omega))
  exact WP_sub (fc rfl fn) (lp0_149 _ I J hI fr0 frj0 frq0 w141 ew141 w142 ew142 w138 ew138 w139 ew139 w140 ew140 (by omega) (by omega) (by omega) (by omega) (Nat.lt_succ_self _))
