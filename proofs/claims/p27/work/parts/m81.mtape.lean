set_option maxHeartbeats 4000000 in
set_option maxRecDepth 100000 in
theorem sm_in {g : GG} {n : Int} {L : Int32} (hy : Ly g)  {I : pI} {J : pJ} {R : pR} (hr : Rf g R) (hI : MP g n L I) (a : Int64) (lo : Int64) (hi : Int64)  : SP g mX11_in [.long a, .long lo, .long hi] I J R (fun r I' J' R' => (I' = I ∧ J' = J ∧ R' = R) ∧ ∃ v : Int32, r = some (.int v) ∧ 0 ≤ v.toInt ∧ v.toInt ≤ 1 ∧ (v.toInt = 1 ↔ lo.toInt ≤ a.toInt ∧ a.toInt ≤ hi.toInt)) := by
  refine SP_of ⟨by decide, rfl⟩ (Nat.le_of_ble_eq_true rfl) ?_
  have e1 : I (ad g 0) 1 = L := hI.1.2
  have b2 := BT_get hI.1.1 0 1 2 (0) (0) (900) (by decide) 1 (by decide) (by decide)
  rw [e1] at b2
  refine WP_lload_n dX11_in_0 rfl ?_
  refine WP_lload_n dX11_in_1 rfl ?_
  refine WQ_lcmp dX11_in_2 (fun v3 av3 bv3 => ?_)
  refine WQ_if_lt 17 dX11_in_3 rfl (fun c3 => ?_) (fun c3 => ?_)
  · refine WQ_iconst (0) (0) dX11_in_17 rfl rfl (fun v5 hv5 => ?_)
    exact WP_zret dX11_in_18 rfl (nar_z (by omega)) ⟨⟨rfl, rfl, rfl⟩, _, rfl, by omega, by omega, by omega⟩
  · refine WP_lload_n dX11_in_6 rfl ?_
    refine WP_lload dX11_in_7 rfl ?_
    refine WQ_lcmp dX11_in_9 (fun v6 av6 bv6 => ?_)
    refine WQ_if_gt 17 dX11_in_10 rfl (fun c6 => ?_) (fun c6 => ?_)
    · refine WQ_iconst (0) (0) dX11_in_17 rfl rfl (fun v8 hv8 => ?_)
      exact WP_zret dX11_in_18 rfl (nar_z (by omega)) ⟨⟨rfl, rfl, rfl⟩, _, rfl, by omega, by omega, by omega⟩
    · refine WQ_iconst (1) (1) dX11_in_13 rfl rfl (fun v9 hv9 => ?_)
      refine WP_goto 18 dX11_in_14 rfl ?_
      exact WP_zret dX11_in_18 rfl (nar_z (by omega)) ⟨⟨rfl, rfl, rfl⟩, _, rfl, by omega, by omega, by omega⟩
set_option maxHeartbeats 4000000 in
set_option maxRecDepth 100000 in
theorem sm_isSmall {g : GG} {n : Int} {L : Int32} (hy : Ly g)  {I : pI} {J : pJ} {R : pR} (hr : Rf g R) (hI : MP g n L I) (c : Int32)  : SP g mX11_isSmall [.int c] I J R (fun r I' J' R' => (I' = I ∧ J' = J ∧ R' = R) ∧ ∃ v : Int32, r = some (.int v) ∧ 0 ≤ v.toInt ∧ v.toInt ≤ 1 ∧ (v.toInt = 1 ↔ 97 ≤ c.toInt ∧ c.toInt ≤ 122)) := by
  refine SP_of ⟨by decide, rfl⟩ (Nat.le_of_ble_eq_true rfl) ?_
  have e10 : I (ad g 0) 1 = L := hI.1.2
  have b11 := BT_get hI.1.1 0 1 2 (0) (0) (900) (by decide) 1 (by decide) (by decide)
  rw [e10] at b11
  refine WP_iload_n dX11_isSmall_0 rfl ?_
  refine WQ_bipush (97) (97) dX11_isSmall_1 rfl rfl (fun v12 hv12 => ?_)
  refine WQ_icmp_lt 16 dX11_isSmall_3 rfl (fun c12 => ?_) (fun c12 => ?_)
  · refine WQ_iconst (0) (0) dX11_isSmall_16 rfl rfl (fun v14 hv14 => ?_)
    exact WP_zret dX11_isSmall_17 rfl (nar_z (by omega)) ⟨⟨rfl, rfl, rfl⟩, _, rfl, by omega, by omega, by omega⟩
  · refine WP_iload_n dX11_isSmall_6 rfl ?_
    refine WQ_bipush (122) (122) dX11_isSmall_7 rfl rfl (fun v15 hv15 => ?_)
    refine WQ_icmp_gt 16 dX11_isSmall_9 rfl (fun c15 => ?_) (fun c15 => ?_)
    · refine WQ_iconst (0) (0) dX11_isSmall_16 rfl rfl (fun v17 hv17 => ?_)
      exact WP_zret dX11_isSmall_17 rfl (nar_z (by omega)) ⟨⟨rfl, rfl, rfl⟩, _, rfl, by omega, by omega, by omega⟩
    · refine WQ_iconst (1) (1) dX11_isSmall_12 rfl rfl (fun v18 hv18 => ?_)
      refine WP_goto 17 dX11_isSmall_13 rfl ?_
      exact WP_zret dX11_isSmall_17 rfl (nar_z (by omega)) ⟨⟨rfl, rfl, rfl⟩, _, rfl, by omega, by omega, by omega⟩
set_option maxHeartbeats 4000000 in
set_option maxRecDepth 100000 in
theorem sm_isDigit {g : GG} {n : Int} {L : Int32} (hy : Ly g)  {I : pI} {J : pJ} {R : pR} (hr : Rf g R) (hI : MP g n L I) (c : Int32)  : SP g mX11_isDigit [.int c] I J R (fun r I' J' R' => (I' = I ∧ J' = J ∧ R' = R) ∧ ∃ v : Int32, r = some (.int v) ∧ 0 ≤ v.toInt ∧ v.toInt ≤ 1 ∧ (v.toInt = 1 ↔ 48 ≤ c.toInt ∧ c.toInt ≤ 57)) := by
  refine SP_of ⟨by decide, rfl⟩ (Nat.le_of_ble_eq_true rfl) ?_
  have e19 : I (ad g 0) 1 = L := hI.1.2
  have b20 := BT_get hI.1.1 0 1 2 (0) (0) (900) (by decide) 1 (by decide) (by decide)
  rw [e19] at b20
  refine WP_iload_n dX11_isDigit_0 rfl ?_
  refine WQ_bipush (48) (48) dX11_isDigit_1 rfl rfl (fun v21 hv21 => ?_)
  refine WQ_icmp_lt 16 dX11_isDigit_3 rfl (fun c21 => ?_) (fun c21 => ?_)
  · refine WQ_iconst (0) (0) dX11_isDigit_16 rfl rfl (fun v23 hv23 => ?_)
    exact WP_zret dX11_isDigit_17 rfl (nar_z (by omega)) ⟨⟨rfl, rfl, rfl⟩, _, rfl, by omega, by omega, by omega⟩
  · refine WP_iload_n dX11_isDigit_6 rfl ?_
    refine WQ_bipush (57) (57) dX11_isDigit_7 rfl rfl (fun v24 hv24 => ?_)
    refine WQ_icmp_gt 16 dX11_isDigit_9 rfl (fun c24 => ?_) (fun c24 => ?_)
    · refine WQ_iconst (0) (0) dX11_isDigit_16 rfl rfl (fun v26 hv26 => ?_)
      exact WP_zret dX11_isDigit_17 rfl (nar_z (by omega)) ⟨⟨rfl, rfl, rfl⟩, _, rfl, by omega, by omega, by omega⟩
    · refine WQ_iconst (1) (1) dX11_isDigit_12 rfl rfl (fun v27 hv27 => ?_)
      refine WP_goto 17 dX11_isDigit_13 rfl ?_
      exact WP_zret dX11_isDigit_17 rfl (nar_z (by omega)) ⟨⟨rfl, rfl, rfl⟩, _, rfl, by omega, by omega, by omega⟩
set_option maxHeartbeats 4000000 in
set_option maxRecDepth 100000 in
theorem sm_byteAt {g : GG} {n : Int} {L : Int32} (hy : Ly g)  {I : pI} {J : pJ} {R : pR} (hr : Rf g R) (hI : MP g n L I) (k : Int32) (k_lo : 0 ≤ k.toInt) (k_hi : k.toInt ≤ 901) : SP g mX11_byteAt [.ref (ad g 0), .int k] I J R (fun r I' J' R' => (I' = I ∧ J' = J ∧ R' = R) ∧ ∃ v : Int32, r = some (.int v) ∧ ((I (ad g 0) 2).toInt ≤ k.toInt → v.toInt = 0)) := by
  refine SP_of ⟨by decide, rfl⟩ (Nat.le_of_ble_eq_true rfl) ?_
  have e28 : I (ad g 0) 1 = L := hI.1.2
  have b29 := BT_get hI.1.1 0 1 2 (0) (0) (900) (by decide) 1 (by decide) (by decide)
  rw [e28] at b29
  refine WP_iload_n dX11_byteAt_0 rfl ?_
  refine WP_aload_n dX11_byteAt_1 rfl ?_
  refine WQ_geti dX11_byteAt_2 fX11_13 rfl (ly_is hy 0 11 rfl) (BT_get hI.1.1 0 2 3 (0) (0) (900) (by decide) 2 (by decide) (by decide)) (fun v30 ev30 av30 bv30 => ?_)
  refine WQ_icmp_ge 21 dX11_byteAt_5 rfl (fun c30 => ?_) (fun c30 => ?_)
  · refine WQ_iconst (0) (0) dX11_byteAt_21 rfl rfl (fun v32 hv32 => ?_)
    exact WP_iret dX11_byteAt_22 rfl ⟨⟨rfl, rfl, rfl⟩, _, rfl, by (try rw [ev30]); omega⟩
  · refine WP_aload_n dX11_byteAt_8 rfl ?_
    refine WP_getr dX11_byteAt_9 fX11_16 rfl (ly_is hy 0 11 rfl) (rf hr 0 0 1 (by decide)) ?_
    refine WP_iload_n dX11_byteAt_12 rfl ?_
    refine WQ_baldu dX11_byteAt_13 (ly_is hy 1 12 rfl) (ly_n hy 1 900 rfl) (by omega) (by omega) (fun v33 => ?_)
    refine WQ_sipush (255) (255) dX11_byteAt_14 rfl rfl (fun v34 hv34 => ?_)
    refine WQ_iandu dX11_byteAt_17 (fun v35 => ?_)
    refine WP_goto 22 dX11_byteAt_18 rfl ?_
    exact WP_iret dX11_byteAt_22 rfl ⟨⟨rfl, rfl, rfl⟩, _, rfl, by (try rw [ev30]); omega⟩
set_option maxHeartbeats 4000000 in
set_option maxRecDepth 100000 in
theorem sm_bad {g : GG} {n : Int} {L : Int32} (hy : Ly g)  {I : pI} {J : pJ} {R : pR} (hr : Rf g R) (hI : MP g n L I) (k : Int32)  : SP g mX11_bad [.ref (ad g 0), .int k] I J R (fun r I' J' R' => (MP g n L I' ∧ R' = R) ∧ ∃ v : Int32, r = some (.int v) ∧ 0 ≤ v.toInt ∧ v.toInt ≤ 0) := by
  refine SP_of ⟨by decide, rfl⟩ (Nat.le_of_ble_eq_true rfl) ?_
  have e36 : I (ad g 0) 1 = L := hI.1.2
  have b37 := BT_get hI.1.1 0 1 2 (0) (0) (900) (by decide) 1 (by decide) (by decide)
  rw [e36] at b37
  refine WP_aload_n dX11_bad_0 rfl ?_
  refine WP_iload_n dX11_bad_1 rfl ?_
  refine WQ_puti dX11_bad_2 fX11_3 rfl rfl (ly_is hy 0 11 rfl) (fun I38 eI38 => ?_)
  have hI38 : MP g n L I38 := by rw [eI38]; exact (mp_w hy hI (c := 0) (mi_f0 hy hI.1 (c := 0) (by decide) (Or.inr (by decide)) (by decide)) (by decide) (by decide) (Or.inr (by decide)))
  have e39 : I38 (ad g 0) 1 = L := by rw [eI38, pp_ne _ _ (Or.inr (by decide))]; exact e36
  have e40 : I38 (ad g 0) 8 = k := by rw [eI38, pp_self]
  clear eI38
  refine WP_aload_n dX11_bad_5 rfl ?_
  refine WP_aload_n dX11_bad_6 rfl ?_
  refine WQ_geti dX11_bad_7 fX11_7 rfl (ly_is hy 0 11 rfl) (BT_get hI38.1.1 0 3 4 (0) (0) (900) (by decide) 3 (by decide) (by decide)) (fun v41 ev41 av41 bv41 => ?_)
  refine WQ_puti dX11_bad_10 fX11_10 rfl rfl (ly_is hy 0 11 rfl) (fun I42 eI42 => ?_)
  have hI42 : MP g n L I42 := by rw [eI42]; exact (mp_w hy hI38 (c := 0) (mi_f0 hy hI38.1 (c := 0) (by decide) (Or.inr (by decide)) (by decide)) (by decide) (by decide) (Or.inr (by decide)))
  have e43 : I42 (ad g 0) 1 = L := by rw [eI42, pp_ne _ _ (Or.inr (by decide))]; exact e39
  have e44 : I42 (ad g 0) 8 = k := by rw [eI42, pp_ne _ _ (Or.inr (by decide))]; exact e40
  have e45 : I42 (ad g 0) 3 = v41 := by rw [eI42, pp_ne _ _ (Or.inr (by decide))]; exact ev41
  have e46 : I42 (ad g 0) 9 = v41 := by rw [eI42, pp_self]
  clear eI42
  refine WQ_iconst (0) (0) dX11_bad_13 rfl rfl (fun v47 hv47 => ?_)
  exact WP_zret dX11_bad_14 rfl (nar_z (by omega)) ⟨⟨hI42, rfl⟩, _, rfl, by omega, by omega⟩
set_option maxHeartbeats 4000000 in
set_option maxRecDepth 100000 in
theorem sm_putFour {g : GG} {n : Int} {L : Int32} (hy : Ly g)  {I : pI} {J : pJ} {R : pR} (hr : Rf g R) (hI : MP g n L I) (f : Int32)  (h4 : L.toInt ≤ 896) : SP g mX11_putFour [.ref (ad g 0), .int f] I J R (fun r I' J' R' => ((∃ L2 : Int32, MP g n L2 I' ∧ L2.toInt = L.toInt + 4) ∧ R' = R) ∧ r = none) := by
  refine SP_of ⟨by decide, rfl⟩ (Nat.le_of_ble_eq_true rfl) ?_
  have e48 : I (ad g 0) 1 = L := hI.1.2
  have b49 := BT_get hI.1.1 0 1 2 (0) (0) (900) (by decide) 1 (by decide) (by decide)
  rw [e48] at b49
  refine WQ_bipush (24) (24) dX11_putFour_0 rfl rfl (fun v50 hv50 => ?_)
  refine WP_istore_n (ls' := [(0, _), (1, _), (2, _)]) dX11_putFour_2 (by decide) rfl ?_
  have lp3_54 : ∀ (mz : Nat) (i51 : Int32) (L54 : Int32) (I52 : pI) (J53 : pJ), MP g n L54 I52 → -8 ≤ i51.toInt → i51.toInt ≤ 24 → 8 * (L54.toInt - L.toInt) = 24 - i51.toInt → (i51.toInt + 8).toNat < mz → WP g mX11_putFour 3 [(0, .ref (ad g 0)), (1, .int f), (2, .int i51)] [] I52 J53 R (fun r I' J' R' => ((∃ L2 : Int32, MP g n L2 I' ∧ L2.toInt = L.toInt + 4) ∧ R' = R) ∧ r = none) := by
    intro mz
    induction mz with
    | zero =>
      intro i51 L54 I52 J53 hI52 ai51 bi51 j0_I52 hmlp3_54
      exact absurd hmlp3_54 (Nat.not_lt_zero _)
    | succ mz ihlp3_54 =>
      intro i51 L54 I52 J53 hI52 ai51 bi51 j0_I52 hmlp3_54
      have e56 : I52 (ad g 0) 1 = L54 := hI52.1.2
      have b57 := BT_get hI52.1.1 0 1 2 (0) (0) (900) (by decide) 1 (by decide) (by decide)
      rw [e56] at b57
      refine WP_iload_n dX11_putFour_3 rfl ?_
      refine WQ_if_lt 36 dX11_putFour_4 rfl (fun c57 => ?_) (fun c57 => ?_)
      · exact WP_vret dX11_putFour_36 rfl ⟨⟨⟨_, hI52, by omega⟩, rfl⟩, rfl⟩
      · refine WP_aload_n dX11_putFour_7 rfl ?_
        refine WP_getr dX11_putFour_8 fX11_16 rfl (ly_is hy 0 11 rfl) (rf hr 0 0 1 (by decide)) ?_
        refine WP_aload_n dX11_putFour_11 rfl ?_
        refine WQ_getim dX11_putFour_12 fX11_75 rfl (ly_is hy 0 11 rfl) e56 ?_
        refine WP_iload_n dX11_putFour_15 rfl ?_
        refine WP_iload_n dX11_putFour_16 rfl ?_
        refine WQ_ishru dX11_putFour_17 (fun v59 => ?_)
        refine WQ_i2b dX11_putFour_18 (fun v60 => ?_)
        refine WQ_bast dX11_putFour_19 (ly_is hy 1 12 rfl) (ly_n hy 1 900 rfl) (by omega) (by omega) (fun I61 v62 eI61 => ?_)
        have hI61 : MP g n L54 I61 := by rw [eI61]; exact (mp_w hy hI52 (c := 1) (mi_r0 hy hI52.1 (c := 1) (by decide) (Or.inl (by decide)) (by decide)) (by decide) (by decide) (Or.inl (by decide)))
        have e63 : I61 (ad g 0) 1 = L54 := by rw [eI61, pp_ne _ _ (Or.inl (ly_ne hy (by decide) (by decide) (by decide)))]; exact e56
        clear eI61
        refine WP_aload_n dX11_putFour_20 rfl ?_
        refine WP_dup dX11_putFour_21 rfl ?_
        refine WQ_getim dX11_putFour_22 fX11_75 rfl (ly_is hy 0 11 rfl) e63 ?_
        refine WQ_iconst (1) (1) dX11_putFour_25 rfl rfl (fun v64 hv64 => ?_)
        refine WQ_iadd dX11_putFour_26 (by omega) (by omega) (fun v65 hv65 => ?_)
        refine WQ_puti dX11_putFour_27 fX11_75 rfl rfl (ly_is hy 0 11 rfl) (fun I66 eI66 => ?_)
        have hI66 : MP g n v65 I66 := by rw [eI66]; exact (mp_w hy hI61 (c := 0) (mi_len hy hI61.1 (by omega) (by omega)) (by decide) (by decide) (Or.inr (by decide)))
        have e67 : I66 (ad g 0) 1 = v65 := by rw [eI66, pp_self]
        clear eI66
        refine WP_iinc (ls' := [(0, _), (1, _), (2, _)]) dX11_putFour_30 rfl (by decide) rfl ?_
        have hv68 : (i51 + Int32.ofInt (-8)).toInt = i51.toInt + (-8) := ia_n rfl (by omega) (by omega)
        generalize i51 + Int32.ofInt (-8) = v68 at hv68 ⊢
        refine WP_goto 3 dX11_putFour_33 rfl ?_
        exact WP_sub (fc rfl (fc rfl (fc rfl fn))) (ihlp3_54 v68 v65 I66 J53 hI66 (by omega) (by omega) (by omega) (by omega))
  exact WP_sub (fc rfl (fc rfl (fc rfl fn))) (lp3_54 _ v50 L I J hI (by omega) (by omega) (by omega) (Nat.lt_succ_self _))
set_option maxHeartbeats 4000000 in
set_option maxRecDepth 100000 in
theorem sm_feed {g : GG} {n : Int} {L : Int32} (hy : Ly g)  {I : pI} {J : pJ} {R : pR} (hr : Rf g R) (hI : MP g n L I) (a : Int32) (b : Int32) (c : Int32) (e : Int32) (f : Int32)  : SP g mX11_feed [.ref (ad g 0), .int a, .int b, .int c, .int e, .int f] I J R (fun r I' J' R' => ((∃ L2 : Int32, MP g n L2 I' ∧ (880 < L.toInt ∧ L2.toInt = L.toInt ∨ L.toInt ≤ 880 ∧ L2.toInt = L.toInt + 20)) ∧ R' = R) ∧ ∃ v : Int32, r = some (.int v) ∧ (880 < L.toInt ∧ v.toInt = -3 ∨ L.toInt ≤ 880 ∧ v.toInt = L.toInt + 20)) := by
  refine SP_of ⟨by decide, rfl⟩ (Nat.le_of_ble_eq_true rfl) ?_
  have e69 : I (ad g 0) 1 = L := hI.1.2
  have b70 := BT_get hI.1.1 0 1 2 (0) (0) (900) (by decide) 1 (by decide) (by decide)
  rw [e69] at b70
  refine WP_aload_n dX11_feed_0 rfl ?_
  refine WQ_getim dX11_feed_1 fX11_75 rfl (ly_is hy 0 11 rfl) e69 ?_
  refine WQ_bipush (20) (20) dX11_feed_4 rfl rfl (fun v71 hv71 => ?_)
  refine WQ_iadd dX11_feed_6 (by omega) (by omega) (fun v72 hv72 => ?_)
  refine WQ_sipush (900) (900) dX11_feed_7 rfl rfl (fun v73 hv73 => ?_)
  refine WQ_icmp_le 16 dX11_feed_10 rfl (fun c73 => ?_) (fun c73 => ?_)
  · refine WP_aload_n dX11_feed_16 rfl ?_
    refine WP_iload_n dX11_feed_17 rfl ?_
    refine WP_callV1 (k := 11) dX11_feed_18 ⟨⟨⟨by decide, by decide⟩, zX11_putFour⟩, lX11_319, by decide, rfl, vX11_putFour.1, vX11_putFour.2⟩ (ly_is hy 0 11 rfl) (sm_putFour hy hr hI a  (by omega)) (Nat.le_of_ble_eq_true rfl) ?_
    intro r I75 J76 Ra hq
    obtain ⟨⟨⟨L77, hI75, qL77⟩, ec⟩, rfl⟩ := hq
    rw [ec]
    clear ec Ra
    have e78 : I75 (ad g 0) 1 = L77 := hI75.1.2
    have b79 := BT_get hI75.1.1 0 1 2 (0) (0) (900) (by decide) 1 (by decide) (by decide)
    rw [e78] at b79
    refine WP_aload_n dX11_feed_21 rfl ?_
    refine WP_iload_n dX11_feed_22 rfl ?_
    refine WP_callV1 (k := 11) dX11_feed_23 ⟨⟨⟨by decide, by decide⟩, zX11_putFour⟩, lX11_319, by decide, rfl, vX11_putFour.1, vX11_putFour.2⟩ (ly_is hy 0 11 rfl) (sm_putFour hy hr hI75 b  (by omega)) (Nat.le_of_ble_eq_true rfl) ?_
    intro r I80 J81 Ra hq
    obtain ⟨⟨⟨L82, hI80, qL82⟩, ec⟩, rfl⟩ := hq
    rw [ec]
    clear ec Ra
    have e83 : I80 (ad g 0) 1 = L82 := hI80.1.2
    have b84 := BT_get hI80.1.1 0 1 2 (0) (0) (900) (by decide) 1 (by decide) (by decide)
    rw [e83] at b84
    refine WP_aload_n dX11_feed_26 rfl ?_
    refine WP_iload_n dX11_feed_27 rfl ?_
    refine WP_callV1 (k := 11) dX11_feed_28 ⟨⟨⟨by decide, by decide⟩, zX11_putFour⟩, lX11_319, by decide, rfl, vX11_putFour.1, vX11_putFour.2⟩ (ly_is hy 0 11 rfl) (sm_putFour hy hr hI80 c  (by omega)) (Nat.le_of_ble_eq_true rfl) ?_
    intro r I85 J86 Ra hq
    obtain ⟨⟨⟨L87, hI85, qL87⟩, ec⟩, rfl⟩ := hq
    rw [ec]
    clear ec Ra
    have e88 : I85 (ad g 0) 1 = L87 := hI85.1.2
    have b89 := BT_get hI85.1.1 0 1 2 (0) (0) (900) (by decide) 1 (by decide) (by decide)
    rw [e88] at b89
    refine WP_aload_n dX11_feed_31 rfl ?_
    refine WP_iload dX11_feed_32 rfl ?_
    refine WP_callV1 (k := 11) dX11_feed_34 ⟨⟨⟨by decide, by decide⟩, zX11_putFour⟩, lX11_319, by decide, rfl, vX11_putFour.1, vX11_putFour.2⟩ (ly_is hy 0 11 rfl) (sm_putFour hy hr hI85 e  (by omega)) (Nat.le_of_ble_eq_true rfl) ?_
    intro r I90 J91 Ra hq
    obtain ⟨⟨⟨L92, hI90, qL92⟩, ec⟩, rfl⟩ := hq
    rw [ec]
    clear ec Ra
    have e93 : I90 (ad g 0) 1 = L92 := hI90.1.2
    have b94 := BT_get hI90.1.1 0 1 2 (0) (0) (900) (by decide) 1 (by decide) (by decide)
    rw [e93] at b94
    refine WP_aload_n dX11_feed_37 rfl ?_
    refine WP_iload dX11_feed_38 rfl ?_
    refine WP_callV1 (k := 11) dX11_feed_40 ⟨⟨⟨by decide, by decide⟩, zX11_putFour⟩, lX11_319, by decide, rfl, vX11_putFour.1, vX11_putFour.2⟩ (ly_is hy 0 11 rfl) (sm_putFour hy hr hI90 f  (by omega)) (Nat.le_of_ble_eq_true rfl) ?_
    intro r I95 J96 Ra hq
    obtain ⟨⟨⟨L97, hI95, qL97⟩, ec⟩, rfl⟩ := hq
    rw [ec]
    clear ec Ra
    have e98 : I95 (ad g 0) 1 = L97 := hI95.1.2
    have b99 := BT_get hI95.1.1 0 1 2 (0) (0) (900) (by decide) 1 (by decide) (by decide)
    rw [e98] at b99
    refine WP_aload_n dX11_feed_43 rfl ?_
    refine WQ_getim dX11_feed_44 fX11_75 rfl (ly_is hy 0 11 rfl) e98 ?_
    exact WP_iret dX11_feed_47 rfl ⟨⟨⟨_, hI95, by omega⟩, rfl⟩, _, rfl, by omega⟩
  · refine WQ_bipush (-3) (-3) dX11_feed_13 rfl rfl (fun v100 hv100 => ?_)
    exact WP_iret dX11_feed_15 rfl ⟨⟨⟨_, hI, by omega⟩, rfl⟩, _, rfl, by omega⟩
set_option maxHeartbeats 4000000 in
set_option maxRecDepth 100000 in
theorem sm_end {g : GG} {n : Int} {L : Int32} (hy : Ly g)  {I : pI} {J : pJ} {R : pR} (hr : Rf g R) (hI : MP g n L I) (a : Int32)  : SP g mX11_end [.ref (ad g 0), .int a] I J R (fun r I' J' R' => ((∃ L2 : Int32, MP g n L2 I' ∧ ((0 ≤ a.toInt ∧ a.toInt ≤ L.toInt) ∧ L2.toInt = a.toInt ∨ ¬ (0 ≤ a.toInt ∧ a.toInt ≤ L.toInt) ∧ L2.toInt = L.toInt)) ∧ R' = R) ∧ ∃ v : Int32, r = some (.int v) ∧ ((0 ≤ a.toInt ∧ a.toInt ≤ L.toInt) ∧ v.toInt = a.toInt ∨ ¬ (0 ≤ a.toInt ∧ a.toInt ≤ L.toInt) ∧ v.toInt = -1)) := by
  refine SP_of ⟨by decide, rfl⟩ (Nat.le_of_ble_eq_true rfl) ?_
  have e101 : I (ad g 0) 1 = L := hI.1.2
  have b102 := BT_get hI.1.1 0 1 2 (0) (0) (900) (by decide) 1 (by decide) (by decide)
  rw [e101] at b102
  refine WP_iload_n dX11_end_0 rfl ?_
  refine WQ_i2l dX11_end_1 (fun l103 hl103 => ?_)
  refine WP_lconst (0) dX11_end_2 rfl ?_
  obtain ⟨l104, hl104, el104⟩ : ∃ v : Int64, v.toInt = 0 ∧ (0 : Int64) = v := ⟨_, rfl, rfl⟩
  rw [el104]; clear el104
  refine WP_aload_n dX11_end_3 rfl ?_
  refine WQ_getim dX11_end_4 fX11_75 rfl (ly_is hy 0 11 rfl) e101 ?_
  refine WQ_i2l dX11_end_7 (fun l105 hl105 => ?_)
  refine WP_callS3 dX11_end_8 ⟨⟨⟨by decide, by decide⟩, zX11_in⟩, lX11_52, tX11_in⟩ (sm_in hy hr hI l103 l104 l105 ) (Nat.le_of_ble_eq_true rfl) ?_
  intro r Ia Ja Ra hq
  obtain ⟨⟨ea, eb, ec⟩, v106, rfl, av106, bv106, cv106⟩ := hq
  show WP _ _ _ _ (.int _ :: _) _ _ _ _
  rw [ea, eb, ec]
  clear ea eb ec Ia Ja Ra
  refine WQ_if_ne 16 dX11_end_11 rfl (fun c106 => ?_) (fun c106 => ?_)
  · refine WP_aload_n dX11_end_16 rfl ?_
    refine WP_iload_n dX11_end_17 rfl ?_
    refine WQ_puti dX11_end_18 fX11_75 rfl rfl (ly_is hy 0 11 rfl) (fun I108 eI108 => ?_)
    have hI108 : MP g n a I108 := by rw [eI108]; exact (mp_w hy hI (c := 0) (mi_len hy hI.1 (by omega) (by omega)) (by decide) (by decide) (Or.inr (by decide)))
    have e109 : I108 (ad g 0) 1 = a := by rw [eI108, pp_self]
    clear eI108
    refine WP_iload_n dX11_end_21 rfl ?_
    exact WP_iret dX11_end_22 rfl ⟨⟨⟨_, hI108, by omega⟩, rfl⟩, _, rfl, by omega⟩
  · refine WQ_iconst (-1) (-1) dX11_end_14 rfl rfl (fun v110 hv110 => ?_)
    exact WP_iret dX11_end_15 rfl ⟨⟨⟨_, hI, by omega⟩, rfl⟩, _, rfl, by omega⟩
set_option maxHeartbeats 4000000 in
set_option maxRecDepth 100000 in
theorem sm_scan {g : GG} {n : Int} {L : Int32} (hy : Ly g)  {I : pI} {J : pJ} {R : pR} (hr : Rf g R) (hI : MP g n L I)   (hb : (I (ad g 0) 4).toInt ≤ (I (ad g 0) 2).toInt) : SP g mX11_scan [.ref (ad g 0)] I J R (fun r I' J' R' => (MP g n L I' ∧ R' = R ∧ (I' (ad g 0) 4).toInt ≤ (I' (ad g 0) 2).toInt ∧ I' (ad g 0) 7 = I (ad g 0) 7 ∧ I' (ad g 0) 15 = I (ad g 0) 15 ∧ I' (ad g 0) 16 = I (ad g 0) 16) ∧ r = none) := by
  refine SP_of ⟨by decide, rfl⟩ (Nat.le_of_ble_eq_true rfl) ?_
  have e111 : I (ad g 0) 1 = L := hI.1.2
  have b112 := BT_get hI.1.1 0 1 2 (0) (0) (900) (by decide) 1 (by decide) (by decide)
  rw [e111] at b112
  obtain ⟨w113, ew113⟩ : ∃ w : Int32, I (ad g 0) 7 = w := ⟨_, rfl⟩
  have bw113 := BT_get hI.1.1 0 7 8 (-1) (0) (1000) (by decide) 7 (by decide) (by decide)
  rw [ew113] at bw113
  obtain ⟨w114, ew114⟩ : ∃ w : Int32, I (ad g 0) 15 = w := ⟨_, rfl⟩
  have bw114 := BT_get hI.1.1 0 15 16 (0) (0) (4) (by decide) 15 (by decide) (by decide)
  rw [ew114] at bw114
  obtain ⟨w115, ew115⟩ : ∃ w : Int32, I (ad g 0) 16 = w := ⟨_, rfl⟩
  have bw115 := BT_get hI.1.1 0 16 17 (0) (0) (3) (by decide) 16 (by decide) (by decide)
  rw [ew115] at bw115
  obtain ⟨w116, ew116⟩ : ∃ w : Int32, I (ad g 0) 4 = w := ⟨_, rfl⟩
  have bw116 := BT_get hI.1.1 0 4 5 (0) (0) (900) (by decide) 4 (by decide) (by decide)
  rw [ew116] at bw116
  obtain ⟨w117, ew117⟩ : ∃ w : Int32, I (ad g 0) 2 = w := ⟨_, rfl⟩
  have bw117 := BT_get hI.1.1 0 2 3 (0) (0) (900) (by decide) 2 (by decide) (by decide)
  rw [ew117] at bw117
  rw [ew116, ew117] at hb
  have lp0_124 : ∀ (mz : Nat)  (I118 : pI) (J119 : pJ), MP g n L I118 → ∀ (w120 : Int32), I118 (ad g 0) 4 = w120 → ∀ (w121 : Int32), I118 (ad g 0) 2 = w121 → ∀ (w122 : Int32), I118 (ad g 0) 7 = w122 → ∀ (w123 : Int32), I118 (ad g 0) 15 = w123 → ∀ (w124 : Int32), I118 (ad g 0) 16 = w124 → w120.toInt ≤ w121.toInt → w122.toInt = w113.toInt → w123.toInt = w114.toInt → w124.toInt = w115.toInt → (901 - w120.toInt).toNat < mz → WP g mX11_scan 0 [(0, .ref (ad g 0))] [] I118 J119 R (fun r I' J' R' => (MP g n L I' ∧ R' = R ∧ (I' (ad g 0) 4).toInt ≤ (I' (ad g 0) 2).toInt ∧ I' (ad g 0) 7 = I (ad g 0) 7 ∧ I' (ad g 0) 15 = I (ad g 0) 15 ∧ I' (ad g 0) 16 = I (ad g 0) 16) ∧ r = none) := by
    intro mz
    induction mz with
    | zero =>
      intro  I118 J119 hI118 w120 ew120 w121 ew121 w122 ew122 w123 ew123 w124 ew124 j0_I118 j1_I118 j2_I118 j3_I118 hmlp0_124
      exact absurd hmlp0_124 (Nat.not_lt_zero _)
    | succ mz ihlp0_124 =>
      intro  I118 J119 hI118 w120 ew120 w121 ew121 w122 ew122 w123 ew123 w124 ew124 j0_I118 j1_I118 j2_I118 j3_I118 hmlp0_124
      have bw120 := BT_get hI118.1.1 0 4 5 (0) (0) (900) (by decide) 4 (by decide) (by decide)
      rw [ew120] at bw120
      have bw121 := BT_get hI118.1.1 0 2 3 (0) (0) (900) (by decide) 2 (by decide) (by decide)
      rw [ew121] at bw121
      have bw122 := BT_get hI118.1.1 0 7 8 (-1) (0) (1000) (by decide) 7 (by decide) (by decide)
      rw [ew122] at bw122
      have bw123 := BT_get hI118.1.1 0 15 16 (0) (0) (4) (by decide) 15 (by decide) (by decide)
      rw [ew123] at bw123
      have bw124 := BT_get hI118.1.1 0 16 17 (0) (0) (3) (by decide) 16 (by decide) (by decide)
      rw [ew124] at bw124
      have e126 : I118 (ad g 0) 1 = L := hI118.1.2
      have b127 := BT_get hI118.1.1 0 1 2 (0) (0) (900) (by decide) 1 (by decide) (by decide)
      rw [e126] at b127
      refine WP_aload_n dX11_scan_0 rfl ?_
      refine WQ_getim dX11_scan_1 fX11_20 rfl (ly_is hy 0 11 rfl) ew120 ?_
      refine WP_aload_n dX11_scan_4 rfl ?_
      refine WQ_getim dX11_scan_5 fX11_13 rfl (ly_is hy 0 11 rfl) ew121 ?_
      refine WQ_icmp_ge 52 dX11_scan_8 rfl (fun c127 => ?_) (fun c127 => ?_)
      · refine WP_aload_n dX11_scan_52 rfl ?_
        refine WP_aload_n dX11_scan_53 rfl ?_
        refine WQ_getim dX11_scan_54 fX11_20 rfl (ly_is hy 0 11 rfl) ew120 ?_
        refine WQ_puti dX11_scan_57 fX11_7 rfl rfl (ly_is hy 0 11 rfl) (fun I129 eI129 => ?_)
        have hI129 : MP g n L I129 := by rw [eI129]; exact (mp_w hy hI118 (c := 0) (mi_f hy hI118.1 (c := 0) (0) (0) (900) (by decide) (Or.inr (by decide)) (by decide) (by omega) (by omega)) (by decide) (by decide) (Or.inr (by decide)))
        have e130 : I129 (ad g 0) 4 = w120 := by rw [eI129, pp_ne _ _ (Or.inr (by decide))]; exact ew120
        have e131 : I129 (ad g 0) 2 = w121 := by rw [eI129, pp_ne _ _ (Or.inr (by decide))]; exact ew121
        have e132 : I129 (ad g 0) 7 = w122 := by rw [eI129, pp_ne _ _ (Or.inr (by decide))]; exact ew122
        have e133 : I129 (ad g 0) 15 = w123 := by rw [eI129, pp_ne _ _ (Or.inr (by decide))]; exact ew123
        have e134 : I129 (ad g 0) 16 = w124 := by rw [eI129, pp_ne _ _ (Or.inr (by decide))]; exact ew124
        have e135 : I129 (ad g 0) 1 = L := by rw [eI129, pp_ne _ _ (Or.inr (by decide))]; exact e126
        have e136 : I129 (ad g 0) 3 = w120 := by rw [eI129, pp_self]
        clear eI129
        refine WP_aload_n dX11_scan_60 rfl ?_
        refine WP_aload_n dX11_scan_61 rfl ?_
        refine WQ_getim dX11_scan_62 fX11_7 rfl (ly_is hy 0 11 rfl) e136 ?_
        refine WP_callV1 (k := 11) dX11_scan_65 ⟨⟨⟨by decide, by decide⟩, zX11_byteAt⟩, lX11_23, by decide, rfl, vX11_byteAt.1, vX11_byteAt.2⟩ (ly_is hy 0 11 rfl) (sm_byteAt hy hr hI129 w120 (by omega) (by omega)) (Nat.le_of_ble_eq_true rfl) ?_
        intro r Ia Ja Ra hq
        obtain ⟨⟨ea, eb, ec⟩, v137, rfl, cv137⟩ := hq
        show WP _ _ _ _ (.int _ :: _) _ _ _ _
        rw [ea, eb, ec]
        clear ea eb ec Ia Ja Ra
        rw [e131] at cv137
        refine WP_istore_n (ls' := [(0, _), (1, _)]) dX11_scan_68 (by decide) rfl ?_
        refine WP_aload_n dX11_scan_69 rfl ?_
        refine WQ_getim dX11_scan_70 fX11_7 rfl (ly_is hy 0 11 rfl) e136 ?_
        refine WP_aload_n dX11_scan_73 rfl ?_
        refine WQ_getim dX11_scan_74 fX11_13 rfl (ly_is hy 0 11 rfl) e131 ?_
        refine WQ_icmp_ne 88 dX11_scan_77 rfl (fun c137 => ?_) (fun c137 => ?_)
        · refine WP_iload_n dX11_scan_88 rfl ?_
          refine WP_callS1 dX11_scan_89 ⟨⟨⟨by decide, by decide⟩, zX11_isSmall⟩, lX11_30, tX11_isSmall⟩ (sm_isSmall hy hr hI129 v137 ) (Nat.le_of_ble_eq_true rfl) ?_
          intro r Ia Ja Ra hq
          obtain ⟨⟨ea, eb, ec⟩, v139, rfl, av139, bv139, cv139⟩ := hq
          show WP _ _ _ _ (.int _ :: _) _ _ _ _
          rw [ea, eb, ec]
          clear ea eb ec Ia Ja Ra
          refine WQ_if_eq 148 dX11_scan_92 rfl (fun c139 => ?_) (fun c139 => ?_)
          · refine WP_iload_n dX11_scan_148 rfl ?_
            refine WP_callS1 dX11_scan_149 ⟨⟨⟨by decide, by decide⟩, zX11_isDigit⟩, lX11_34, tX11_isDigit⟩ (sm_isDigit hy hr hI129 v137 ) (Nat.le_of_ble_eq_true rfl) ?_
            intro r Ia Ja Ra hq
            obtain ⟨⟨ea, eb, ec⟩, v141, rfl, av141, bv141, cv141⟩ := hq
            show WP _ _ _ _ (.int _ :: _) _ _ _ _
            rw [ea, eb, ec]
            clear ea eb ec Ia Ja Ra
            refine WQ_if_eq 248 dX11_scan_152 rfl (fun c141 => ?_) (fun c141 => ?_)
            · refine WP_aload_n dX11_scan_248 rfl ?_
              refine WP_iload_n dX11_scan_249 rfl ?_
              refine WQ_bipush (59) (59) dX11_scan_250 rfl rfl (fun v143 hv143 => ?_)
              have jn260_146 : ∀ (v146 : Int32), 3 ≤ v146.toInt → v146.toInt ≤ 4 → WP g mX11_scan 260 [(0, .ref (ad g 0)), (1, .int v137)] [.int v146, .ref (ad g 0)] I129 J119 R (fun r I' J' R' => (MP g n L I' ∧ R' = R ∧ (I' (ad g 0) 4).toInt ≤ (I' (ad g 0) 2).toInt ∧ I' (ad g 0) 7 = I (ad g 0) 7 ∧ I' (ad g 0) 15 = I (ad g 0) 15 ∧ I' (ad g 0) 16 = I (ad g 0) 16) ∧ r = none) := by
                intro v146 av146 bv146
                refine WQ_puti dX11_scan_260 fX11_27 rfl rfl (ly_is hy 0 11 rfl) (fun I148 eI148 => ?_)
                have hI148 : MP g n L I148 := by rw [eI148]; exact (mp_w hy hI129 (c := 0) (mi_f hy hI129.1 (c := 0) (0) (0) (4) (by decide) (Or.inr (by decide)) (by decide) (by omega) (by omega)) (by decide) (by decide) (Or.inr (by decide)))
                have e149 : I148 (ad g 0) 4 = w120 := by rw [eI148, pp_ne _ _ (Or.inr (by decide))]; exact e130
                have e150 : I148 (ad g 0) 2 = w121 := by rw [eI148, pp_ne _ _ (Or.inr (by decide))]; exact e131
                have e151 : I148 (ad g 0) 7 = w122 := by rw [eI148, pp_ne _ _ (Or.inr (by decide))]; exact e132
                have e152 : I148 (ad g 0) 15 = w123 := by rw [eI148, pp_ne _ _ (Or.inr (by decide))]; exact e133
                have e153 : I148 (ad g 0) 16 = w124 := by rw [eI148, pp_ne _ _ (Or.inr (by decide))]; exact e134
                have e154 : I148 (ad g 0) 1 = L := by rw [eI148, pp_ne _ _ (Or.inr (by decide))]; exact e135
                have e155 : I148 (ad g 0) 3 = w120 := by rw [eI148, pp_ne _ _ (Or.inr (by decide))]; exact e136
                have e156 : I148 (ad g 0) 5 = v146 := by rw [eI148, pp_self]
                clear eI148
                refine WP_aload_n dX11_scan_263 rfl ?_
                refine WP_dup dX11_scan_264 rfl ?_
                refine WQ_getim dX11_scan_265 fX11_20 rfl (ly_is hy 0 11 rfl) e149 ?_
                refine WQ_iconst (1) (1) dX11_scan_268 rfl rfl (fun v157 hv157 => ?_)
                refine WQ_iadd dX11_scan_269 (by omega) (by omega) (fun v158 hv158 => ?_)
                refine WQ_puti dX11_scan_270 fX11_20 rfl rfl (ly_is hy 0 11 rfl) (fun I159 eI159 => ?_)
                have hI159 : MP g n L I159 := by rw [eI159]; exact (mp_w hy hI148 (c := 0) (mi_f hy hI148.1 (c := 0) (0) (0) (900) (by decide) (Or.inr (by decide)) (by decide) (by omega) (by omega)) (by decide) (by decide) (Or.inr (by decide)))
                have e160 : I159 (ad g 0) 2 = w121 := by rw [eI159, pp_ne _ _ (Or.inr (by decide))]; exact e150
                have e161 : I159 (ad g 0) 7 = w122 := by rw [eI159, pp_ne _ _ (Or.inr (by decide))]; exact e151
                have e162 : I159 (ad g 0) 15 = w123 := by rw [eI159, pp_ne _ _ (Or.inr (by decide))]; exact e152
                have e163 : I159 (ad g 0) 16 = w124 := by rw [eI159, pp_ne _ _ (Or.inr (by decide))]; exact e153
                have e164 : I159 (ad g 0) 1 = L := by rw [eI159, pp_ne _ _ (Or.inr (by decide))]; exact e154
                have e165 : I159 (ad g 0) 3 = w120 := by rw [eI159, pp_ne _ _ (Or.inr (by decide))]; exact e155
                have e166 : I159 (ad g 0) 5 = v146 := by rw [eI159, pp_ne _ _ (Or.inr (by decide))]; exact e156
                have e167 : I159 (ad g 0) 4 = v158 := by rw [eI159, pp_self]
                clear eI159
                exact WP_vret dX11_scan_273 rfl ⟨⟨hI159, rfl, ⟨(by rw [e167, e160]; omega), (by rw [e161, ew113] <;> exact (eq32 _ _).mpr (by omega)), (by rw [e162, ew114] <;> exact (eq32 _ _).mpr (by omega)), (by rw [e163, ew115] <;> exact (eq32 _ _).mpr (by omega))⟩⟩, rfl⟩
              refine WQ_icmp_ne 259 dX11_scan_252 rfl (fun c167 => ?_) (fun c167 => ?_)
              · refine WQ_iconst (4) (4) dX11_scan_259 rfl rfl (fun v169 hv169 => ?_)
                exact WP_sub (fc rfl (fc rfl fn)) (jn260_146 v169 (by omega) (by omega))
              · refine WQ_iconst (3) (3) dX11_scan_255 rfl rfl (fun v170 hv170 => ?_)
                refine WP_goto 260 dX11_scan_256 rfl ?_
                exact WP_sub (fc rfl (fc rfl fn)) (jn260_146 v170 (by omega) (by omega))
            · refine WP_aload_n dX11_scan_155 rfl ?_
              refine WQ_iconst (0) (0) dX11_scan_156 rfl rfl (fun v171 hv171 => ?_)
              refine WQ_puti dX11_scan_157 fX11_37 rfl rfl (ly_is hy 0 11 rfl) (fun I172 eI172 => ?_)
              have hI172 : MP g n L I172 := by rw [eI172]; exact (mp_w hy hI129 (c := 0) (mi_f0 hy hI129.1 (c := 0) (by decide) (Or.inr (by decide)) (by decide)) (by decide) (by decide) (Or.inr (by decide)))
              have e173 : I172 (ad g 0) 4 = w120 := by rw [eI172, pp_ne _ _ (Or.inr (by decide))]; exact e130
              have e174 : I172 (ad g 0) 2 = w121 := by rw [eI172, pp_ne _ _ (Or.inr (by decide))]; exact e131
              have e175 : I172 (ad g 0) 7 = w122 := by rw [eI172, pp_ne _ _ (Or.inr (by decide))]; exact e132
              have e176 : I172 (ad g 0) 15 = w123 := by rw [eI172, pp_ne _ _ (Or.inr (by decide))]; exact e133
              have e177 : I172 (ad g 0) 16 = w124 := by rw [eI172, pp_ne _ _ (Or.inr (by decide))]; exact e134
              have e178 : I172 (ad g 0) 1 = L := by rw [eI172, pp_ne _ _ (Or.inr (by decide))]; exact e135
              have e179 : I172 (ad g 0) 3 = w120 := by rw [eI172, pp_ne _ _ (Or.inr (by decide))]; exact e136
              have e180 : I172 (ad g 0) 6 = v171 := by rw [eI172, pp_self]
              clear eI172
              have lp160_188 : ∀ (mz : Nat)  (I181 : pI) (J182 : pJ), MP g n L I181 → ∀ (w183 : Int32), I181 (ad g 0) 4 = w183 → ∀ (w184 : Int32), I181 (ad g 0) 2 = w184 → ∀ (w185 : Int32), I181 (ad g 0) 7 = w185 → ∀ (w186 : Int32), I181 (ad g 0) 15 = w186 → ∀ (w187 : Int32), I181 (ad g 0) 16 = w187 → ∀ (w188 : Int32), I181 (ad g 0) 3 = w188 → w183.toInt ≤ w184.toInt → w185.toInt = w113.toInt → w186.toInt = w114.toInt → w187.toInt = w115.toInt → (901 - w183.toInt).toNat < mz → WP g mX11_scan 160 [(0, .ref (ad g 0)), (1, .int v137)] [] I181 J182 R (fun r I' J' R' => (MP g n L I' ∧ R' = R ∧ (I' (ad g 0) 4).toInt ≤ (I' (ad g 0) 2).toInt ∧ I' (ad g 0) 7 = I (ad g 0) 7 ∧ I' (ad g 0) 15 = I (ad g 0) 15 ∧ I' (ad g 0) 16 = I (ad g 0) 16) ∧ r = none) := by
                intro mz
                induction mz with
                | zero =>
                  intro  I181 J182 hI181 w183 ew183 w184 ew184 w185 ew185 w186 ew186 w187 ew187 w188 ew188 j0_I181 j1_I181 j2_I181 j3_I181 hmlp160_188
                  exact absurd hmlp160_188 (Nat.not_lt_zero _)
                | succ mz ihlp160_188 =>
                  intro  I181 J182 hI181 w183 ew183 w184 ew184 w185 ew185 w186 ew186 w187 ew187 w188 ew188 j0_I181 j1_I181 j2_I181 j3_I181 hmlp160_188
                  have bw183 := BT_get hI181.1.1 0 4 5 (0) (0) (900) (by decide) 4 (by decide) (by decide)
                  rw [ew183] at bw183
                  have bw184 := BT_get hI181.1.1 0 2 3 (0) (0) (900) (by decide) 2 (by decide) (by decide)
                  rw [ew184] at bw184
                  have bw185 := BT_get hI181.1.1 0 7 8 (-1) (0) (1000) (by decide) 7 (by decide) (by decide)
                  rw [ew185] at bw185
                  have bw186 := BT_get hI181.1.1 0 15 16 (0) (0) (4) (by decide) 15 (by decide) (by decide)
                  rw [ew186] at bw186
                  have bw187 := BT_get hI181.1.1 0 16 17 (0) (0) (3) (by decide) 16 (by decide) (by decide)
                  rw [ew187] at bw187
                  have bw188 := BT_get hI181.1.1 0 3 4 (0) (0) (900) (by decide) 3 (by decide) (by decide)
                  rw [ew188] at bw188
                  have e190 : I181 (ad g 0) 1 = L := hI181.1.2
                  have b191 := BT_get hI181.1.1 0 1 2 (0) (0) (900) (by decide) 1 (by decide) (by decide)
                  rw [e190] at b191
                  refine WP_aload_n dX11_scan_160 rfl ?_
                  refine WP_aload_n dX11_scan_161 rfl ?_
                  refine WQ_getim dX11_scan_162 fX11_20 rfl (ly_is hy 0 11 rfl) ew183 ?_
                  refine WP_callV1 (k := 11) dX11_scan_165 ⟨⟨⟨by decide, by decide⟩, zX11_byteAt⟩, lX11_23, by decide, rfl, vX11_byteAt.1, vX11_byteAt.2⟩ (ly_is hy 0 11 rfl) (sm_byteAt hy hr hI181 w183 (by omega) (by omega)) (Nat.le_of_ble_eq_true rfl) ?_
                  intro r Ia Ja Ra hq
                  obtain ⟨⟨ea, eb, ec⟩, v192, rfl, cv192⟩ := hq
                  show WP _ _ _ _ (.int _ :: _) _ _ _ _
                  rw [ea, eb, ec]
                  clear ea eb ec Ia Ja Ra
                  rw [ew184] at cv192
                  refine WP_callS1 dX11_scan_168 ⟨⟨⟨by decide, by decide⟩, zX11_isDigit⟩, lX11_34, tX11_isDigit⟩ (sm_isDigit hy hr hI181 v192 ) (Nat.le_of_ble_eq_true rfl) ?_
                  intro r Ia Ja Ra hq
                  obtain ⟨⟨ea, eb, ec⟩, v193, rfl, av193, bv193, cv193⟩ := hq
                  show WP _ _ _ _ (.int _ :: _) _ _ _ _
                  rw [ea, eb, ec]
                  clear ea eb ec Ia Ja Ra
                  refine WQ_if_eq 223 dX11_scan_171 rfl (fun c193 => ?_) (fun c193 => ?_)
                  · refine WP_aload_n dX11_scan_223 rfl ?_
                    refine WP_aload_n dX11_scan_224 rfl ?_
                    refine WQ_getim dX11_scan_225 fX11_20 rfl (ly_is hy 0 11 rfl) ew183 ?_
                    refine WP_aload_n dX11_scan_228 rfl ?_
                    refine WQ_getim dX11_scan_229 fX11_7 rfl (ly_is hy 0 11 rfl) ew188 ?_
                    refine WQ_isub dX11_scan_232 (by omega) (by omega) (fun v195 hv195 => ?_)
                    refine WQ_iconst (4) (4) dX11_scan_233 rfl rfl (fun v196 hv196 => ?_)
                    have jn242_199 : ∀ (v199 : Int32), 2 ≤ v199.toInt → v199.toInt ≤ 4 → WP g mX11_scan 242 [(0, .ref (ad g 0)), (1, .int v137)] [.int v199, .ref (ad g 0)] I181 J182 R (fun r I' J' R' => (MP g n L I' ∧ R' = R ∧ (I' (ad g 0) 4).toInt ≤ (I' (ad g 0) 2).toInt ∧ I' (ad g 0) 7 = I (ad g 0) 7 ∧ I' (ad g 0) 15 = I (ad g 0) 15 ∧ I' (ad g 0) 16 = I (ad g 0) 16) ∧ r = none) := by
                      intro v199 av199 bv199
                      refine WQ_puti dX11_scan_242 fX11_27 rfl rfl (ly_is hy 0 11 rfl) (fun I201 eI201 => ?_)
                      have hI201 : MP g n L I201 := by rw [eI201]; exact (mp_w hy hI181 (c := 0) (mi_f hy hI181.1 (c := 0) (0) (0) (4) (by decide) (Or.inr (by decide)) (by decide) (by omega) (by omega)) (by decide) (by decide) (Or.inr (by decide)))
                      have e202 : I201 (ad g 0) 4 = w183 := by rw [eI201, pp_ne _ _ (Or.inr (by decide))]; exact ew183
                      have e203 : I201 (ad g 0) 2 = w184 := by rw [eI201, pp_ne _ _ (Or.inr (by decide))]; exact ew184
                      have e204 : I201 (ad g 0) 7 = w185 := by rw [eI201, pp_ne _ _ (Or.inr (by decide))]; exact ew185
                      have e205 : I201 (ad g 0) 15 = w186 := by rw [eI201, pp_ne _ _ (Or.inr (by decide))]; exact ew186
                      have e206 : I201 (ad g 0) 16 = w187 := by rw [eI201, pp_ne _ _ (Or.inr (by decide))]; exact ew187
                      have e207 : I201 (ad g 0) 3 = w188 := by rw [eI201, pp_ne _ _ (Or.inr (by decide))]; exact ew188
                      have e208 : I201 (ad g 0) 1 = L := by rw [eI201, pp_ne _ _ (Or.inr (by decide))]; exact e190
                      have e209 : I201 (ad g 0) 5 = v199 := by rw [eI201, pp_self]
                      clear eI201
                      refine WP_goto 273 dX11_scan_245 rfl ?_
                      exact WP_vret dX11_scan_273 rfl ⟨⟨hI201, rfl, ⟨(by rw [e202, e203]; omega), (by rw [e204, ew113] <;> exact (eq32 _ _).mpr (by omega)), (by rw [e205, ew114] <;> exact (eq32 _ _).mpr (by omega)), (by rw [e206, ew115] <;> exact (eq32 _ _).mpr (by omega))⟩⟩, rfl⟩
                    refine WQ_icmp_le 241 dX11_scan_234 rfl (fun c209 => ?_) (fun c209 => ?_)
                    · refine WQ_iconst (2) (2) dX11_scan_241 rfl rfl (fun v211 hv211 => ?_)
                      exact WP_sub (fc rfl (fc rfl fn)) (jn242_199 v211 (by omega) (by omega))
                    · refine WQ_iconst (4) (4) dX11_scan_237 rfl rfl (fun v212 hv212 => ?_)
                      refine WP_goto 242 dX11_scan_238 rfl ?_
                      exact WP_sub (fc rfl (fc rfl fn)) (jn242_199 v212 (by omega) (by omega))
                  · refine WP_aload_n dX11_scan_174 rfl ?_
                    refine WQ_getim dX11_scan_175 fX11_20 rfl (ly_is hy 0 11 rfl) ew183 ?_
                    refine WP_aload_n dX11_scan_178 rfl ?_
                    refine WQ_getim dX11_scan_179 fX11_7 rfl (ly_is hy 0 11 rfl) ew188 ?_
                    refine WQ_isub dX11_scan_182 (by omega) (by omega) (fun v213 hv213 => ?_)
                    refine WQ_iconst (4) (4) dX11_scan_183 rfl rfl (fun v214 hv214 => ?_)
                    refine WQ_icmp_ge 210 dX11_scan_184 rfl (fun c214 => ?_) (fun c214 => ?_)
                    · refine WP_aload_n dX11_scan_210 rfl ?_
                      refine WP_dup dX11_scan_211 rfl ?_
                      refine WQ_getim dX11_scan_212 fX11_20 rfl (ly_is hy 0 11 rfl) ew183 ?_
                      refine WQ_iconst (1) (1) dX11_scan_215 rfl rfl (fun v216 hv216 => ?_)
                      refine WQ_iadd dX11_scan_216 (by omega) (by omega) (fun v217 hv217 => ?_)
                      refine WQ_puti dX11_scan_217 fX11_20 rfl rfl (ly_is hy 0 11 rfl) (fun I218 eI218 => ?_)
                      have hI218 : MP g n L I218 := by rw [eI218]; exact (mp_w hy hI181 (c := 0) (mi_f hy hI181.1 (c := 0) (0) (0) (900) (by decide) (Or.inr (by decide)) (by decide) (by omega) (by omega)) (by decide) (by decide) (Or.inr (by decide)))
                      have e219 : I218 (ad g 0) 2 = w184 := by rw [eI218, pp_ne _ _ (Or.inr (by decide))]; exact ew184
                      have e220 : I218 (ad g 0) 7 = w185 := by rw [eI218, pp_ne _ _ (Or.inr (by decide))]; exact ew185
                      have e221 : I218 (ad g 0) 15 = w186 := by rw [eI218, pp_ne _ _ (Or.inr (by decide))]; exact ew186
                      have e222 : I218 (ad g 0) 16 = w187 := by rw [eI218, pp_ne _ _ (Or.inr (by decide))]; exact ew187
                      have e223 : I218 (ad g 0) 3 = w188 := by rw [eI218, pp_ne _ _ (Or.inr (by decide))]; exact ew188
                      have e224 : I218 (ad g 0) 1 = L := by rw [eI218, pp_ne _ _ (Or.inr (by decide))]; exact e190
                      have e225 : I218 (ad g 0) 4 = v217 := by rw [eI218, pp_self]
                      clear eI218
                      refine WP_goto 160 dX11_scan_220 rfl ?_
                      exact WP_sub (fc rfl (fc rfl fn)) (ihlp160_188 I218 J182 hI218 v217 e225 w184 e219 w185 e220 w186 e221 w187 e222 w188 e223 (by omega) (by omega) (by omega) (by omega) (by omega))
                    · refine WP_aload_n dX11_scan_187 rfl ?_
                      refine WQ_bipush (10) (10) dX11_scan_188 rfl rfl (fun v226 hv226 => ?_)
                      refine WP_aload_n dX11_scan_190 rfl ?_
                      refine WQ_getiu dX11_scan_191 fX11_37 rfl (ly_is hy 0 11 rfl) (fun v227 ev227 => ?_)
                      refine WQ_imulu dX11_scan_194 (fun v228 => ?_)
                      refine WP_aload_n dX11_scan_195 rfl ?_
                      refine WP_aload_n dX11_scan_196 rfl ?_
                      refine WQ_getim dX11_scan_197 fX11_20 rfl (ly_is hy 0 11 rfl) ew183 ?_
                      refine WP_callV1 (k := 11) dX11_scan_200 ⟨⟨⟨by decide, by decide⟩, zX11_byteAt⟩, lX11_23, by decide, rfl, vX11_byteAt.1, vX11_byteAt.2⟩ (ly_is hy 0 11 rfl) (sm_byteAt hy hr hI181 w183 (by omega) (by omega)) (Nat.le_of_ble_eq_true rfl) ?_
                      intro r Ia Ja Ra hq
                      obtain ⟨⟨ea, eb, ec⟩, v229, rfl, cv229⟩ := hq
                      show WP _ _ _ _ (.int _ :: _) _ _ _ _
                      rw [ea, eb, ec]
                      clear ea eb ec Ia Ja Ra
                      rw [ew184] at cv229
                      refine WQ_iaddu dX11_scan_203 (fun v230 => ?_)
                      refine WQ_bipush (48) (48) dX11_scan_204 rfl rfl (fun v231 hv231 => ?_)
                      refine WQ_isubu dX11_scan_206 (fun v232 => ?_)
                      refine WQ_puti dX11_scan_207 fX11_37 rfl rfl (ly_is hy 0 11 rfl) (fun I233 eI233 => ?_)
                      have hI233 : MP g n L I233 := by rw [eI233]; exact (mp_w hy hI181 (c := 0) (mi_f0 hy hI181.1 (c := 0) (by decide) (Or.inr (by decide)) (by decide)) (by decide) (by decide) (Or.inr (by decide)))
                      have e234 : I233 (ad g 0) 4 = w183 := by rw [eI233, pp_ne _ _ (Or.inr (by decide))]; exact ew183
                      have e235 : I233 (ad g 0) 2 = w184 := by rw [eI233, pp_ne _ _ (Or.inr (by decide))]; exact ew184
                      have e236 : I233 (ad g 0) 7 = w185 := by rw [eI233, pp_ne _ _ (Or.inr (by decide))]; exact ew185
                      have e237 : I233 (ad g 0) 15 = w186 := by rw [eI233, pp_ne _ _ (Or.inr (by decide))]; exact ew186
                      have e238 : I233 (ad g 0) 16 = w187 := by rw [eI233, pp_ne _ _ (Or.inr (by decide))]; exact ew187
                      have e239 : I233 (ad g 0) 3 = w188 := by rw [eI233, pp_ne _ _ (Or.inr (by decide))]; exact ew188
                      have e240 : I233 (ad g 0) 1 = L := by rw [eI233, pp_ne _ _ (Or.inr (by decide))]; exact e190
                      have e241 : I233 (ad g 0) 6 = v232 := by rw [eI233, pp_self]
                      clear eI233
                      refine WP_aload_n dX11_scan_210 rfl ?_
                      refine WP_dup dX11_scan_211 rfl ?_
                      refine WQ_getim dX11_scan_212 fX11_20 rfl (ly_is hy 0 11 rfl) e234 ?_
                      refine WQ_iconst (1) (1) dX11_scan_215 rfl rfl (fun v242 hv242 => ?_)
                      refine WQ_iadd dX11_scan_216 (by omega) (by omega) (fun v243 hv243 => ?_)
                      refine WQ_puti dX11_scan_217 fX11_20 rfl rfl (ly_is hy 0 11 rfl) (fun I244 eI244 => ?_)
                      have hI244 : MP g n L I244 := by rw [eI244]; exact (mp_w hy hI233 (c := 0) (mi_f hy hI233.1 (c := 0) (0) (0) (900) (by decide) (Or.inr (by decide)) (by decide) (by omega) (by omega)) (by decide) (by decide) (Or.inr (by decide)))
                      have e245 : I244 (ad g 0) 2 = w184 := by rw [eI244, pp_ne _ _ (Or.inr (by decide))]; exact e235
                      have e246 : I244 (ad g 0) 7 = w185 := by rw [eI244, pp_ne _ _ (Or.inr (by decide))]; exact e236
                      have e247 : I244 (ad g 0) 15 = w186 := by rw [eI244, pp_ne _ _ (Or.inr (by decide))]; exact e237
                      have e248 : I244 (ad g 0) 16 = w187 := by rw [eI244, pp_ne _ _ (Or.inr (by decide))]; exact e238
                      have e249 : I244 (ad g 0) 3 = w188 := by rw [eI244, pp_ne _ _ (Or.inr (by decide))]; exact e239
                      have e250 : I244 (ad g 0) 1 = L := by rw [eI244, pp_ne _ _ (Or.inr (by decide))]; exact e240
                      have e251 : I244 (ad g 0) 6 = v232 := by rw [eI244, pp_ne _ _ (Or.inr (by decide))]; exact e241
                      have e252 : I244 (ad g 0) 4 = v243 := by rw [eI244, pp_self]
                      clear eI244
                      refine WP_goto 160 dX11_scan_220 rfl ?_
                      exact WP_sub (fc rfl (fc rfl fn)) (ihlp160_188 I244 J182 hI244 v243 e252 w184 e245 w185 e246 w186 e247 w187 e248 w188 e249 (by omega) (by omega) (by omega) (by omega) (by omega))
              exact WP_sub (fc rfl (fc rfl fn)) (lp160_188 _ I172 J119 hI172 w120 e173 w121 e174 w122 e175 w123 e176 w124 e177 w120 e179 (by omega) (by omega) (by omega) (by omega) (Nat.lt_succ_self _))
          · have lp95_260 : ∀ (mz : Nat)  (I253 : pI) (J254 : pJ), MP g n L I253 → ∀ (w255 : Int32), I253 (ad g 0) 4 = w255 → ∀ (w256 : Int32), I253 (ad g 0) 2 = w256 → ∀ (w257 : Int32), I253 (ad g 0) 7 = w257 → ∀ (w258 : Int32), I253 (ad g 0) 15 = w258 → ∀ (w259 : Int32), I253 (ad g 0) 16 = w259 → ∀ (w260 : Int32), I253 (ad g 0) 3 = w260 → w255.toInt ≤ w256.toInt → w257.toInt = w113.toInt → w258.toInt = w114.toInt → w259.toInt = w115.toInt → (901 - w255.toInt).toNat < mz → WP g mX11_scan 95 [(0, .ref (ad g 0)), (1, .int v137)] [] I253 J254 R (fun r I' J' R' => (MP g n L I' ∧ R' = R ∧ (I' (ad g 0) 4).toInt ≤ (I' (ad g 0) 2).toInt ∧ I' (ad g 0) 7 = I (ad g 0) 7 ∧ I' (ad g 0) 15 = I (ad g 0) 15 ∧ I' (ad g 0) 16 = I (ad g 0) 16) ∧ r = none) := by
              intro mz
              induction mz with
              | zero =>
                intro  I253 J254 hI253 w255 ew255 w256 ew256 w257 ew257 w258 ew258 w259 ew259 w260 ew260 j0_I253 j1_I253 j2_I253 j3_I253 hmlp95_260
                exact absurd hmlp95_260 (Nat.not_lt_zero _)
              | succ mz ihlp95_260 =>
                intro  I253 J254 hI253 w255 ew255 w256 ew256 w257 ew257 w258 ew258 w259 ew259 w260 ew260 j0_I253 j1_I253 j2_I253 j3_I253 hmlp95_260
                have bw255 := BT_get hI253.1.1 0 4 5 (0) (0) (900) (by decide) 4 (by decide) (by decide)
                rw [ew255] at bw255
                have bw256 := BT_get hI253.1.1 0 2 3 (0) (0) (900) (by decide) 2 (by decide) (by decide)
                rw [ew256] at bw256
                have bw257 := BT_get hI253.1.1 0 7 8 (-1) (0) (1000) (by decide) 7 (by decide) (by decide)
                rw [ew257] at bw257
                have bw258 := BT_get hI253.1.1 0 15 16 (0) (0) (4) (by decide) 15 (by decide) (by decide)
                rw [ew258] at bw258
                have bw259 := BT_get hI253.1.1 0 16 17 (0) (0) (3) (by decide) 16 (by decide) (by decide)
                rw [ew259] at bw259
                have bw260 := BT_get hI253.1.1 0 3 4 (0) (0) (900) (by decide) 3 (by decide) (by decide)
                rw [ew260] at bw260
                have e262 : I253 (ad g 0) 1 = L := hI253.1.2
                have b263 := BT_get hI253.1.1 0 1 2 (0) (0) (900) (by decide) 1 (by decide) (by decide)
                rw [e262] at b263
                refine WP_aload_n dX11_scan_95 rfl ?_
                refine WP_aload_n dX11_scan_96 rfl ?_
                refine WQ_getim dX11_scan_97 fX11_20 rfl (ly_is hy 0 11 rfl) ew255 ?_
                refine WP_callV1 (k := 11) dX11_scan_100 ⟨⟨⟨by decide, by decide⟩, zX11_byteAt⟩, lX11_23, by decide, rfl, vX11_byteAt.1, vX11_byteAt.2⟩ (ly_is hy 0 11 rfl) (sm_byteAt hy hr hI253 w255 (by omega) (by omega)) (Nat.le_of_ble_eq_true rfl) ?_
                intro r Ia Ja Ra hq
                obtain ⟨⟨ea, eb, ec⟩, v264, rfl, cv264⟩ := hq
                show WP _ _ _ _ (.int _ :: _) _ _ _ _
                rw [ea, eb, ec]
                clear ea eb ec Ia Ja Ra
                rw [ew256] at cv264
                refine WP_callS1 dX11_scan_103 ⟨⟨⟨by decide, by decide⟩, zX11_isSmall⟩, lX11_30, tX11_isSmall⟩ (sm_isSmall hy hr hI253 v264 ) (Nat.le_of_ble_eq_true rfl) ?_
                intro r Ia Ja Ra hq
                obtain ⟨⟨ea, eb, ec⟩, v265, rfl, av265, bv265, cv265⟩ := hq
                show WP _ _ _ _ (.int _ :: _) _ _ _ _
                rw [ea, eb, ec]
                clear ea eb ec Ia Ja Ra
                refine WQ_if_eq 122 dX11_scan_106 rfl (fun c265 => ?_) (fun c265 => ?_)
                · refine WP_aload_n dX11_scan_122 rfl ?_
                  refine WP_aload_n dX11_scan_123 rfl ?_
                  refine WQ_getim dX11_scan_124 fX11_20 rfl (ly_is hy 0 11 rfl) ew255 ?_
                  refine WP_aload_n dX11_scan_127 rfl ?_
                  refine WQ_getim dX11_scan_128 fX11_7 rfl (ly_is hy 0 11 rfl) ew260 ?_
                  refine WQ_isub dX11_scan_131 (by omega) (by omega) (fun v267 hv267 => ?_)
                  refine WQ_bipush (8) (8) dX11_scan_132 rfl rfl (fun v268 hv268 => ?_)
                  have jn142_271 : ∀ (v271 : Int32), 1 ≤ v271.toInt → v271.toInt ≤ 4 → WP g mX11_scan 142 [(0, .ref (ad g 0)), (1, .int v137)] [.int v271, .ref (ad g 0)] I253 J254 R (fun r I' J' R' => (MP g n L I' ∧ R' = R ∧ (I' (ad g 0) 4).toInt ≤ (I' (ad g 0) 2).toInt ∧ I' (ad g 0) 7 = I (ad g 0) 7 ∧ I' (ad g 0) 15 = I (ad g 0) 15 ∧ I' (ad g 0) 16 = I (ad g 0) 16) ∧ r = none) := by
                    intro v271 av271 bv271
                    refine WQ_puti dX11_scan_142 fX11_27 rfl rfl (ly_is hy 0 11 rfl) (fun I273 eI273 => ?_)
                    have hI273 : MP g n L I273 := by rw [eI273]; exact (mp_w hy hI253 (c := 0) (mi_f hy hI253.1 (c := 0) (0) (0) (4) (by decide) (Or.inr (by decide)) (by decide) (by omega) (by omega)) (by decide) (by decide) (Or.inr (by decide)))
                    have e274 : I273 (ad g 0) 4 = w255 := by rw [eI273, pp_ne _ _ (Or.inr (by decide))]; exact ew255
                    have e275 : I273 (ad g 0) 2 = w256 := by rw [eI273, pp_ne _ _ (Or.inr (by decide))]; exact ew256
                    have e276 : I273 (ad g 0) 7 = w257 := by rw [eI273, pp_ne _ _ (Or.inr (by decide))]; exact ew257
                    have e277 : I273 (ad g 0) 15 = w258 := by rw [eI273, pp_ne _ _ (Or.inr (by decide))]; exact ew258
                    have e278 : I273 (ad g 0) 16 = w259 := by rw [eI273, pp_ne _ _ (Or.inr (by decide))]; exact ew259
                    have e279 : I273 (ad g 0) 3 = w260 := by rw [eI273, pp_ne _ _ (Or.inr (by decide))]; exact ew260
                    have e280 : I273 (ad g 0) 1 = L := by rw [eI273, pp_ne _ _ (Or.inr (by decide))]; exact e262
                    have e281 : I273 (ad g 0) 5 = v271 := by rw [eI273, pp_self]
                    clear eI273
                    refine WP_goto 273 dX11_scan_145 rfl ?_
                    exact WP_vret dX11_scan_273 rfl ⟨⟨hI273, rfl, ⟨(by rw [e274, e275]; omega), (by rw [e276, ew113] <;> exact (eq32 _ _).mpr (by omega)), (by rw [e277, ew114] <;> exact (eq32 _ _).mpr (by omega)), (by rw [e278, ew115] <;> exact (eq32 _ _).mpr (by omega))⟩⟩, rfl⟩
                  refine WQ_icmp_le 141 dX11_scan_134 rfl (fun c281 => ?_) (fun c281 => ?_)
                  · refine WQ_iconst (1) (1) dX11_scan_141 rfl rfl (fun v283 hv283 => ?_)
                    exact WP_sub (fc rfl (fc rfl fn)) (jn142_271 v283 (by omega) (by omega))
                  · refine WQ_iconst (4) (4) dX11_scan_137 rfl rfl (fun v284 hv284 => ?_)
                    refine WP_goto 142 dX11_scan_138 rfl ?_
                    exact WP_sub (fc rfl (fc rfl fn)) (jn142_271 v284 (by omega) (by omega))
                · refine WP_aload_n dX11_scan_109 rfl ?_
                  refine WP_dup dX11_scan_110 rfl ?_
                  refine WQ_getim dX11_scan_111 fX11_20 rfl (ly_is hy 0 11 rfl) ew255 ?_
                  refine WQ_iconst (1) (1) dX11_scan_114 rfl rfl (fun v285 hv285 => ?_)
                  refine WQ_iadd dX11_scan_115 (by omega) (by omega) (fun v286 hv286 => ?_)
                  refine WQ_puti dX11_scan_116 fX11_20 rfl rfl (ly_is hy 0 11 rfl) (fun I287 eI287 => ?_)
                  have hI287 : MP g n L I287 := by rw [eI287]; exact (mp_w hy hI253 (c := 0) (mi_f hy hI253.1 (c := 0) (0) (0) (900) (by decide) (Or.inr (by decide)) (by decide) (by omega) (by omega)) (by decide) (by decide) (Or.inr (by decide)))
                  have e288 : I287 (ad g 0) 2 = w256 := by rw [eI287, pp_ne _ _ (Or.inr (by decide))]; exact ew256
                  have e289 : I287 (ad g 0) 7 = w257 := by rw [eI287, pp_ne _ _ (Or.inr (by decide))]; exact ew257
                  have e290 : I287 (ad g 0) 15 = w258 := by rw [eI287, pp_ne _ _ (Or.inr (by decide))]; exact ew258
                  have e291 : I287 (ad g 0) 16 = w259 := by rw [eI287, pp_ne _ _ (Or.inr (by decide))]; exact ew259
                  have e292 : I287 (ad g 0) 3 = w260 := by rw [eI287, pp_ne _ _ (Or.inr (by decide))]; exact ew260
                  have e293 : I287 (ad g 0) 1 = L := by rw [eI287, pp_ne _ _ (Or.inr (by decide))]; exact e262
                  have e294 : I287 (ad g 0) 4 = v286 := by rw [eI287, pp_self]
                  clear eI287
                  refine WP_goto 95 dX11_scan_119 rfl ?_
                  exact WP_sub (fc rfl (fc rfl fn)) (ihlp95_260 I287 J254 hI287 v286 e294 w256 e288 w257 e289 w258 e290 w259 e291 w260 e292 (by omega) (by omega) (by omega) (by omega) (by omega))
            exact WP_sub (fc rfl (fc rfl fn)) (lp95_260 _ I129 J119 hI129 w120 e130 w121 e131 w122 e132 w123 e133 w124 e134 w120 e136 (by omega) (by omega) (by omega) (by omega) (Nat.lt_succ_self _))
        · refine WP_aload_n dX11_scan_80 rfl ?_
          refine WQ_iconst (0) (0) dX11_scan_81 rfl rfl (fun v295 hv295 => ?_)
          refine WQ_puti dX11_scan_82 fX11_27 rfl rfl (ly_is hy 0 11 rfl) (fun I296 eI296 => ?_)
          have hI296 : MP g n L I296 := by rw [eI296]; exact (mp_w hy hI129 (c := 0) (mi_f hy hI129.1 (c := 0) (0) (0) (4) (by decide) (Or.inr (by decide)) (by decide) (by omega) (by omega)) (by decide) (by decide) (Or.inr (by decide)))
          have e297 : I296 (ad g 0) 4 = w120 := by rw [eI296, pp_ne _ _ (Or.inr (by decide))]; exact e130
          have e298 : I296 (ad g 0) 2 = w121 := by rw [eI296, pp_ne _ _ (Or.inr (by decide))]; exact e131
          have e299 : I296 (ad g 0) 7 = w122 := by rw [eI296, pp_ne _ _ (Or.inr (by decide))]; exact e132
          have e300 : I296 (ad g 0) 15 = w123 := by rw [eI296, pp_ne _ _ (Or.inr (by decide))]; exact e133
          have e301 : I296 (ad g 0) 16 = w124 := by rw [eI296, pp_ne _ _ (Or.inr (by decide))]; exact e134
          have e302 : I296 (ad g 0) 1 = L := by rw [eI296, pp_ne _ _ (Or.inr (by decide))]; exact e135
          have e303 : I296 (ad g 0) 3 = w120 := by rw [eI296, pp_ne _ _ (Or.inr (by decide))]; exact e136
          have e304 : I296 (ad g 0) 5 = v295 := by rw [eI296, pp_self]
          clear eI296
          refine WP_goto 273 dX11_scan_85 rfl ?_
          exact WP_vret dX11_scan_273 rfl ⟨⟨hI296, rfl, ⟨(by rw [e297, e298]; omega), (by rw [e299, ew113] <;> exact (eq32 _ _).mpr (by omega)), (by rw [e300, ew114] <;> exact (eq32 _ _).mpr (by omega)), (by rw [e301, ew115] <;> exact (eq32 _ _).mpr (by omega))⟩⟩, rfl⟩
      · refine WP_aload_n dX11_scan_11 rfl ?_
        refine WP_getr dX11_scan_12 fX11_16 rfl (ly_is hy 0 11 rfl) (rf hr 0 0 1 (by decide)) ?_
        refine WP_aload_n dX11_scan_15 rfl ?_
        refine WQ_getim dX11_scan_16 fX11_20 rfl (ly_is hy 0 11 rfl) ew120 ?_
        refine WQ_baldu dX11_scan_19 (ly_is hy 1 12 rfl) (ly_n hy 1 900 rfl) (by omega) (by omega) (fun v305 => ?_)
        refine WQ_bipush (32) (32) dX11_scan_20 rfl rfl (fun v306 hv306 => ?_)
        refine WQ_icmp_eq 39 dX11_scan_22 rfl (fun c306 => ?_) (fun c306 => ?_)
        · refine WP_aload_n dX11_scan_39 rfl ?_
          refine WP_dup dX11_scan_40 rfl ?_
          refine WQ_getim dX11_scan_41 fX11_20 rfl (ly_is hy 0 11 rfl) ew120 ?_
          refine WQ_iconst (1) (1) dX11_scan_44 rfl rfl (fun v308 hv308 => ?_)
          refine WQ_iadd dX11_scan_45 (by omega) (by omega) (fun v309 hv309 => ?_)
          refine WQ_puti dX11_scan_46 fX11_20 rfl rfl (ly_is hy 0 11 rfl) (fun I310 eI310 => ?_)
          have hI310 : MP g n L I310 := by rw [eI310]; exact (mp_w hy hI118 (c := 0) (mi_f hy hI118.1 (c := 0) (0) (0) (900) (by decide) (Or.inr (by decide)) (by decide) (by omega) (by omega)) (by decide) (by decide) (Or.inr (by decide)))
          have e311 : I310 (ad g 0) 2 = w121 := by rw [eI310, pp_ne _ _ (Or.inr (by decide))]; exact ew121
          have e312 : I310 (ad g 0) 7 = w122 := by rw [eI310, pp_ne _ _ (Or.inr (by decide))]; exact ew122
          have e313 : I310 (ad g 0) 15 = w123 := by rw [eI310, pp_ne _ _ (Or.inr (by decide))]; exact ew123
          have e314 : I310 (ad g 0) 16 = w124 := by rw [eI310, pp_ne _ _ (Or.inr (by decide))]; exact ew124
          have e315 : I310 (ad g 0) 1 = L := by rw [eI310, pp_ne _ _ (Or.inr (by decide))]; exact e126
          have e316 : I310 (ad g 0) 4 = v309 := by rw [eI310, pp_self]
          clear eI310
          refine WP_goto 0 dX11_scan_49 rfl ?_
          exact WP_sub (fc rfl fn) (ihlp0_124 I310 J119 hI310 v309 e316 w121 e311 w122 e312 w123 e313 w124 e314 (by omega) (by omega) (by omega) (by omega) (by omega))
        · refine WP_aload_n dX11_scan_25 rfl ?_
          refine WP_getr dX11_scan_26 fX11_16 rfl (ly_is hy 0 11 rfl) (rf hr 0 0 1 (by decide)) ?_
          refine WP_aload_n dX11_scan_29 rfl ?_
          refine WQ_getim dX11_scan_30 fX11_20 rfl (ly_is hy 0 11 rfl) ew120 ?_
          refine WQ_baldu dX11_scan_33 (ly_is hy 1 12 rfl) (ly_n hy 1 900 rfl) (by omega) (by omega) (fun v317 => ?_)
          refine WQ_bipush (10) (10) dX11_scan_34 rfl rfl (fun v318 hv318 => ?_)
          refine WQ_icmp_ne 52 dX11_scan_36 rfl (fun c318 => ?_) (fun c318 => ?_)
          · refine WP_aload_n dX11_scan_52 rfl ?_
            refine WP_aload_n dX11_scan_53 rfl ?_
            refine WQ_getim dX11_scan_54 fX11_20 rfl (ly_is hy 0 11 rfl) ew120 ?_
            refine WQ_puti dX11_scan_57 fX11_7 rfl rfl (ly_is hy 0 11 rfl) (fun I320 eI320 => ?_)
            have hI320 : MP g n L I320 := by rw [eI320]; exact (mp_w hy hI118 (c := 0) (mi_f hy hI118.1 (c := 0) (0) (0) (900) (by decide) (Or.inr (by decide)) (by decide) (by omega) (by omega)) (by decide) (by decide) (Or.inr (by decide)))
            have e321 : I320 (ad g 0) 4 = w120 := by rw [eI320, pp_ne _ _ (Or.inr (by decide))]; exact ew120
            have e322 : I320 (ad g 0) 2 = w121 := by rw [eI320, pp_ne _ _ (Or.inr (by decide))]; exact ew121
            have e323 : I320 (ad g 0) 7 = w122 := by rw [eI320, pp_ne _ _ (Or.inr (by decide))]; exact ew122
            have e324 : I320 (ad g 0) 15 = w123 := by rw [eI320, pp_ne _ _ (Or.inr (by decide))]; exact ew123
            have e325 : I320 (ad g 0) 16 = w124 := by rw [eI320, pp_ne _ _ (Or.inr (by decide))]; exact ew124
            have e326 : I320 (ad g 0) 1 = L := by rw [eI320, pp_ne _ _ (Or.inr (by decide))]; exact e126
            have e327 : I320 (ad g 0) 3 = w120 := by rw [eI320, pp_self]
            clear eI320
            refine WP_aload_n dX11_scan_60 rfl ?_
            refine WP_aload_n dX11_scan_61 rfl ?_
            refine WQ_getim dX11_scan_62 fX11_7 rfl (ly_is hy 0 11 rfl) e327 ?_
            refine WP_callV1 (k := 11) dX11_scan_65 ⟨⟨⟨by decide, by decide⟩, zX11_byteAt⟩, lX11_23, by decide, rfl, vX11_byteAt.1, vX11_byteAt.2⟩ (ly_is hy 0 11 rfl) (sm_byteAt hy hr hI320 w120 (by omega) (by omega)) (Nat.le_of_ble_eq_true rfl) ?_
            intro r Ia Ja Ra hq
            obtain ⟨⟨ea, eb, ec⟩, v328, rfl, cv328⟩ := hq
            show WP _ _ _ _ (.int _ :: _) _ _ _ _
            rw [ea, eb, ec]
            clear ea eb ec Ia Ja Ra
            rw [e322] at cv328
            refine WP_istore_n (ls' := [(0, _), (1, _)]) dX11_scan_68 (by decide) rfl ?_
            refine WP_aload_n dX11_scan_69 rfl ?_
            refine WQ_getim dX11_scan_70 fX11_7 rfl (ly_is hy 0 11 rfl) e327 ?_
            refine WP_aload_n dX11_scan_73 rfl ?_
            refine WQ_getim dX11_scan_74 fX11_13 rfl (ly_is hy 0 11 rfl) e322 ?_
            refine WQ_icmp_ne 88 dX11_scan_77 rfl (fun c328 => ?_) (fun c328 => ?_)
            · refine WP_iload_n dX11_scan_88 rfl ?_
              refine WP_callS1 dX11_scan_89 ⟨⟨⟨by decide, by decide⟩, zX11_isSmall⟩, lX11_30, tX11_isSmall⟩ (sm_isSmall hy hr hI320 v328 ) (Nat.le_of_ble_eq_true rfl) ?_
              intro r Ia Ja Ra hq
              obtain ⟨⟨ea, eb, ec⟩, v330, rfl, av330, bv330, cv330⟩ := hq
              show WP _ _ _ _ (.int _ :: _) _ _ _ _
              rw [ea, eb, ec]
              clear ea eb ec Ia Ja Ra
              refine WQ_if_eq 148 dX11_scan_92 rfl (fun c330 => ?_) (fun c330 => ?_)
              · refine WP_iload_n dX11_scan_148 rfl ?_
                refine WP_callS1 dX11_scan_149 ⟨⟨⟨by decide, by decide⟩, zX11_isDigit⟩, lX11_34, tX11_isDigit⟩ (sm_isDigit hy hr hI320 v328 ) (Nat.le_of_ble_eq_true rfl) ?_
                intro r Ia Ja Ra hq
                obtain ⟨⟨ea, eb, ec⟩, v332, rfl, av332, bv332, cv332⟩ := hq
                show WP _ _ _ _ (.int _ :: _) _ _ _ _
                rw [ea, eb, ec]
                clear ea eb ec Ia Ja Ra
                refine WQ_if_eq 248 dX11_scan_152 rfl (fun c332 => ?_) (fun c332 => ?_)
                · refine WP_aload_n dX11_scan_248 rfl ?_
                  refine WP_iload_n dX11_scan_249 rfl ?_
                  refine WQ_bipush (59) (59) dX11_scan_250 rfl rfl (fun v334 hv334 => ?_)
                  have jn260_337 : ∀ (v337 : Int32), 3 ≤ v337.toInt → v337.toInt ≤ 4 → WP g mX11_scan 260 [(0, .ref (ad g 0)), (1, .int v328)] [.int v337, .ref (ad g 0)] I320 J119 R (fun r I' J' R' => (MP g n L I' ∧ R' = R ∧ (I' (ad g 0) 4).toInt ≤ (I' (ad g 0) 2).toInt ∧ I' (ad g 0) 7 = I (ad g 0) 7 ∧ I' (ad g 0) 15 = I (ad g 0) 15 ∧ I' (ad g 0) 16 = I (ad g 0) 16) ∧ r = none) := by
                    intro v337 av337 bv337
                    refine WQ_puti dX11_scan_260 fX11_27 rfl rfl (ly_is hy 0 11 rfl) (fun I339 eI339 => ?_)
                    have hI339 : MP g n L I339 := by rw [eI339]; exact (mp_w hy hI320 (c := 0) (mi_f hy hI320.1 (c := 0) (0) (0) (4) (by decide) (Or.inr (by decide)) (by decide) (by omega) (by omega)) (by decide) (by decide) (Or.inr (by decide)))
                    have e340 : I339 (ad g 0) 4 = w120 := by rw [eI339, pp_ne _ _ (Or.inr (by decide))]; exact e321
                    have e341 : I339 (ad g 0) 2 = w121 := by rw [eI339, pp_ne _ _ (Or.inr (by decide))]; exact e322
                    have e342 : I339 (ad g 0) 7 = w122 := by rw [eI339, pp_ne _ _ (Or.inr (by decide))]; exact e323
                    have e343 : I339 (ad g 0) 15 = w123 := by rw [eI339, pp_ne _ _ (Or.inr (by decide))]; exact e324
                    have e344 : I339 (ad g 0) 16 = w124 := by rw [eI339, pp_ne _ _ (Or.inr (by decide))]; exact e325
                    have e345 : I339 (ad g 0) 1 = L := by rw [eI339, pp_ne _ _ (Or.inr (by decide))]; exact e326
                    have e346 : I339 (ad g 0) 3 = w120 := by rw [eI339, pp_ne _ _ (Or.inr (by decide))]; exact e327
                    have e347 : I339 (ad g 0) 5 = v337 := by rw [eI339, pp_self]
                    clear eI339
                    refine WP_aload_n dX11_scan_263 rfl ?_
                    refine WP_dup dX11_scan_264 rfl ?_
                    refine WQ_getim dX11_scan_265 fX11_20 rfl (ly_is hy 0 11 rfl) e340 ?_
                    refine WQ_iconst (1) (1) dX11_scan_268 rfl rfl (fun v348 hv348 => ?_)
                    refine WQ_iadd dX11_scan_269 (by omega) (by omega) (fun v349 hv349 => ?_)
                    refine WQ_puti dX11_scan_270 fX11_20 rfl rfl (ly_is hy 0 11 rfl) (fun I350 eI350 => ?_)
                    have hI350 : MP g n L I350 := by rw [eI350]; exact (mp_w hy hI339 (c := 0) (mi_f hy hI339.1 (c := 0) (0) (0) (900) (by decide) (Or.inr (by decide)) (by decide) (by omega) (by omega)) (by decide) (by decide) (Or.inr (by decide)))
                    have e351 : I350 (ad g 0) 2 = w121 := by rw [eI350, pp_ne _ _ (Or.inr (by decide))]; exact e341
                    have e352 : I350 (ad g 0) 7 = w122 := by rw [eI350, pp_ne _ _ (Or.inr (by decide))]; exact e342
                    have e353 : I350 (ad g 0) 15 = w123 := by rw [eI350, pp_ne _ _ (Or.inr (by decide))]; exact e343
                    have e354 : I350 (ad g 0) 16 = w124 := by rw [eI350, pp_ne _ _ (Or.inr (by decide))]; exact e344
                    have e355 : I350 (ad g 0) 1 = L := by rw [eI350, pp_ne _ _ (Or.inr (by decide))]; exact e345
                    have e356 : I350 (ad g 0) 3 = w120 := by rw [eI350, pp_ne _ _ (Or.inr (by decide))]; exact e346
                    have e357 : I350 (ad g 0) 5 = v337 := by rw [eI350, pp_ne _ _ (Or.inr (by decide))]; exact e347
                    have e358 : I350 (ad g 0) 4 = v349 := by rw [eI350, pp_self]
                    clear eI350
                    exact WP_vret dX11_scan_273 rfl ⟨⟨hI350, rfl, ⟨(by rw [e358, e351]; omega), (by rw [e352, ew113] <;> exact (eq32 _ _).mpr (by omega)), (by rw [e353, ew114] <;> exact (eq32 _ _).mpr (by omega)), (by rw [e354, ew115] <;> exact (eq32 _ _).mpr (by omega))⟩⟩, rfl⟩
                  refine WQ_icmp_ne 259 dX11_scan_252 rfl (fun c358 => ?_) (fun c358 => ?_)
                  · refine WQ_iconst (4) (4) dX11_scan_259 rfl rfl (fun v360 hv360 => ?_)
                    exact WP_sub (fc rfl (fc rfl fn)) (jn260_337 v360 (by omega) (by omega))
                  · refine WQ_iconst (3) (3) dX11_scan_255 rfl rfl (fun v361 hv361 => ?_)
                    refine WP_goto 260 dX11_scan_256 rfl ?_
                    exact WP_sub (fc rfl (fc rfl fn)) (jn260_337 v361 (by omega) (by omega))
                · refine WP_aload_n dX11_scan_155 rfl ?_
                  refine WQ_iconst (0) (0) dX11_scan_156 rfl rfl (fun v362 hv362 => ?_)
                  refine WQ_puti dX11_scan_157 fX11_37 rfl rfl (ly_is hy 0 11 rfl) (fun I363 eI363 => ?_)
                  have hI363 : MP g n L I363 := by rw [eI363]; exact (mp_w hy hI320 (c := 0) (mi_f0 hy hI320.1 (c := 0) (by decide) (Or.inr (by decide)) (by decide)) (by decide) (by decide) (Or.inr (by decide)))
                  have e364 : I363 (ad g 0) 4 = w120 := by rw [eI363, pp_ne _ _ (Or.inr (by decide))]; exact e321
                  have e365 : I363 (ad g 0) 2 = w121 := by rw [eI363, pp_ne _ _ (Or.inr (by decide))]; exact e322
                  have e366 : I363 (ad g 0) 7 = w122 := by rw [eI363, pp_ne _ _ (Or.inr (by decide))]; exact e323
                  have e367 : I363 (ad g 0) 15 = w123 := by rw [eI363, pp_ne _ _ (Or.inr (by decide))]; exact e324
                  have e368 : I363 (ad g 0) 16 = w124 := by rw [eI363, pp_ne _ _ (Or.inr (by decide))]; exact e325
                  have e369 : I363 (ad g 0) 1 = L := by rw [eI363, pp_ne _ _ (Or.inr (by decide))]; exact e326
                  have e370 : I363 (ad g 0) 3 = w120 := by rw [eI363, pp_ne _ _ (Or.inr (by decide))]; exact e327
                  have e371 : I363 (ad g 0) 6 = v362 := by rw [eI363, pp_self]
                  clear eI363
                  have lp160_379 : ∀ (mz : Nat)  (I372 : pI) (J373 : pJ), MP g n L I372 → ∀ (w374 : Int32), I372 (ad g 0) 4 = w374 → ∀ (w375 : Int32), I372 (ad g 0) 2 = w375 → ∀ (w376 : Int32), I372 (ad g 0) 7 = w376 → ∀ (w377 : Int32), I372 (ad g 0) 15 = w377 → ∀ (w378 : Int32), I372 (ad g 0) 16 = w378 → ∀ (w379 : Int32), I372 (ad g 0) 3 = w379 → w374.toInt ≤ w375.toInt → w376.toInt = w113.toInt → w377.toInt = w114.toInt → w378.toInt = w115.toInt → (901 - w374.toInt).toNat < mz → WP g mX11_scan 160 [(0, .ref (ad g 0)), (1, .int v328)] [] I372 J373 R (fun r I' J' R' => (MP g n L I' ∧ R' = R ∧ (I' (ad g 0) 4).toInt ≤ (I' (ad g 0) 2).toInt ∧ I' (ad g 0) 7 = I (ad g 0) 7 ∧ I' (ad g 0) 15 = I (ad g 0) 15 ∧ I' (ad g 0) 16 = I (ad g 0) 16) ∧ r = none) := by
                    intro mz
                    induction mz with
                    | zero =>
                      intro  I372 J373 hI372 w374 ew374 w375 ew375 w376 ew376 w377 ew377 w378 ew378 w379 ew379 j0_I372 j1_I372 j2_I372 j3_I372 hmlp160_379
                      exact absurd hmlp160_379 (Nat.not_lt_zero _)
                    | succ mz ihlp160_379 =>
                      intro  I372 J373 hI372 w374 ew374 w375 ew375 w376 ew376 w377 ew377 w378 ew378 w379 ew379 j0_I372 j1_I372 j2_I372 j3_I372 hmlp160_379
                      have bw374 := BT_get hI372.1.1 0 4 5 (0) (0) (900) (by decide) 4 (by decide) (by decide)
                      rw [ew374] at bw374
                      have bw375 := BT_get hI372.1.1 0 2 3 (0) (0) (900) (by decide) 2 (by decide) (by decide)
                      rw [ew375] at bw375
                      have bw376 := BT_get hI372.1.1 0 7 8 (-1) (0) (1000) (by decide) 7 (by decide) (by decide)
                      rw [ew376] at bw376
                      have bw377 := BT_get hI372.1.1 0 15 16 (0) (0) (4) (by decide) 15 (by decide) (by decide)
                      rw [ew377] at bw377
                      have bw378 := BT_get hI372.1.1 0 16 17 (0) (0) (3) (by decide) 16 (by decide) (by decide)
                      rw [ew378] at bw378
                      have bw379 := BT_get hI372.1.1 0 3 4 (0) (0) (900) (by decide) 3 (by decide) (by decide)
                      rw [ew379] at bw379
                      have e381 : I372 (ad g 0) 1 = L := hI372.1.2
                      have b382 := BT_get hI372.1.1 0 1 2 (0) (0) (900) (by decide) 1 (by decide) (by decide)
                      rw [e381] at b382
                      refine WP_aload_n dX11_scan_160 rfl ?_
                      refine WP_aload_n dX11_scan_161 rfl ?_
                      refine WQ_getim dX11_scan_162 fX11_20 rfl (ly_is hy 0 11 rfl) ew374 ?_
                      refine WP_callV1 (k := 11) dX11_scan_165 ⟨⟨⟨by decide, by decide⟩, zX11_byteAt⟩, lX11_23, by decide, rfl, vX11_byteAt.1, vX11_byteAt.2⟩ (ly_is hy 0 11 rfl) (sm_byteAt hy hr hI372 w374 (by omega) (by omega)) (Nat.le_of_ble_eq_true rfl) ?_
                      intro r Ia Ja Ra hq
                      obtain ⟨⟨ea, eb, ec⟩, v383, rfl, cv383⟩ := hq
                      show WP _ _ _ _ (.int _ :: _) _ _ _ _
                      rw [ea, eb, ec]
                      clear ea eb ec Ia Ja Ra
                      rw [ew375] at cv383
                      refine WP_callS1 dX11_scan_168 ⟨⟨⟨by decide, by decide⟩, zX11_isDigit⟩, lX11_34, tX11_isDigit⟩ (sm_isDigit hy hr hI372 v383 ) (Nat.le_of_ble_eq_true rfl) ?_
                      intro r Ia Ja Ra hq
                      obtain ⟨⟨ea, eb, ec⟩, v384, rfl, av384, bv384, cv384⟩ := hq
                      show WP _ _ _ _ (.int _ :: _) _ _ _ _
                      rw [ea, eb, ec]
                      clear ea eb ec Ia Ja Ra
                      refine WQ_if_eq 223 dX11_scan_171 rfl (fun c384 => ?_) (fun c384 => ?_)
                      · refine WP_aload_n dX11_scan_223 rfl ?_
                        refine WP_aload_n dX11_scan_224 rfl ?_
                        refine WQ_getim dX11_scan_225 fX11_20 rfl (ly_is hy 0 11 rfl) ew374 ?_
                        refine WP_aload_n dX11_scan_228 rfl ?_
                        refine WQ_getim dX11_scan_229 fX11_7 rfl (ly_is hy 0 11 rfl) ew379 ?_
                        refine WQ_isub dX11_scan_232 (by omega) (by omega) (fun v386 hv386 => ?_)
                        refine WQ_iconst (4) (4) dX11_scan_233 rfl rfl (fun v387 hv387 => ?_)
                        have jn242_390 : ∀ (v390 : Int32), 2 ≤ v390.toInt → v390.toInt ≤ 4 → WP g mX11_scan 242 [(0, .ref (ad g 0)), (1, .int v328)] [.int v390, .ref (ad g 0)] I372 J373 R (fun r I' J' R' => (MP g n L I' ∧ R' = R ∧ (I' (ad g 0) 4).toInt ≤ (I' (ad g 0) 2).toInt ∧ I' (ad g 0) 7 = I (ad g 0) 7 ∧ I' (ad g 0) 15 = I (ad g 0) 15 ∧ I' (ad g 0) 16 = I (ad g 0) 16) ∧ r = none) := by
                          intro v390 av390 bv390
                          refine WQ_puti dX11_scan_242 fX11_27 rfl rfl (ly_is hy 0 11 rfl) (fun I392 eI392 => ?_)
                          have hI392 : MP g n L I392 := by rw [eI392]; exact (mp_w hy hI372 (c := 0) (mi_f hy hI372.1 (c := 0) (0) (0) (4) (by decide) (Or.inr (by decide)) (by decide) (by omega) (by omega)) (by decide) (by decide) (Or.inr (by decide)))
                          have e393 : I392 (ad g 0) 4 = w374 := by rw [eI392, pp_ne _ _ (Or.inr (by decide))]; exact ew374
                          have e394 : I392 (ad g 0) 2 = w375 := by rw [eI392, pp_ne _ _ (Or.inr (by decide))]; exact ew375
                          have e395 : I392 (ad g 0) 7 = w376 := by rw [eI392, pp_ne _ _ (Or.inr (by decide))]; exact ew376
                          have e396 : I392 (ad g 0) 15 = w377 := by rw [eI392, pp_ne _ _ (Or.inr (by decide))]; exact ew377
                          have e397 : I392 (ad g 0) 16 = w378 := by rw [eI392, pp_ne _ _ (Or.inr (by decide))]; exact ew378
                          have e398 : I392 (ad g 0) 3 = w379 := by rw [eI392, pp_ne _ _ (Or.inr (by decide))]; exact ew379
                          have e399 : I392 (ad g 0) 1 = L := by rw [eI392, pp_ne _ _ (Or.inr (by decide))]; exact e381
                          have e400 : I392 (ad g 0) 5 = v390 := by rw [eI392, pp_self]
                          clear eI392
                          refine WP_goto 273 dX11_scan_245 rfl ?_
                          exact WP_vret dX11_scan_273 rfl ⟨⟨hI392, rfl, ⟨(by rw [e393, e394]; omega), (by rw [e395, ew113] <;> exact (eq32 _ _).mpr (by omega)), (by rw [e396, ew114] <;> exact (eq32 _ _).mpr (by omega)), (by rw [e397, ew115] <;> exact (eq32 _ _).mpr (by omega))⟩⟩, rfl⟩
                        refine WQ_icmp_le 241 dX11_scan_234 rfl (fun c400 => ?_) (fun c400 => ?_)
                        · refine WQ_iconst (2) (2) dX11_scan_241 rfl rfl (fun v402 hv402 => ?_)
                          exact WP_sub (fc rfl (fc rfl fn)) (jn242_390 v402 (by omega) (by omega))
                        · refine WQ_iconst (4) (4) dX11_scan_237 rfl rfl (fun v403 hv403 => ?_)
                          refine WP_goto 242 dX11_scan_238 rfl ?_
                          exact WP_sub (fc rfl (fc rfl fn)) (jn242_390 v403 (by omega) (by omega))
                      · refine WP_aload_n dX11_scan_174 rfl ?_
                        refine WQ_getim dX11_scan_175 fX11_20 rfl (ly_is hy 0 11 rfl) ew374 ?_
                        refine WP_aload_n dX11_scan_178 rfl ?_
                        refine WQ_getim dX11_scan_179 fX11_7 rfl (ly_is hy 0 11 rfl) ew379 ?_
                        refine WQ_isub dX11_scan_182 (by omega) (by omega) (fun v404 hv404 => ?_)
                        refine WQ_iconst (4) (4) dX11_scan_183 rfl rfl (fun v405 hv405 => ?_)
                        refine WQ_icmp_ge 210 dX11_scan_184 rfl (fun c405 => ?_) (fun c405 => ?_)
                        · refine WP_aload_n dX11_scan_210 rfl ?_
                          refine WP_dup dX11_scan_211 rfl ?_
                          refine WQ_getim dX11_scan_212 fX11_20 rfl (ly_is hy 0 11 rfl) ew374 ?_
                          refine WQ_iconst (1) (1) dX11_scan_215 rfl rfl (fun v407 hv407 => ?_)
                          refine WQ_iadd dX11_scan_216 (by omega) (by omega) (fun v408 hv408 => ?_)
                          refine WQ_puti dX11_scan_217 fX11_20 rfl rfl (ly_is hy 0 11 rfl) (fun I409 eI409 => ?_)
                          have hI409 : MP g n L I409 := by rw [eI409]; exact (mp_w hy hI372 (c := 0) (mi_f hy hI372.1 (c := 0) (0) (0) (900) (by decide) (Or.inr (by decide)) (by decide) (by omega) (by omega)) (by decide) (by decide) (Or.inr (by decide)))
                          have e410 : I409 (ad g 0) 2 = w375 := by rw [eI409, pp_ne _ _ (Or.inr (by decide))]; exact ew375
                          have e411 : I409 (ad g 0) 7 = w376 := by rw [eI409, pp_ne _ _ (Or.inr (by decide))]; exact ew376
                          have e412 : I409 (ad g 0) 15 = w377 := by rw [eI409, pp_ne _ _ (Or.inr (by decide))]; exact ew377
                          have e413 : I409 (ad g 0) 16 = w378 := by rw [eI409, pp_ne _ _ (Or.inr (by decide))]; exact ew378
                          have e414 : I409 (ad g 0) 3 = w379 := by rw [eI409, pp_ne _ _ (Or.inr (by decide))]; exact ew379
                          have e415 : I409 (ad g 0) 1 = L := by rw [eI409, pp_ne _ _ (Or.inr (by decide))]; exact e381
                          have e416 : I409 (ad g 0) 4 = v408 := by rw [eI409, pp_self]
                          clear eI409
                          refine WP_goto 160 dX11_scan_220 rfl ?_
                          exact WP_sub (fc rfl (fc rfl fn)) (ihlp160_379 I409 J373 hI409 v408 e416 w375 e410 w376 e411 w377 e412 w378 e413 w379 e414 (by omega) (by omega) (by omega) (by omega) (by omega))
                        · refine WP_aload_n dX11_scan_187 rfl ?_
                          refine WQ_bipush (10) (10) dX11_scan_188 rfl rfl (fun v417 hv417 => ?_)
                          refine WP_aload_n dX11_scan_190 rfl ?_
                          refine WQ_getiu dX11_scan_191 fX11_37 rfl (ly_is hy 0 11 rfl) (fun v418 ev418 => ?_)
                          refine WQ_imulu dX11_scan_194 (fun v419 => ?_)
                          refine WP_aload_n dX11_scan_195 rfl ?_
                          refine WP_aload_n dX11_scan_196 rfl ?_
                          refine WQ_getim dX11_scan_197 fX11_20 rfl (ly_is hy 0 11 rfl) ew374 ?_
                          refine WP_callV1 (k := 11) dX11_scan_200 ⟨⟨⟨by decide, by decide⟩, zX11_byteAt⟩, lX11_23, by decide, rfl, vX11_byteAt.1, vX11_byteAt.2⟩ (ly_is hy 0 11 rfl) (sm_byteAt hy hr hI372 w374 (by omega) (by omega)) (Nat.le_of_ble_eq_true rfl) ?_
                          intro r Ia Ja Ra hq
                          obtain ⟨⟨ea, eb, ec⟩, v420, rfl, cv420⟩ := hq
                          show WP _ _ _ _ (.int _ :: _) _ _ _ _
                          rw [ea, eb, ec]
                          clear ea eb ec Ia Ja Ra
                          rw [ew375] at cv420
                          refine WQ_iaddu dX11_scan_203 (fun v421 => ?_)
                          refine WQ_bipush (48) (48) dX11_scan_204 rfl rfl (fun v422 hv422 => ?_)
                          refine WQ_isubu dX11_scan_206 (fun v423 => ?_)
                          refine WQ_puti dX11_scan_207 fX11_37 rfl rfl (ly_is hy 0 11 rfl) (fun I424 eI424 => ?_)
                          have hI424 : MP g n L I424 := by rw [eI424]; exact (mp_w hy hI372 (c := 0) (mi_f0 hy hI372.1 (c := 0) (by decide) (Or.inr (by decide)) (by decide)) (by decide) (by decide) (Or.inr (by decide)))
                          have e425 : I424 (ad g 0) 4 = w374 := by rw [eI424, pp_ne _ _ (Or.inr (by decide))]; exact ew374
                          have e426 : I424 (ad g 0) 2 = w375 := by rw [eI424, pp_ne _ _ (Or.inr (by decide))]; exact ew375
                          have e427 : I424 (ad g 0) 7 = w376 := by rw [eI424, pp_ne _ _ (Or.inr (by decide))]; exact ew376
                          have e428 : I424 (ad g 0) 15 = w377 := by rw [eI424, pp_ne _ _ (Or.inr (by decide))]; exact ew377
                          have e429 : I424 (ad g 0) 16 = w378 := by rw [eI424, pp_ne _ _ (Or.inr (by decide))]; exact ew378
                          have e430 : I424 (ad g 0) 3 = w379 := by rw [eI424, pp_ne _ _ (Or.inr (by decide))]; exact ew379
                          have e431 : I424 (ad g 0) 1 = L := by rw [eI424, pp_ne _ _ (Or.inr (by decide))]; exact e381
                          have e432 : I424 (ad g 0) 6 = v423 := by rw [eI424, pp_self]
                          clear eI424
                          refine WP_aload_n dX11_scan_210 rfl ?_
                          refine WP_dup dX11_scan_211 rfl ?_
                          refine WQ_getim dX11_scan_212 fX11_20 rfl (ly_is hy 0 11 rfl) e425 ?_
                          refine WQ_iconst (1) (1) dX11_scan_215 rfl rfl (fun v433 hv433 => ?_)
                          refine WQ_iadd dX11_scan_216 (by omega) (by omega) (fun v434 hv434 => ?_)
                          refine WQ_puti dX11_scan_217 fX11_20 rfl rfl (ly_is hy 0 11 rfl) (fun I435 eI435 => ?_)
                          have hI435 : MP g n L I435 := by rw [eI435]; exact (mp_w hy hI424 (c := 0) (mi_f hy hI424.1 (c := 0) (0) (0) (900) (by decide) (Or.inr (by decide)) (by decide) (by omega) (by omega)) (by decide) (by decide) (Or.inr (by decide)))
                          have e436 : I435 (ad g 0) 2 = w375 := by rw [eI435, pp_ne _ _ (Or.inr (by decide))]; exact e426
                          have e437 : I435 (ad g 0) 7 = w376 := by rw [eI435, pp_ne _ _ (Or.inr (by decide))]; exact e427
                          have e438 : I435 (ad g 0) 15 = w377 := by rw [eI435, pp_ne _ _ (Or.inr (by decide))]; exact e428
                          have e439 : I435 (ad g 0) 16 = w378 := by rw [eI435, pp_ne _ _ (Or.inr (by decide))]; exact e429
                          have e440 : I435 (ad g 0) 3 = w379 := by rw [eI435, pp_ne _ _ (Or.inr (by decide))]; exact e430
                          have e441 : I435 (ad g 0) 1 = L := by rw [eI435, pp_ne _ _ (Or.inr (by decide))]; exact e431
                          have e442 : I435 (ad g 0) 6 = v423 := by rw [eI435, pp_ne _ _ (Or.inr (by decide))]; exact e432
                          have e443 : I435 (ad g 0) 4 = v434 := by rw [eI435, pp_self]
                          clear eI435
                          refine WP_goto 160 dX11_scan_220 rfl ?_
                          exact WP_sub (fc rfl (fc rfl fn)) (ihlp160_379 I435 J373 hI435 v434 e443 w375 e436 w376 e437 w377 e438 w378 e439 w379 e440 (by omega) (by omega) (by omega) (by omega) (by omega))
                  exact WP_sub (fc rfl (fc rfl fn)) (lp160_379 _ I363 J119 hI363 w120 e364 w121 e365 w122 e366 w123 e367 w124 e368 w120 e370 (by omega) (by omega) (by omega) (by omega) (Nat.lt_succ_self _))
              · have lp95_451 : ∀ (mz : Nat)  (I444 : pI) (J445 : pJ), MP g n L I444 → ∀ (w446 : Int32), I444 (ad g 0) 4 = w446 → ∀ (w447 : Int32), I444 (ad g 0) 2 = w447 → ∀ (w448 : Int32), I444 (ad g 0) 7 = w448 → ∀ (w449 : Int32), I444 (ad g 0) 15 = w449 → ∀ (w450 : Int32), I444 (ad g 0) 16 = w450 → ∀ (w451 : Int32), I444 (ad g 0) 3 = w451 → w446.toInt ≤ w447.toInt → w448.toInt = w113.toInt → w449.toInt = w114.toInt → w450.toInt = w115.toInt → (901 - w446.toInt).toNat < mz → WP g mX11_scan 95 [(0, .ref (ad g 0)), (1, .int v328)] [] I444 J445 R (fun r I' J' R' => (MP g n L I' ∧ R' = R ∧ (I' (ad g 0) 4).toInt ≤ (I' (ad g 0) 2).toInt ∧ I' (ad g 0) 7 = I (ad g 0) 7 ∧ I' (ad g 0) 15 = I (ad g 0) 15 ∧ I' (ad g 0) 16 = I (ad g 0) 16) ∧ r = none) := by
                  intro mz
                  induction mz with
                  | zero =>
                    intro  I444 J445 hI444 w446 ew446 w447 ew447 w448 ew448 w449 ew449 w450 ew450 w451 ew451 j0_I444 j1_I444 j2_I444 j3_I444 hmlp95_451
                    exact absurd hmlp95_451 (Nat.not_lt_zero _)
                  | succ mz ihlp95_451 =>
                    intro  I444 J445 hI444 w446 ew446 w447 ew447 w448 ew448 w449 ew449 w450 ew450 w451 ew451 j0_I444 j1_I444 j2_I444 j3_I444 hmlp95_451
                    have bw446 := BT_get hI444.1.1 0 4 5 (0) (0) (900) (by decide) 4 (by decide) (by decide)
                    rw [ew446] at bw446
                    have bw447 := BT_get hI444.1.1 0 2 3 (0) (0) (900) (by decide) 2 (by decide) (by decide)
                    rw [ew447] at bw447
                    have bw448 := BT_get hI444.1.1 0 7 8 (-1) (0) (1000) (by decide) 7 (by decide) (by decide)
                    rw [ew448] at bw448
                    have bw449 := BT_get hI444.1.1 0 15 16 (0) (0) (4) (by decide) 15 (by decide) (by decide)
                    rw [ew449] at bw449
                    have bw450 := BT_get hI444.1.1 0 16 17 (0) (0) (3) (by decide) 16 (by decide) (by decide)
                    rw [ew450] at bw450
                    have bw451 := BT_get hI444.1.1 0 3 4 (0) (0) (900) (by decide) 3 (by decide) (by decide)
                    rw [ew451] at bw451
                    have e453 : I444 (ad g 0) 1 = L := hI444.1.2
                    have b454 := BT_get hI444.1.1 0 1 2 (0) (0) (900) (by decide) 1 (by decide) (by decide)
                    rw [e453] at b454
                    refine WP_aload_n dX11_scan_95 rfl ?_
                    refine WP_aload_n dX11_scan_96 rfl ?_
                    refine WQ_getim dX11_scan_97 fX11_20 rfl (ly_is hy 0 11 rfl) ew446 ?_
                    refine WP_callV1 (k := 11) dX11_scan_100 ⟨⟨⟨by decide, by decide⟩, zX11_byteAt⟩, lX11_23, by decide, rfl, vX11_byteAt.1, vX11_byteAt.2⟩ (ly_is hy 0 11 rfl) (sm_byteAt hy hr hI444 w446 (by omega) (by omega)) (Nat.le_of_ble_eq_true rfl) ?_
                    intro r Ia Ja Ra hq
                    obtain ⟨⟨ea, eb, ec⟩, v455, rfl, cv455⟩ := hq
                    show WP _ _ _ _ (.int _ :: _) _ _ _ _
                    rw [ea, eb, ec]
                    clear ea eb ec Ia Ja Ra
                    rw [ew447] at cv455
                    refine WP_callS1 dX11_scan_103 ⟨⟨⟨by decide, by decide⟩, zX11_isSmall⟩, lX11_30, tX11_isSmall⟩ (sm_isSmall hy hr hI444 v455 ) (Nat.le_of_ble_eq_true rfl) ?_
                    intro r Ia Ja Ra hq
                    obtain ⟨⟨ea, eb, ec⟩, v456, rfl, av456, bv456, cv456⟩ := hq
                    show WP _ _ _ _ (.int _ :: _) _ _ _ _
                    rw [ea, eb, ec]
                    clear ea eb ec Ia Ja Ra
                    refine WQ_if_eq 122 dX11_scan_106 rfl (fun c456 => ?_) (fun c456 => ?_)
                    · refine WP_aload_n dX11_scan_122 rfl ?_
                      refine WP_aload_n dX11_scan_123 rfl ?_
                      refine WQ_getim dX11_scan_124 fX11_20 rfl (ly_is hy 0 11 rfl) ew446 ?_
                      refine WP_aload_n dX11_scan_127 rfl ?_
                      refine WQ_getim dX11_scan_128 fX11_7 rfl (ly_is hy 0 11 rfl) ew451 ?_
                      refine WQ_isub dX11_scan_131 (by omega) (by omega) (fun v458 hv458 => ?_)
                      refine WQ_bipush (8) (8) dX11_scan_132 rfl rfl (fun v459 hv459 => ?_)
                      have jn142_462 : ∀ (v462 : Int32), 1 ≤ v462.toInt → v462.toInt ≤ 4 → WP g mX11_scan 142 [(0, .ref (ad g 0)), (1, .int v328)] [.int v462, .ref (ad g 0)] I444 J445 R (fun r I' J' R' => (MP g n L I' ∧ R' = R ∧ (I' (ad g 0) 4).toInt ≤ (I' (ad g 0) 2).toInt ∧ I' (ad g 0) 7 = I (ad g 0) 7 ∧ I' (ad g 0) 15 = I (ad g 0) 15 ∧ I' (ad g 0) 16 = I (ad g 0) 16) ∧ r = none) := by
                        intro v462 av462 bv462
                        refine WQ_puti dX11_scan_142 fX11_27 rfl rfl (ly_is hy 0 11 rfl) (fun I464 eI464 => ?_)
                        have hI464 : MP g n L I464 := by rw [eI464]; exact (mp_w hy hI444 (c := 0) (mi_f hy hI444.1 (c := 0) (0) (0) (4) (by decide) (Or.inr (by decide)) (by decide) (by omega) (by omega)) (by decide) (by decide) (Or.inr (by decide)))
                        have e465 : I464 (ad g 0) 4 = w446 := by rw [eI464, pp_ne _ _ (Or.inr (by decide))]; exact ew446
                        have e466 : I464 (ad g 0) 2 = w447 := by rw [eI464, pp_ne _ _ (Or.inr (by decide))]; exact ew447
                        have e467 : I464 (ad g 0) 7 = w448 := by rw [eI464, pp_ne _ _ (Or.inr (by decide))]; exact ew448
                        have e468 : I464 (ad g 0) 15 = w449 := by rw [eI464, pp_ne _ _ (Or.inr (by decide))]; exact ew449
                        have e469 : I464 (ad g 0) 16 = w450 := by rw [eI464, pp_ne _ _ (Or.inr (by decide))]; exact ew450
                        have e470 : I464 (ad g 0) 3 = w451 := by rw [eI464, pp_ne _ _ (Or.inr (by decide))]; exact ew451
                        have e471 : I464 (ad g 0) 1 = L := by rw [eI464, pp_ne _ _ (Or.inr (by decide))]; exact e453
                        have e472 : I464 (ad g 0) 5 = v462 := by rw [eI464, pp_self]
                        clear eI464
                        refine WP_goto 273 dX11_scan_145 rfl ?_
                        exact WP_vret dX11_scan_273 rfl ⟨⟨hI464, rfl, ⟨(by rw [e465, e466]; omega), (by rw [e467, ew113] <;> exact (eq32 _ _).mpr (by omega)), (by rw [e468, ew114] <;> exact (eq32 _ _).mpr (by omega)), (by rw [e469, ew115] <;> exact (eq32 _ _).mpr (by omega))⟩⟩, rfl⟩
                      refine WQ_icmp_le 141 dX11_scan_134 rfl (fun c472 => ?_) (fun c472 => ?_)
                      · refine WQ_iconst (1) (1) dX11_scan_141 rfl rfl (fun v474 hv474 => ?_)
                        exact WP_sub (fc rfl (fc rfl fn)) (jn142_462 v474 (by omega) (by omega))
                      · refine WQ_iconst (4) (4) dX11_scan_137 rfl rfl (fun v475 hv475 => ?_)
                        refine WP_goto 142 dX11_scan_138 rfl ?_
                        exact WP_sub (fc rfl (fc rfl fn)) (jn142_462 v475 (by omega) (by omega))
                    · refine WP_aload_n dX11_scan_109 rfl ?_
                      refine WP_dup dX11_scan_110 rfl ?_
                      refine WQ_getim dX11_scan_111 fX11_20 rfl (ly_is hy 0 11 rfl) ew446 ?_
                      refine WQ_iconst (1) (1) dX11_scan_114 rfl rfl (fun v476 hv476 => ?_)
                      refine WQ_iadd dX11_scan_115 (by omega) (by omega) (fun v477 hv477 => ?_)
                      refine WQ_puti dX11_scan_116 fX11_20 rfl rfl (ly_is hy 0 11 rfl) (fun I478 eI478 => ?_)
                      have hI478 : MP g n L I478 := by rw [eI478]; exact (mp_w hy hI444 (c := 0) (mi_f hy hI444.1 (c := 0) (0) (0) (900) (by decide) (Or.inr (by decide)) (by decide) (by omega) (by omega)) (by decide) (by decide) (Or.inr (by decide)))
                      have e479 : I478 (ad g 0) 2 = w447 := by rw [eI478, pp_ne _ _ (Or.inr (by decide))]; exact ew447
                      have e480 : I478 (ad g 0) 7 = w448 := by rw [eI478, pp_ne _ _ (Or.inr (by decide))]; exact ew448
                      have e481 : I478 (ad g 0) 15 = w449 := by rw [eI478, pp_ne _ _ (Or.inr (by decide))]; exact ew449
                      have e482 : I478 (ad g 0) 16 = w450 := by rw [eI478, pp_ne _ _ (Or.inr (by decide))]; exact ew450
                      have e483 : I478 (ad g 0) 3 = w451 := by rw [eI478, pp_ne _ _ (Or.inr (by decide))]; exact ew451
                      have e484 : I478 (ad g 0) 1 = L := by rw [eI478, pp_ne _ _ (Or.inr (by decide))]; exact e453
                      have e485 : I478 (ad g 0) 4 = v477 := by rw [eI478, pp_self]
                      clear eI478
                      refine WP_goto 95 dX11_scan_119 rfl ?_
                      exact WP_sub (fc rfl (fc rfl fn)) (ihlp95_451 I478 J445 hI478 v477 e485 w447 e479 w448 e480 w449 e481 w450 e482 w451 e483 (by omega) (by omega) (by omega) (by omega) (by omega))
                exact WP_sub (fc rfl (fc rfl fn)) (lp95_451 _ I320 J119 hI320 w120 e321 w121 e322 w122 e323 w123 e324 w124 e325 w120 e327 (by omega) (by omega) (by omega) (by omega) (Nat.lt_succ_self _))
            · refine WP_aload_n dX11_scan_80 rfl ?_
              refine WQ_iconst (0) (0) dX11_scan_81 rfl rfl (fun v486 hv486 => ?_)
              refine WQ_puti dX11_scan_82 fX11_27 rfl rfl (ly_is hy 0 11 rfl) (fun I487 eI487 => ?_)
              have hI487 : MP g n L I487 := by rw [eI487]; exact (mp_w hy hI320 (c := 0) (mi_f hy hI320.1 (c := 0) (0) (0) (4) (by decide) (Or.inr (by decide)) (by decide) (by omega) (by omega)) (by decide) (by decide) (Or.inr (by decide)))
              have e488 : I487 (ad g 0) 4 = w120 := by rw [eI487, pp_ne _ _ (Or.inr (by decide))]; exact e321
              have e489 : I487 (ad g 0) 2 = w121 := by rw [eI487, pp_ne _ _ (Or.inr (by decide))]; exact e322
              have e490 : I487 (ad g 0) 7 = w122 := by rw [eI487, pp_ne _ _ (Or.inr (by decide))]; exact e323
              have e491 : I487 (ad g 0) 15 = w123 := by rw [eI487, pp_ne _ _ (Or.inr (by decide))]; exact e324
              have e492 : I487 (ad g 0) 16 = w124 := by rw [eI487, pp_ne _ _ (Or.inr (by decide))]; exact e325
              have e493 : I487 (ad g 0) 1 = L := by rw [eI487, pp_ne _ _ (Or.inr (by decide))]; exact e326
              have e494 : I487 (ad g 0) 3 = w120 := by rw [eI487, pp_ne _ _ (Or.inr (by decide))]; exact e327
              have e495 : I487 (ad g 0) 5 = v486 := by rw [eI487, pp_self]
              clear eI487
              refine WP_goto 273 dX11_scan_85 rfl ?_
              exact WP_vret dX11_scan_273 rfl ⟨⟨hI487, rfl, ⟨(by rw [e488, e489]; omega), (by rw [e490, ew113] <;> exact (eq32 _ _).mpr (by omega)), (by rw [e491, ew114] <;> exact (eq32 _ _).mpr (by omega)), (by rw [e492, ew115] <;> exact (eq32 _ _).mpr (by omega))⟩⟩, rfl⟩
          · refine WP_aload_n dX11_scan_39 rfl ?_
            refine WP_dup dX11_scan_40 rfl ?_
            refine WQ_getim dX11_scan_41 fX11_20 rfl (ly_is hy 0 11 rfl) ew120 ?_
            refine WQ_iconst (1) (1) dX11_scan_44 rfl rfl (fun v496 hv496 => ?_)
            refine WQ_iadd dX11_scan_45 (by omega) (by omega) (fun v497 hv497 => ?_)
            refine WQ_puti dX11_scan_46 fX11_20 rfl rfl (ly_is hy 0 11 rfl) (fun I498 eI498 => ?_)
            have hI498 : MP g n L I498 := by rw [eI498]; exact (mp_w hy hI118 (c := 0) (mi_f hy hI118.1 (c := 0) (0) (0) (900) (by decide) (Or.inr (by decide)) (by decide) (by omega) (by omega)) (by decide) (by decide) (Or.inr (by decide)))
            have e499 : I498 (ad g 0) 2 = w121 := by rw [eI498, pp_ne _ _ (Or.inr (by decide))]; exact ew121
            have e500 : I498 (ad g 0) 7 = w122 := by rw [eI498, pp_ne _ _ (Or.inr (by decide))]; exact ew122
            have e501 : I498 (ad g 0) 15 = w123 := by rw [eI498, pp_ne _ _ (Or.inr (by decide))]; exact ew123
            have e502 : I498 (ad g 0) 16 = w124 := by rw [eI498, pp_ne _ _ (Or.inr (by decide))]; exact ew124
            have e503 : I498 (ad g 0) 1 = L := by rw [eI498, pp_ne _ _ (Or.inr (by decide))]; exact e126
            have e504 : I498 (ad g 0) 4 = v497 := by rw [eI498, pp_self]
            clear eI498
            refine WP_goto 0 dX11_scan_49 rfl ?_
            exact WP_sub (fc rfl fn) (ihlp0_124 I498 J119 hI498 v497 e504 w121 e499 w122 e500 w123 e501 w124 e502 (by omega) (by omega) (by omega) (by omega) (by omega))
  exact WP_sub (fc rfl fn) (lp0_124 _ I J hI w116 ew116 w117 ew117 w113 ew113 w114 ew114 w115 ew115 (by omega) (by omega) (by omega) (by omega) (Nat.lt_succ_self _))
