set_option maxHeartbeats 4000000 in
set_option maxRecDepth 100000 in
theorem sm_eachx {g : GG} {n : Int} {L : Int32} (hy : Ly g)  {I : pI} {J : pJ} {R : pR} (hr : Rf g R) (hI : MP g n L I) (th : Int32) (so : Int32) (th_lo : -1 ≤ th.toInt) (th_hi : th.toInt ≤ 2) (so_lo : 0 ≤ so.toInt) (so_hi : so.toInt ≤ 3) (hb : so.toInt < (I (ad g 0) 10).toInt) : SP g mX11_each [.ref (ad g 0), .int th, .int so] I J R (fun r I' J' R' => (I' = I ∧ J' = J ∧ R' = R) ∧ ∃ v : Int32, r = some (.int v) ∧ 0 ≤ v.toInt ∧ v.toInt ≤ 1000000 ∧ v.toInt = EC (I (ad g 40)) (I (ad g 8)) th.toInt so.toInt) := by
  refine SP_of ⟨by decide, rfl⟩ (Nat.le_of_ble_eq_true rfl) ?_
  have e5004 : I (ad g 0) 1 = L := hI.1.2
  have b5005 := BT_get hI.1.1 0 1 2 (0) (0) (900) (by decide) 1 (by decide) (by decide)
  rw [e5004] at b5005
  obtain ⟨w5006, ew5006⟩ : ∃ w : Int32, I (ad g 0) 10 = w := ⟨_, rfl⟩
  have bw5006 := BT_get hI.1.1 0 10 11 (0) (0) (4) (by decide) 10 (by decide) (by decide)
  rw [ew5006] at bw5006
  rw [ew5006] at hb
  refine WP_iload_n dX11_each_0 rfl ?_
  refine WQ_iconst (-1) (-1) dX11_each_1 rfl rfl (fun v5007 hv5007 => ?_)
  refine WQ_icmp_eq 17 dX11_each_2 rfl (fun c5007 => ?_) (fun c5007 => ?_)
  · refine WP_ldcw (1000000) dX11_each_17 kX11_460 ?_
    obtain ⟨v5009, hv5009, ev5009⟩ : ∃ v : Int32, v.toInt = 1000000 ∧ ((1000000) : Int32) = v := ⟨(1000000), rfl, rfl⟩
    rw [ev5009]; clear ev5009
    refine WP_goto 36 dX11_each_20 rfl ?_
    exact WP_iret dX11_each_36 rfl ⟨⟨rfl, rfl, rfl⟩, _, rfl, by omega, by omega, (by unfold EC; rw [if_pos (Or.inl (by omega))]; omega)⟩
  · refine WP_aload_n dX11_each_5 rfl ?_
    refine WP_getr dX11_each_6 fX11_289 rfl (ly_is hy 0 11 rfl) (rf hr 0 62 40 (by decide)) ?_
    refine WP_iload_n dX11_each_9 rfl ?_
    refine WQ_iald dX11_each_10 (ly_is hy 40 13 rfl) (ly_n hy 40 3 rfl) (by omega) (by omega) (fun q hq => BT_get hI.1.1 40 0 3 (0) (0) (1000000) (by decide) q (Nat.zero_le _) hq) (fun v5010 av5010 bv5010 ev5010 => ?_)
    refine WP_ldcw (1000000) dX11_each_11 kX11_460 ?_
    obtain ⟨v5011, hv5011, ev5011⟩ : ∃ v : Int32, v.toInt = 1000000 ∧ ((1000000) : Int32) = v := ⟨(1000000), rfl, rfl⟩
    rw [ev5011]; clear ev5011
    refine WQ_icmp_ne 23 dX11_each_14 rfl (fun c5011 => ?_) (fun c5011 => ?_)
    · refine WP_aload_n dX11_each_23 rfl ?_
      refine WP_getr dX11_each_24 fX11_289 rfl (ly_is hy 0 11 rfl) (rf hr 0 62 40 (by decide)) ?_
      refine WP_iload_n dX11_each_27 rfl ?_
      refine WQ_ialde dX11_each_28 (ly_is hy 40 13 rfl) (ly_n hy 40 3 rfl) (by omega) (by omega) ev5010 ?_
      refine WP_aload_n dX11_each_29 rfl ?_
      refine WP_getr dX11_each_30 fX11_235 rfl (ly_is hy 0 11 rfl) (rf hr 0 26 8 (by decide)) ?_
      refine WP_iload_n dX11_each_33 rfl ?_
      refine WQ_ialdq (q := so.toInt.toNat) dX11_each_34 (ly_is hy 8 13 rfl) (ly_n hy 8 4 rfl) (by omega) (by omega) (by omega) (pp_get hI (by omega) (by rw [ew5006]; omega)) (fun v5014 av5014 bv5014 ev5014 => ?_)
      refine WQ_idivb dX11_each_35 (by omega) (by omega) (fun v5015 pv5015 av5015 bv5015 cv5015 => ?_)
      exact WP_iret dX11_each_36 rfl ⟨⟨rfl, rfl, rfl⟩, _, rfl, by omega, by omega, (by unfold EC; rw [show I (ad g 40) th.toInt.toNat = v5010 by rw [← cl (x := th) (n := th.toInt.toNat) (by omega)]; exact ev5010, if_neg (by omega), show I (ad g 8) so.toInt.toNat = v5014 by rw [← cl (x := so) (n := so.toInt.toNat) (by omega)]; exact ev5014]; exact pv5015)⟩
    · refine WP_ldcw (1000000) dX11_each_17 kX11_460 ?_
      obtain ⟨v5016, hv5016, ev5016⟩ : ∃ v : Int32, v.toInt = 1000000 ∧ ((1000000) : Int32) = v := ⟨(1000000), rfl, rfl⟩
      rw [ev5016]; clear ev5016
      refine WP_goto 36 dX11_each_20 rfl ?_
      exact WP_iret dX11_each_36 rfl ⟨⟨rfl, rfl, rfl⟩, _, rfl, by omega, by omega, (by unfold EC; rw [show I (ad g 40) th.toInt.toNat = v5010 by rw [← cl (x := th) (n := th.toInt.toNat) (by omega)]; exact ev5010, if_pos (Or.inr (by omega))]; omega)⟩
set_option maxHeartbeats 4000000 in
set_option maxRecDepth 100000 in
theorem sm_cutAct {g : GG} {n : Int} {L : Int32} (hy : Ly g)  {I : pI} {J : pJ} {R : pR} (hr : Rf g R) (hI : MP g n L I) (so : Int32) (da : Int32) (ac : Int32) (so_lo : 0 ≤ so.toInt) (so_hi : so.toInt ≤ 3) (da_lo : 0 ≤ da.toInt) (da_hi : da.toInt ≤ 6) (ac_lo : 0 ≤ ac.toInt) (ac_hi : ac.toInt ≤ 47) (hb : so.toInt < (I (ad g 0) 10).toInt) : SP g mX11_cutAct [.ref (ad g 0), .int so, .int da, .int ac] I J R (fun r I' J' R' => (I' = I ∧ J' = J ∧ R' = R) ∧ ∃ v : Int32, r = some (.int v) ∧ 0 ≤ v.toInt ∧ v.toInt ≤ 47 ∧ CUT (I (ad g 24) (7 * so.toInt + da.toInt).toNat).toInt (I (ad g 0) 14).toInt (EC (I (ad g 40)) (I (ad g 8)) (I (ad g 24) (7 * so.toInt + da.toInt).toNat).toInt so.toInt) (EC (I (ad g 40)) (I (ad g 8)) (I (ad g 0) 14).toInt so.toInt) ac.toInt v.toInt) := by
  refine SP_of ⟨by decide, rfl⟩ (Nat.le_of_ble_eq_true rfl) ?_
  have e5017 : I (ad g 0) 1 = L := hI.1.2
  have b5018 := BT_get hI.1.1 0 1 2 (0) (0) (900) (by decide) 1 (by decide) (by decide)
  rw [e5017] at b5018
  obtain ⟨w5019, ew5019⟩ : ∃ w : Int32, I (ad g 0) 10 = w := ⟨_, rfl⟩
  have bw5019 := BT_get hI.1.1 0 10 11 (0) (0) (4) (by decide) 10 (by decide) (by decide)
  rw [ew5019] at bw5019
  rw [ew5019] at hb
  refine WP_aload_n dX11_cutAct_0 rfl ?_
  refine WP_getr dX11_cutAct_1 fX11_261 rfl (ly_is hy 0 11 rfl) (rf hr 0 42 24 (by decide)) ?_
  refine WQ_bipush (7) (7) dX11_cutAct_4 rfl rfl (fun v5020 hv5020 => ?_)
  refine WP_iload_n dX11_cutAct_6 rfl ?_
  refine WQ_imulK (7) dX11_cutAct_7 hv5020 (by omega) (by omega) (fun v5021 hv5021 => ?_)
  refine WP_iload_n dX11_cutAct_8 rfl ?_
  refine WQ_iadd dX11_cutAct_9 (by omega) (by omega) (fun v5022 hv5022 => ?_)
  refine WQ_iald dX11_cutAct_10 (ly_is hy 24 13 rfl) (ly_n hy 24 28 rfl) (by omega) (by omega) (fun q hq => BT_get hI.1.1 24 0 28 (-1) (0) (2) (by decide) q (Nat.zero_le _) hq) (fun v5023 av5023 bv5023 ev5023 => ?_)
  refine WP_istore (ls' := [(0, _), (1, _), (2, _), (3, _), (4, _)]) dX11_cutAct_11 (by decide) rfl ?_
  refine WP_iload_n dX11_cutAct_13 rfl ?_
  refine WQ_iconst (4) (4) dX11_cutAct_14 rfl rfl (fun v5024 hv5024 => ?_)
  refine WQ_iremk (4) dX11_cutAct_15 hv5024 (by decide) (by omega) (fun v5025 hv5025 => ?_)
  refine WP_aload_n dX11_cutAct_16 rfl ?_
  refine WP_iload dX11_cutAct_17 rfl ?_
  refine WP_iload_n dX11_cutAct_19 rfl ?_
  refine WP_callV2 (k := 11) dX11_cutAct_20 ⟨⟨⟨by decide, by decide⟩, zX11_each⟩, lX11_449, by decide, rfl, vX11_each.1, vX11_each.2⟩ (ly_is hy 0 11 rfl) (sm_eachx hy hr hI v5023 so (by omega) (by omega) (by omega) (by omega) (by rw [ew5019]; omega)) (Nat.le_of_ble_eq_true rfl) ?_
  intro r Ia Ja Ra hq
  obtain ⟨⟨ea, eb, ec⟩, v5026, rfl, av5026, bv5026, cv5026⟩ := hq
  show WP _ _ _ _ (.int _ :: _) _ _ _ _
  rw [ea, eb, ec]
  clear ea eb ec Ia Ja Ra
  refine WQ_min dX11_cutAct_23 lX11_417 ⟨by decide, Nat.le_of_ble_eq_true rfl⟩ (fun v5027 av5027 bv5027 cv5027 => ?_)
  refine WP_istore (ls' := [(0, _), (1, _), (2, _), (3, _), (4, _), (5, _)]) dX11_cutAct_26 (by decide) rfl ?_
  refine WP_iload_n dX11_cutAct_28 rfl ?_
  refine WQ_bipush (16) (16) dX11_cutAct_29 rfl rfl (fun v5028 hv5028 => ?_)
  refine WQ_idivk (16) dX11_cutAct_31 hv5028 (by decide) (by omega) (fun v5029 hv5029 => ?_)
  refine WP_aload_n dX11_cutAct_32 rfl ?_
  refine WP_aload_n dX11_cutAct_33 rfl ?_
  refine WQ_geti dX11_cutAct_34 fX11_224 rfl (ly_is hy 0 11 rfl) (BT_get hI.1.1 0 14 15 (-1) (0) (2) (by decide) 14 (by decide) (by decide)) (fun v5030 ev5030 av5030 bv5030 => ?_)
  refine WP_iload_n dX11_cutAct_37 rfl ?_
  refine WP_callV2 (k := 11) dX11_cutAct_38 ⟨⟨⟨by decide, by decide⟩, zX11_each⟩, lX11_449, by decide, rfl, vX11_each.1, vX11_each.2⟩ (ly_is hy 0 11 rfl) (sm_eachx hy hr hI v5030 so (by omega) (by omega) (by omega) (by omega) (by rw [ew5019]; omega)) (Nat.le_of_ble_eq_true rfl) ?_
  intro r Ia Ja Ra hq
  obtain ⟨⟨ea, eb, ec⟩, v5031, rfl, av5031, bv5031, cv5031⟩ := hq
  show WP _ _ _ _ (.int _ :: _) _ _ _ _
  rw [ea, eb, ec]
  clear ea eb ec Ia Ja Ra
  refine WP_iload dX11_cutAct_41 rfl ?_
  refine WP_aload_n dX11_cutAct_43 rfl ?_
  refine WQ_getim dX11_cutAct_44 fX11_224 rfl (ly_is hy 0 11 rfl) ev5030 ?_
  refine WQ_icmp_ne 55 dX11_cutAct_47 rfl (fun c5031 => ?_) (fun c5031 => ?_)
  · refine WQ_iconst (0) (0) dX11_cutAct_55 rfl rfl (fun v5033 hv5033 => ?_)
    refine WQ_isub dX11_cutAct_56 (by omega) (by omega) (fun v5034 hv5034 => ?_)
    refine WQ_min dX11_cutAct_57 lX11_417 ⟨by decide, Nat.le_of_ble_eq_true rfl⟩ (fun v5035 av5035 bv5035 cv5035 => ?_)
    refine WP_istore (ls' := [(0, _), (1, _), (2, _), (3, _), (4, _), (5, _), (6, _)]) dX11_cutAct_60 (by decide) rfl ?_
    refine WQ_bipush (16) (16) dX11_cutAct_62 rfl rfl (fun v5036 hv5036 => ?_)
    refine WP_iload dX11_cutAct_64 rfl ?_
    refine WQ_imulK (16) dX11_cutAct_66 hv5036 (by omega) (by omega) (fun v5037 hv5037 => ?_)
    refine WQ_iconst (4) (4) dX11_cutAct_67 rfl rfl (fun v5038 hv5038 => ?_)
    refine WP_iload_n dX11_cutAct_68 rfl ?_
    refine WQ_iconst (4) (4) dX11_cutAct_69 rfl rfl (fun v5039 hv5039 => ?_)
    refine WQ_idivk (4) dX11_cutAct_70 hv5039 (by decide) (by omega) (fun v5040 hv5040 => ?_)
    refine WQ_iconst (4) (4) dX11_cutAct_71 rfl rfl (fun v5041 hv5041 => ?_)
    refine WQ_iremk (4) dX11_cutAct_72 hv5041 (by decide) (by omega) (fun v5042 hv5042 => ?_)
    refine WQ_imulK (4) dX11_cutAct_73 hv5038 (by omega) (by omega) (fun v5043 hv5043 => ?_)
    refine WQ_iadd dX11_cutAct_74 (by omega) (by omega) (fun v5044 hv5044 => ?_)
    refine WP_iload dX11_cutAct_75 rfl ?_
    refine WQ_iadd dX11_cutAct_77 (by omega) (by omega) (fun v5045 hv5045 => ?_)
    exact WP_iret dX11_cutAct_78 rfl ⟨⟨rfl, rfl, rfl⟩, _, rfl, by omega, by omega, (by
        rw [show I (ad g 24) (7 * so.toInt + da.toInt).toNat = v5023 by rw [← cl (x := v5022) (n := (7 * so.toInt + da.toInt).toNat) (by omega)]; exact ev5023, ev5030, ← cv5026, ← cv5031]
        unfold CUT
        omega)⟩
  · have qe : v5026.toInt = v5031.toInt := by rw [cv5026, cv5031, show v5023.toInt = v5030.toInt by omega]
    refine WP_iload dX11_cutAct_50 rfl ?_
    refine WP_goto 56 dX11_cutAct_52 rfl ?_
    refine WQ_isub dX11_cutAct_56 (by omega) (by omega) (fun v5046 hv5046 => ?_)
    refine WQ_min dX11_cutAct_57 lX11_417 ⟨by decide, Nat.le_of_ble_eq_true rfl⟩ (fun v5047 av5047 bv5047 cv5047 => ?_)
    refine WP_istore (ls' := [(0, _), (1, _), (2, _), (3, _), (4, _), (5, _), (6, _)]) dX11_cutAct_60 (by decide) rfl ?_
    refine WQ_bipush (16) (16) dX11_cutAct_62 rfl rfl (fun v5048 hv5048 => ?_)
    refine WP_iload dX11_cutAct_64 rfl ?_
    refine WQ_imulK (16) dX11_cutAct_66 hv5048 (by omega) (by omega) (fun v5049 hv5049 => ?_)
    refine WQ_iconst (4) (4) dX11_cutAct_67 rfl rfl (fun v5050 hv5050 => ?_)
    refine WP_iload_n dX11_cutAct_68 rfl ?_
    refine WQ_iconst (4) (4) dX11_cutAct_69 rfl rfl (fun v5051 hv5051 => ?_)
    refine WQ_idivk (4) dX11_cutAct_70 hv5051 (by decide) (by omega) (fun v5052 hv5052 => ?_)
    refine WQ_iconst (4) (4) dX11_cutAct_71 rfl rfl (fun v5053 hv5053 => ?_)
    refine WQ_iremk (4) dX11_cutAct_72 hv5053 (by decide) (by omega) (fun v5054 hv5054 => ?_)
    refine WQ_imulK (4) dX11_cutAct_73 hv5050 (by omega) (by omega) (fun v5055 hv5055 => ?_)
    refine WQ_iadd dX11_cutAct_74 (by omega) (by omega) (fun v5056 hv5056 => ?_)
    refine WP_iload dX11_cutAct_75 rfl ?_
    refine WQ_iadd dX11_cutAct_77 (by omega) (by omega) (fun v5057 hv5057 => ?_)
    exact WP_iret dX11_cutAct_78 rfl ⟨⟨rfl, rfl, rfl⟩, _, rfl, by omega, by omega, (by
        rw [show I (ad g 24) (7 * so.toInt + da.toInt).toNat = v5023 by rw [← cl (x := v5022) (n := (7 * so.toInt + da.toInt).toNat) (by omega)]; exact ev5023, ev5030, ← cv5026, ← cv5031]
        unfold CUT
        omega)⟩
set_option maxHeartbeats 4000000 in
set_option maxRecDepth 100000 in
theorem sm_takes {g : GG} {n : Int} {L : Int32} (hy : Ly g)  {I : pI} {J : pJ} {R : pR} (hr : Rf g R) (hI : MP g n L I) (th : Int32) (da : Int32) (un : Int32) (th_lo : -1 ≤ th.toInt) (th_hi : th.toInt ≤ 2) (da_lo : 0 ≤ da.toInt) (da_hi : da.toInt ≤ 6) (un_lo : 0 ≤ un.toInt) (un_hi : un.toInt ≤ 297) (hb : un.toInt = 0 ∨ (0 ≤ th.toInt ∧ ((I (ad g 40) th.toInt.toNat).toInt = 1000000 ∨ un.toInt ≤ (I (ad g 40) th.toInt.toNat).toInt))) : SP g mX11_takes [.ref (ad g 0), .int th, .int da, .int un] I J R (fun r I' J' R' => (MP g n L I' ∧ R' = R ∧ fz 49 g [40, 41] I I' ∧ J' = J ∧ fs g [] I I' ∧ TK (I (ad g 40)) (I' (ad g 40)) th.toInt un.toInt) ∧ r = none) := by
  refine SP_of ⟨by decide, rfl⟩ (Nat.le_of_ble_eq_true rfl) ?_
  have e5058 : I (ad g 0) 1 = L := hI.1.2
  have b5059 := BT_get hI.1.1 0 1 2 (0) (0) (900) (by decide) 1 (by decide) (by decide)
  rw [e5058] at b5059
  have fr0 : fz 49 g [40, 41] I I := fz_rf
  have frq0 : fs g [] I I := fs_rf
  obtain ⟨lm, elm⟩ : ∃ w : Int32, I (ad g 40) th.toNatClampNeg = w := ⟨_, rfl⟩
  have clt : th.toNatClampNeg = th.toInt.toNat := by rw [show th.toNatClampNeg = th.toInt.toNat from rfl]
  have blm := BT_get hI.1.1 40 0 3 (0) (0) (1000000) (by decide) th.toNatClampNeg (Nat.zero_le _) (by rw [clt]; omega)
  rw [elm] at blm
  rw [← clt, elm] at hb
  refine WP_iload_n dX11_takes_0 rfl ?_
  refine WQ_if_ne 5 dX11_takes_1 rfl (fun c5059 => ?_) (fun c5059 => ?_)
  · refine WP_aload_n dX11_takes_5 rfl ?_
    refine WP_getr dX11_takes_6 fX11_292 rfl (ly_is hy 0 11 rfl) (rf hr 0 63 41 (by decide)) ?_
    refine WQ_bipush (7) (7) dX11_takes_9 rfl rfl (fun v5061 hv5061 => ?_)
    refine WP_iload_n dX11_takes_11 rfl ?_
    refine WQ_imulK (7) dX11_takes_12 hv5061 (by omega) (by omega) (fun v5062 hv5062 => ?_)
    refine WP_iload_n dX11_takes_13 rfl ?_
    refine WQ_iadd dX11_takes_14 (by omega) (by omega) (fun v5063 hv5063 => ?_)
    refine WP_dup2 dX11_takes_15 rfl rfl ?_
    refine WQ_ialdu dX11_takes_16 (ly_is hy 41 13 rfl) (ly_n hy 41 21 rfl) (by omega) (by omega) (fun v5064 => ?_)
    refine WP_iload_n dX11_takes_17 rfl ?_
    refine WQ_iaddu dX11_takes_18 (fun v5065 => ?_)
    refine WQ_iast dX11_takes_19 (ly_is hy 41 13 rfl) (ly_n hy 41 21 rfl) (by omega) (by omega) (fun I5066 eI5066 => ?_)
    have hI5066 : MP g n L I5066 := by rw [eI5066]; exact (mp_w hy hI (c := 41) (mi_r0 hy hI.1 (c := 41) (by decide) (Or.inl (by decide)) (by decide)) (by decide) (by decide) (Or.inl (by decide)))
    have e5067 : I5066 (ad g 0) 1 = L := by rw [eI5066, pp_ne _ _ (Or.inl (ly_ne hy (by decide) (by decide) (by decide)))]; exact e5058
    have e5068 : I5066 (ad g 40) th.toNatClampNeg = lm := by rw [eI5066, pp_ne _ _ (Or.inl (ly_ne hy (by decide) (by decide) (by decide)))]; exact elm
    have fr5069 : fs g [] I I5066 := by rw [eI5066]; exact fs_ppn hy frq0 (by decide) (by decide)
    have fr5070 : fz 49 g [40, 41] I I5066 := by rw [eI5066]; exact fzm_pp hy fr0 (by decide) (by decide)
    have TI5066 : I5066 (ad g 40) = I (ad g 40) := by rw [eI5066, pp_off _ _ (ly_ne hy (by decide) (by decide) (by decide))]
    clear eI5066
    refine WP_aload_n dX11_takes_20 rfl ?_
    refine WP_getr dX11_takes_21 fX11_289 rfl (ly_is hy 0 11 rfl) (rf hr 0 62 40 (by decide)) ?_
    refine WP_iload_n dX11_takes_24 rfl ?_
    refine WQ_ialde dX11_takes_25 (ly_is hy 40 13 rfl) (ly_n hy 40 3 rfl) (by omega) (by omega) e5068 ?_
    refine WP_ldcw (1000000) dX11_takes_26 kX11_460 ?_
    obtain ⟨v5072, hv5072, ev5072⟩ : ∃ v : Int32, v.toInt = 1000000 ∧ ((1000000) : Int32) = v := ⟨(1000000), rfl, rfl⟩
    rw [ev5072]; clear ev5072
    refine WQ_icmp_eq 42 dX11_takes_29 rfl (fun c5072 => ?_) (fun c5072 => ?_)
    · exact WP_vret dX11_takes_42 rfl ⟨⟨hI5066, rfl, fr5070, rfl, fr5069, (fun q => Or.inl (by rw [TI5066]))⟩, rfl⟩
    · refine WP_aload_n dX11_takes_32 rfl ?_
      refine WP_getr dX11_takes_33 fX11_289 rfl (ly_is hy 0 11 rfl) (rf hr 0 62 40 (by decide)) ?_
      refine WP_iload_n dX11_takes_36 rfl ?_
      refine WP_dup2 dX11_takes_37 rfl rfl ?_
      refine WQ_ialde dX11_takes_38 (ly_is hy 40 13 rfl) (ly_n hy 40 3 rfl) (by omega) (by omega) e5068 ?_
      refine WP_iload_n dX11_takes_39 rfl ?_
      refine WQ_isub dX11_takes_40 (by omega) (by omega) (fun v5075 hv5075 => ?_)
      refine WQ_iast dX11_takes_41 (ly_is hy 40 13 rfl) (ly_n hy 40 3 rfl) (by omega) (by omega) (fun I5076 eI5076 => ?_)
      have hI5076 : MP g n L I5076 := by rw [eI5076]; exact (mp_w hy hI5066 (c := 40) (mi_r hy hI5066.1 (c := 40) (0) (0) (1000000) (by decide) (Or.inl (by decide)) (by decide) (by omega) (by omega)) (by decide) (by decide) (Or.inl (by decide)))
      have e5077 : I5076 (ad g 0) 1 = L := by rw [eI5076, pp_ne _ _ (Or.inl (ly_ne hy (by decide) (by decide) (by decide)))]; exact e5067
      have fr5078 : fs g [] I I5076 := by rw [eI5076]; exact fs_ppn hy fr5069 (by decide) (by decide)
      have fr5079 : fz 49 g [40, 41] I I5076 := by rw [eI5076]; exact fzm_pp hy fr5070 (by decide) (by decide)
      have TI5076 : TK (I (ad g 40)) (I5076 (ad g 40)) th.toInt un.toInt := by
        intro q
        rw [eI5076, pp_at]
        split
        · rename_i e
          right
          rw [e, elm]
          refine ⟨by rw [clt]; omega, by omega, by omega⟩
        · left; rw [TI5066]
      clear eI5076
      exact WP_vret dX11_takes_42 rfl ⟨⟨hI5076, rfl, fr5079, rfl, fr5078, TI5076⟩, rfl⟩
  · exact WP_vret dX11_takes_4 rfl ⟨⟨hI, rfl, fr0, rfl, frq0, (fun q => Or.inl (by rw [(rfl : I (ad g 40) = I (ad g 40))]))⟩, rfl⟩
