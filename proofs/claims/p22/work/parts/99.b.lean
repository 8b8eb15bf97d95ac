set_option maxHeartbeats 4000000 in
set_option maxRecDepth 100000 in
theorem sx_stampAllf {g : GG} {n : Int} {L : Int32} (hy : LyX g)  {I : pI} {J : pJ} {R : pR} (hr : RfX g R) (hI : XI g n L I)   : SP g mX0_stampAll [.ref (ad g 5)] I J R (fun r I' J' R' => (XI g n L I' ∧ R' = R ∧ fz 74 g [24] I I' ∧ fz 74 g [] J J') ∧ r = none) := by
  refine SP_of ⟨by decide, rfl⟩ (Nat.le_of_ble_eq_true rfl) ?_
  have e12949 : I (ad g 1) 1 = L := hI.2
  have b12950 := BT_get hI.1 1 1 2 (0) (0) (900) (by decide) 1 (by decide) (by decide)
  rw [e12949] at b12950
  have fr0 : fz 74 g [24] I I := fz_rf
  have frj0 : fz 74 g [] J J := fz_rf
  refine WQ_iconst (0) (0) dX0_stampAll_0 rfl rfl (fun v12951 hv12951 => ?_)
  refine WP_istore_n (ls' := [(0, _), (1, _)]) dX0_stampAll_1 (by decide) rfl ?_
  have lp2_12954 : ∀ (mz : Nat) (i12952 : Int32) (I12953 : pI) (J12954 : pJ), XI g n L I12953 → fz 74 g [24] I I12953 → fz 74 g [] J J12954 → 0 ≤ i12952.toInt → i12952.toInt ≤ 7 → (8 - i12952.toInt).toNat < mz → WP g mX0_stampAll 2 [(0, .ref (ad g 5)), (1, .int i12952)] [] I12953 J12954 R (fun r I' J' R' => (XI g n L I' ∧ R' = R ∧ fz 74 g [24] I I' ∧ fz 74 g [] J J') ∧ r = none) := by
    intro mz
    induction mz with
    | zero =>
      intro i12952 I12953 J12954 hI12953 fiI12953 fjJ12954 ai12952 bi12952 hmlp2_12954
      exact absurd hmlp2_12954 (Nat.not_lt_zero _)
    | succ mz ihlp2_12954 =>
      intro i12952 I12953 J12954 hI12953 fiI12953 fjJ12954 ai12952 bi12952 hmlp2_12954
      have e12956 : I12953 (ad g 1) 1 = L := hI12953.2
      have b12957 := BT_get hI12953.1 1 1 2 (0) (0) (900) (by decide) 1 (by decide) (by decide)
      rw [e12956] at b12957
      refine WP_iload_n dX0_stampAll_2 rfl ?_
      refine WQ_bipush (7) (7) dX0_stampAll_3 rfl rfl (fun v12958 hv12958 => ?_)
      refine WQ_icmp_ge 51 dX0_stampAll_5 rfl (fun c12958 => ?_) (fun c12958 => ?_)
      · exact WP_vret dX0_stampAll_51 rfl ⟨⟨hI12953, rfl, fiI12953, fjJ12954⟩, rfl⟩
      · refine WQ_iconst (0) (0) dX0_stampAll_8 rfl rfl (fun v12960 hv12960 => ?_)
        refine WP_istore_n (ls' := [(0, _), (1, _), (2, _)]) dX0_stampAll_9 (by decide) rfl ?_
        have lp10_12963 : ∀ (mz : Nat) (i12961 : Int32) (I12962 : pI) (J12963 : pJ), XI g n L I12962 → fz 74 g [24] I I12962 → fz 74 g [] J J12963 → 0 ≤ i12961.toInt → i12961.toInt ≤ 61 → (62 - i12961.toInt).toNat < mz → WP g mX0_stampAll 10 [(0, .ref (ad g 5)), (1, .int i12952), (2, .int i12961)] [] I12962 J12963 R (fun r I' J' R' => (XI g n L I' ∧ R' = R ∧ fz 74 g [24] I I' ∧ fz 74 g [] J J') ∧ r = none) := by
          intro mz
          induction mz with
          | zero =>
            intro i12961 I12962 J12963 hI12962 fiI12962 fjJ12963 ai12961 bi12961 hmlp10_12963
            exact absurd hmlp10_12963 (Nat.not_lt_zero _)
          | succ mz ihlp10_12963 =>
            intro i12961 I12962 J12963 hI12962 fiI12962 fjJ12963 ai12961 bi12961 hmlp10_12963
            have e12965 : I12962 (ad g 1) 1 = L := hI12962.2
            have b12966 := BT_get hI12962.1 1 1 2 (0) (0) (900) (by decide) 1 (by decide) (by decide)
            rw [e12965] at b12966
            refine WP_iload_n dX0_stampAll_10 rfl ?_
            refine WQ_bipush (61) (61) dX0_stampAll_11 rfl rfl (fun v12967 hv12967 => ?_)
            refine WQ_icmp_ge 45 dX0_stampAll_13 rfl (fun c12967 => ?_) (fun c12967 => ?_)
            · refine WP_iinc (ls' := [(0, _), (1, _), (2, _)]) dX0_stampAll_45 rfl (by decide) rfl ?_
              have hv12969 : (i12952 + Int32.ofInt (1)).toInt = i12952.toInt + (1) := ia_n rfl (by omega) (by omega)
              generalize i12952 + Int32.ofInt (1) = v12969 at hv12969 ⊢
              refine WP_goto 2 dX0_stampAll_48 rfl ?_
              exact WP_sub (fc rfl (fc rfl fn)) (ihlp2_12954 v12969 I12962 J12963 hI12962 fiI12962 fjJ12963 (by omega) (by omega) (by omega))
            · refine WP_aload_n dX0_stampAll_16 rfl ?_
              refine WP_getr dX0_stampAll_17 fX0_18 rfl (lyx_is hy 5 0 rfl) (rfx hr 5 3 24 (by decide)) ?_
              refine WP_iload_n dX0_stampAll_20 rfl ?_
              refine WQ_bipush (61) (61) dX0_stampAll_21 rfl rfl (fun v12970 hv12970 => ?_)
              refine WQ_imulk (61) dX0_stampAll_23 hv12970 (by omega) (by omega) (fun v12971 hv12971 => ?_)
              refine WP_iload_n dX0_stampAll_24 rfl ?_
              refine WQ_iadd dX0_stampAll_25 (by omega) (by omega) (fun v12972 hv12972 => ?_)
              refine WP_iload_n dX0_stampAll_26 rfl ?_
              refine WP_iload_n dX0_stampAll_27 rfl ?_
              refine WP_aload_n dX0_stampAll_28 rfl ?_
              refine WP_getr dX0_stampAll_29 fX0_15 rfl (lyx_is hy 5 0 rfl) (rfx hr 5 2 23 (by decide)) ?_
              refine WP_iload_n dX0_stampAll_32 rfl ?_
              refine WQ_iald dX0_stampAll_33 (lyx_is hy 23 13 rfl) (lyx_n hy 23 7 rfl) (by omega) (by omega) (fun q hq => BT_get hI12962.1 23 0 7 (0) (0) (900) (by decide) q (Nat.zero_le _) hq) (fun v12973 av12973 bv12973 ev12973 => ?_)
              clear ev12973
              refine WP_callN2 dX0_stampAll_34 ⟨⟨⟨by decide, by decide⟩, zX10_stampsOf⟩, lX0_60, tX10_stampsOf⟩ (sx_stampsOf hy hr hI12962 i12961 v12973 (by omega) (by omega) (by omega) (by omega)) (Nat.le_of_ble_eq_true rfl) ?_
              intro r Ia Ja Ra hq
              obtain ⟨⟨ea, eb, ec⟩, v12974, rfl, av12974, bv12974, cv12974⟩ := hq
              show WP _ _ _ _ (.int _ :: _) _ _ _ _
              rw [ea, eb, ec]
              clear ea eb ec Ia Ja Ra
              refine WQ_isub dX0_stampAll_37 (by omega) (by omega) (fun v12975 hv12975 => ?_)
              refine WQ_iast dX0_stampAll_38 (lyx_is hy 24 13 rfl) (lyx_n hy 24 427 rfl) (by omega) (by omega) (fun I12976 eI12976 => ?_)
              have hI12976 : XI g n L I12976 := by rw [eI12976]; exact (xi_r hy hI12962 (c := 24) (0) (0) (60) (by decide) (Or.inl (by decide)) (by decide) (by omega) (by omega))
              have e12977 : I12976 (ad g 1) 1 = L := by rw [eI12976, pp_ne _ _ (Or.inl (lyx_ne hy (by decide) (by decide) (by decide)))]; exact e12965
              have fr12978 : fz 74 g [24] I I12976 := by rw [eI12976]; exact fzx_pp hy fiI12962 (by decide) (by decide)
              clear eI12976
              refine WP_iinc (ls' := [(0, _), (1, _), (2, _)]) dX0_stampAll_39 rfl (by decide) rfl ?_
              have hv12979 : (i12961 + Int32.ofInt (1)).toInt = i12961.toInt + (1) := ia_n rfl (by omega) (by omega)
              generalize i12961 + Int32.ofInt (1) = v12979 at hv12979 ⊢
              refine WP_goto 10 dX0_stampAll_42 rfl ?_
              exact WP_sub (fc rfl (fc rfl (fc rfl fn))) (ihlp10_12963 v12979 I12976 J12963 hI12976 fr12978 fjJ12963 (by omega) (by omega) (by omega))
        exact WP_sub (fc rfl (fc rfl (fc rfl fn))) (lp10_12963 _ v12960 I12953 J12954 hI12953 fiI12953 fjJ12954 (by omega) (by omega) (Nat.lt_succ_self _))
  exact WP_sub (fc rfl (fc rfl fn)) (lp2_12954 _ v12951 I J hI fr0 frj0 (by omega) (by omega) (Nat.lt_succ_self _))
set_option maxHeartbeats 4000000 in
set_option maxRecDepth 100000 in
theorem sx_buyf {g : GG} {n : Int} {L : Int32} (hy : LyX g)  {I : pI} {J : pJ} {R : pR} (hr : RfX g R) (hI : XI g n L I) (th : Int32) (un : Int32) (pe : Int32) (da : Int32) (th_lo : -1 ≤ th.toInt) (th_hi : th.toInt ≤ 2) (un_lo : 0 ≤ un.toInt) (un_hi : un.toInt ≤ 3) (pe_lo : 0 ≤ pe.toInt) (pe_hi : pe.toInt ≤ 99) (da_lo : 0 ≤ da.toInt) (da_hi : da.toInt ≤ 6) : SP g mX9_buy [.ref (ad g 49), .int th, .int un, .int pe, .int da] I J R (fun r I' J' R' => (XI g n L I' ∧ R' = R ∧ fz 74 g [51, 52] I I' ∧ fz 74 g [] J J') ∧ ∃ v : Int32, r = some (.int v) ∧ 0 ≤ v.toInt ∧ v.toInt ≤ 3 ∧ v.toInt ≤ un.toInt) := by
  refine SP_of ⟨by decide, rfl⟩ (Nat.le_of_ble_eq_true rfl) ?_
  have e12980 : I (ad g 1) 1 = L := hI.2
  have b12981 := BT_get hI.1 1 1 2 (0) (0) (900) (by decide) 1 (by decide) (by decide)
  rw [e12980] at b12981
  have fr0 : fz 74 g [51, 52] I I := fz_rf
  have frj0 : fz 74 g [] J J := fz_rf
  refine WP_iload_n dX9_buy_0 rfl ?_
  refine WQ_iconst (-1) (-1) dX9_buy_1 rfl rfl (fun v12982 hv12982 => ?_)
  refine WQ_icmp_eq 10 dX9_buy_2 rfl (fun c12982 => ?_) (fun c12982 => ?_)
  · refine WQ_iconst (0) (0) dX9_buy_10 rfl rfl (fun v12984 hv12984 => ?_)
    exact WP_iret dX9_buy_11 rfl ⟨⟨hI, rfl, fr0, frj0⟩, _, rfl, by omega, by omega, by omega⟩
  · refine WP_iload_n dX9_buy_5 rfl ?_
    refine WQ_iconst (1) (1) dX9_buy_6 rfl rfl (fun v12985 hv12985 => ?_)
    refine WQ_icmp_ge 12 dX9_buy_7 rfl (fun c12985 => ?_) (fun c12985 => ?_)
    · refine WP_iload_n dX9_buy_12 rfl ?_
      refine WP_aload_n dX9_buy_13 rfl ?_
      refine WP_getr dX9_buy_14 fX9_22 rfl (lyx_is hy 49 9 rfl) (rfx hr 49 4 52 (by decide)) ?_
      refine WP_iload_n dX9_buy_17 rfl ?_
      refine WQ_iald dX9_buy_18 (lyx_is hy 52 13 rfl) (lyx_n hy 52 3 rfl) (by omega) (by omega) (fun q hq => BT_get hI.1 52 0 3 (0) (0) (1000000) (by decide) q (Nat.zero_le _) hq) (fun v12987 av12987 bv12987 ev12987 => ?_)
      refine WP_iload_n dX9_buy_19 rfl ?_
      refine WQ_idivb dX9_buy_20 (by omega) (by omega) (fun v12988 pv12988 av12988 bv12988 cv12988 => ?_)
      refine WQ_min dX9_buy_21 lX9_78 ⟨by decide, Nat.le_of_ble_eq_true rfl⟩ (fun v12989 av12989 bv12989 cv12989 => ?_)
      refine WP_istore (ls' := [(0, _), (1, _), (2, _), (3, _), (4, _), (5, _)]) dX9_buy_24 (by decide) rfl ?_
      refine WP_aload_n dX9_buy_26 rfl ?_
      refine WP_getr dX9_buy_27 fX9_22 rfl (lyx_is hy 49 9 rfl) (rfx hr 49 4 52 (by decide)) ?_
      refine WP_iload_n dX9_buy_30 rfl ?_
      refine WP_dup2 dX9_buy_31 rfl rfl ?_
      refine WQ_ialde dX9_buy_32 (lyx_is hy 52 13 rfl) (lyx_n hy 52 3 rfl) (by omega) (by omega) ev12987 ?_
      refine WP_iload dX9_buy_33 rfl ?_
      refine WP_iload_n dX9_buy_35 rfl ?_
      refine WQ_imulb (3) (99) dX9_buy_36 ⟨by omega, by omega⟩ ⟨by omega, by omega⟩ (by decide) (fun v12991 pv12991 av12991 bv12991 cv12991 => ?_)
      have k0 : v12989.toInt * pe.toInt ≤ v12988.toInt * pe.toInt := Int.mul_le_mul_of_nonneg_right (by omega) (by omega)
      refine WQ_isub dX9_buy_37 (by omega) (by omega) (fun v12992 hv12992 => ?_)
      refine WQ_iast dX9_buy_38 (lyx_is hy 52 13 rfl) (lyx_n hy 52 3 rfl) (by omega) (by omega) (fun I12993 eI12993 => ?_)
      have hI12993 : XI g n L I12993 := by rw [eI12993]; exact (xi_r hy hI (c := 52) (0) (0) (1000000) (by decide) (Or.inl (by decide)) (by decide) (by omega) (by omega))
      have e12994 : I12993 (ad g 1) 1 = L := by rw [eI12993, pp_ne _ _ (Or.inl (lyx_ne hy (by decide) (by decide) (by decide)))]; exact e12980
      have fr12995 : fz 74 g [51, 52] I I12993 := by rw [eI12993]; exact fzx_pp hy fr0 (by decide) (by decide)
      clear eI12993
      refine WP_aload_n dX9_buy_39 rfl ?_
      refine WP_getr dX9_buy_40 fX9_18 rfl (lyx_is hy 49 9 rfl) (rfx hr 49 1 51 (by decide)) ?_
      refine WP_iload_n dX9_buy_43 rfl ?_
      refine WQ_bipush (7) (7) dX9_buy_44 rfl rfl (fun v12996 hv12996 => ?_)
      refine WQ_imulk (7) dX9_buy_46 hv12996 (by omega) (by omega) (fun v12997 hv12997 => ?_)
      refine WP_iload dX9_buy_47 rfl ?_
      refine WQ_iadd dX9_buy_49 (by omega) (by omega) (fun v12998 hv12998 => ?_)
      refine WP_dup2 dX9_buy_50 rfl rfl ?_
      refine WQ_ialdu dX9_buy_51 (lyx_is hy 51 13 rfl) (lyx_n hy 51 21 rfl) (by omega) (by omega) (fun v12999 => ?_)
      refine WP_iload dX9_buy_52 rfl ?_
      refine WP_iload_n dX9_buy_54 rfl ?_
      refine WQ_imulb (3) (99) dX9_buy_55 ⟨by omega, by omega⟩ ⟨by omega, by omega⟩ (by decide) (fun v13000 pv13000 av13000 bv13000 cv13000 => ?_)
      refine WQ_iaddu dX9_buy_56 (fun v13001 => ?_)
      refine WQ_iast dX9_buy_57 (lyx_is hy 51 13 rfl) (lyx_n hy 51 21 rfl) (by omega) (by omega) (fun I13002 eI13002 => ?_)
      have hI13002 : XI g n L I13002 := by rw [eI13002]; exact (xi_r0 hy hI12993 (c := 51) (by decide) (Or.inl (by decide)) (by decide))
      have e13003 : I13002 (ad g 1) 1 = L := by rw [eI13002, pp_ne _ _ (Or.inl (lyx_ne hy (by decide) (by decide) (by decide)))]; exact e12994
      have fr13004 : fz 74 g [51, 52] I I13002 := by rw [eI13002]; exact fzx_pp hy fr12995 (by decide) (by decide)
      clear eI13002
      refine WP_iload dX9_buy_58 rfl ?_
      exact WP_iret dX9_buy_60 rfl ⟨⟨hI13002, rfl, fr13004, frj0⟩, _, rfl, by omega, by omega, by omega⟩
    · refine WQ_iconst (0) (0) dX9_buy_10 rfl rfl (fun v13005 hv13005 => ?_)
      exact WP_iret dX9_buy_11 rfl ⟨⟨hI, rfl, fr0, frj0⟩, _, rfl, by omega, by omega, by omega⟩
set_option maxHeartbeats 4000000 in
set_option maxRecDepth 100000 in
theorem sx_pricex {g : GG} {n : Int} {L : Int32} (hy : LyX g)  {I : pI} {J : pJ} {R : pR} (hr : RfX g R) (hI : XI g n L I) (ea : Int32) (sq : Int32) (ea_lo : 0 ≤ ea.toInt) (ea_hi : ea.toInt ≤ 3) (sq_lo : 0 ≤ sq.toInt) (sq_hi : sq.toInt ≤ 3) : SP g mX6_priceOf [.ref (ad g 50), .int ea, .int sq] I J R (fun r I' J' R' => (I' = I ∧ J' = J ∧ R' = R) ∧ ∃ v : Int32, r = some (.int v) ∧ 0 ≤ v.toInt ∧ v.toInt ≤ 120 ∧ v.toInt = ea.toInt * (I (ad g 50) 3).toInt + sq.toInt * (I (ad g 50) 4).toInt) := by
  refine SP_of ⟨by decide, rfl⟩ (Nat.le_of_ble_eq_true rfl) ?_
  have e13006 : I (ad g 1) 1 = L := hI.2
  have b13007 := BT_get hI.1 1 1 2 (0) (0) (900) (by decide) 1 (by decide) (by decide)
  rw [e13006] at b13007
  refine WP_iload_n dX6_priceOf_0 rfl ?_
  refine WP_aload_n dX6_priceOf_1 rfl ?_
  refine WQ_geti dX6_priceOf_2 fX6_48 rfl (lyx_is hy 50 6 rfl) (BT_get hI.1 50 3 4 (0) (0) (20) (by decide) 3 (by decide) (by decide)) (fun v13008 ev13008 av13008 bv13008 => ?_)
  refine WQ_imulb (3) (20) dX6_priceOf_5 ⟨by omega, by omega⟩ ⟨by omega, by omega⟩ (by decide) (fun v13009 pv13009 av13009 bv13009 cv13009 => ?_)
  refine WP_iload_n dX6_priceOf_6 rfl ?_
  refine WP_aload_n dX6_priceOf_7 rfl ?_
  refine WQ_geti dX6_priceOf_8 fX6_51 rfl (lyx_is hy 50 6 rfl) (BT_get hI.1 50 4 5 (0) (0) (20) (by decide) 4 (by decide) (by decide)) (fun v13010 ev13010 av13010 bv13010 => ?_)
  refine WQ_imulb (3) (20) dX6_priceOf_11 ⟨by omega, by omega⟩ ⟨by omega, by omega⟩ (by decide) (fun v13011 pv13011 av13011 bv13011 cv13011 => ?_)
  refine WQ_iadd dX6_priceOf_12 (by omega) (by omega) (fun v13012 hv13012 => ?_)
  exact WP_iret dX6_priceOf_13 rfl ⟨⟨rfl, rfl, rfl⟩, _, rfl, by omega, by omega, by (try rw [ev13008]; try rw [ev13010]); omega⟩
set_option maxHeartbeats 4000000 in
set_option maxRecDepth 100000 in
theorem sx_becomef_56_53 {g : GG} {n : Int} {L : Int32} (hy : LyX g)  {I : pI} {J : pJ} {R : pR} (hr : RfX g R) (hI : XI g n L I)   : SP g mX4_become [.ref (ad g 56), .ref (ad g 53)] I J R (fun r I' J' R' => (XI g n L I' ∧ R' = R ∧ fz 74 g [56, 57, 58] I I' ∧ fz 74 g [56] J J') ∧ r = none) := by
  refine SP_of ⟨by decide, rfl⟩ (Nat.le_of_ble_eq_true rfl) ?_
  have e13013 : I (ad g 1) 1 = L := hI.2
  have b13014 := BT_get hI.1 1 1 2 (0) (0) (900) (by decide) 1 (by decide) (by decide)
  rw [e13013] at b13014
  have fr0 : fz 74 g [56, 57, 58] I I := fz_rf
  have frj0 : fz 74 g [56] J J := fz_rf
  refine WP_aload_n dX4_become_0 rfl ?_
  refine WP_aload_n dX4_become_1 rfl ?_
  refine WQ_getiu dX4_become_2 fX4_18 rfl (lyx_is hy 53 4 rfl) (fun v13015 ev13015 => ?_)
  refine WQ_puti dX4_become_5 fX4_18 rfl rfl (lyx_is hy 56 4 rfl) (fun I13016 eI13016 => ?_)
  have hI13016 : XI g n L I13016 := by rw [eI13016]; exact (xi_f0 hy hI (c := 56) (by decide) (Or.inl (by decide)) (by decide))
  have e13017 : I13016 (ad g 1) 1 = L := by rw [eI13016, pp_ne _ _ (Or.inl (lyx_ne hy (by decide) (by decide) (by decide)))]; exact e13013
  have e13018 : I13016 (ad g 53) 0 = v13015 := by rw [eI13016, pp_ne _ _ (Or.inl (lyx_ne hy (by decide) (by decide) (by decide)))]; exact ev13015
  have e13019 : I13016 (ad g 56) 0 = v13015 := by rw [eI13016, pp_self]
  have fr13020 : fz 74 g [56, 57, 58] I I13016 := by rw [eI13016]; exact fzx_pp hy fr0 (by decide) (by decide)
  clear eI13016
  refine WP_aload_n dX4_become_8 rfl ?_
  refine WP_aload_n dX4_become_9 rfl ?_
  refine WQ_geti dX4_become_10 fX4_22 rfl (lyx_is hy 53 4 rfl) (BT_get hI13016.1 53 1 2 (0) (23760) (0) (by decide) 1 (by decide) (by decide)) (fun v13021 ev13021 av13021 bv13021 => ?_)
  refine WQ_puti dX4_become_13 fX4_22 rfl rfl (lyx_is hy 56 4 rfl) (fun I13022 eI13022 => ?_)
  have hI13022 : XI g n L I13022 := by rw [eI13022]; exact (xi_f hy hI13016 (c := 56) (0) (23760) (700000) (by decide) (Or.inl (by decide)) (by decide) (by omega) (by omega))
  have e13023 : I13022 (ad g 1) 1 = L := by rw [eI13022, pp_ne _ _ (Or.inl (lyx_ne hy (by decide) (by decide) (by decide)))]; exact e13017
  have e13024 : I13022 (ad g 53) 0 = v13015 := by rw [eI13022, pp_ne _ _ (Or.inl (lyx_ne hy (by decide) (by decide) (by decide)))]; exact e13018
  have e13025 : I13022 (ad g 56) 0 = v13015 := by rw [eI13022, pp_ne _ _ (Or.inr (by decide))]; exact e13019
  have e13026 : I13022 (ad g 53) 1 = v13021 := by rw [eI13022, pp_ne _ _ (Or.inl (lyx_ne hy (by decide) (by decide) (by decide)))]; exact ev13021
  have e13027 : I13022 (ad g 56) 1 = v13021 := by rw [eI13022, pp_self]
  have fr13028 : fz 74 g [56, 57, 58] I I13022 := by rw [eI13022]; exact fzx_pp hy fr13020 (by decide) (by decide)
  clear eI13022
  refine WP_aload_n dX4_become_16 rfl ?_
  refine WP_aload_n dX4_become_17 rfl ?_
  refine WQ_getiu dX4_become_18 fX4_25 rfl (lyx_is hy 53 4 rfl) (fun v13029 ev13029 => ?_)
  refine WQ_puti dX4_become_21 fX4_25 rfl rfl (lyx_is hy 56 4 rfl) (fun I13030 eI13030 => ?_)
  have hI13030 : XI g n L I13030 := by rw [eI13030]; exact (xi_f0 hy hI13022 (c := 56) (by decide) (Or.inl (by decide)) (by decide))
  have e13031 : I13030 (ad g 1) 1 = L := by rw [eI13030, pp_ne _ _ (Or.inl (lyx_ne hy (by decide) (by decide) (by decide)))]; exact e13023
  have e13032 : I13030 (ad g 53) 0 = v13015 := by rw [eI13030, pp_ne _ _ (Or.inl (lyx_ne hy (by decide) (by decide) (by decide)))]; exact e13024
  have e13033 : I13030 (ad g 56) 0 = v13015 := by rw [eI13030, pp_ne _ _ (Or.inr (by decide))]; exact e13025
  have e13034 : I13030 (ad g 53) 1 = v13021 := by rw [eI13030, pp_ne _ _ (Or.inl (lyx_ne hy (by decide) (by decide) (by decide)))]; exact e13026
  have e13035 : I13030 (ad g 56) 1 = v13021 := by rw [eI13030, pp_ne _ _ (Or.inr (by decide))]; exact e13027
  have e13036 : I13030 (ad g 53) 2 = v13029 := by rw [eI13030, pp_ne _ _ (Or.inl (lyx_ne hy (by decide) (by decide) (by decide)))]; exact ev13029
  have e13037 : I13030 (ad g 56) 2 = v13029 := by rw [eI13030, pp_self]
  have fr13038 : fz 74 g [56, 57, 58] I I13030 := by rw [eI13030]; exact fzx_pp hy fr13028 (by decide) (by decide)
  clear eI13030
  refine WP_aload_n dX4_become_24 rfl ?_
  refine WP_aload_n dX4_become_25 rfl ?_
  refine WQ_getl dX4_become_26 fX4_28 rfl (lyx_is hy 53 4 rfl) (fun l13039 el13039 => ?_)
  refine WQ_putl dX4_become_29 fX4_28 rfl rfl (lyx_is hy 56 4 rfl) (fun J13040 eJ13040 => ?_)
  have fr13041 : fz 74 g [56] J J13040 := by rw [eJ13040]; exact fzx_pp hy frj0 (by decide) (by decide)
  clear eJ13040
  refine WP_aload_n dX4_become_32 rfl ?_
  refine WP_getr dX4_become_33 fX4_9 rfl (lyx_is hy 53 4 rfl) (rfx hr 53 4 54 (by decide)) ?_
  refine WQ_iconst (0) (0) dX4_become_36 rfl rfl (fun v13042 hv13042 => ?_)
  refine WP_aload_n dX4_become_37 rfl ?_
  refine WP_getr dX4_become_38 fX4_9 rfl (lyx_is hy 56 4 rfl) (rfx hr 56 4 57 (by decide)) ?_
  refine WQ_iconst (0) (0) dX4_become_41 rfl rfl (fun v13043 hv13043 => ?_)
  refine WP_aload_n dX4_become_42 rfl ?_
  refine WP_getr dX4_become_43 fX4_9 rfl (lyx_is hy 56 4 rfl) (rfx hr 56 4 57 (by decide)) ?_
  refine WP_alen dX4_become_46 (lyx_is hy 57 13 rfl) (by decide) ?_
  rw [(lyx_n hy 57 4 rfl)]
  obtain ⟨v13044, hv13044, ev13044⟩ : ∃ v : Int32, v.toInt = 4 ∧ nI 4 = v := ⟨_, nI_toInt (by decide), rfl⟩
  rw [ev13044]; clear ev13044
  refine WQ_copy0 (N := 4) dX4_become_47 lX4_46 ⟨by decide, Nat.le_of_ble_eq_true rfl⟩ (lyx_is hy 54 13 rfl) (lyx_is hy 57 13 rfl) hv13042 hv13043 hv13044 (lyx_n hy 54 4 rfl) (lyx_n hy 57 4 rfl) (fun I13045 fI13045 oI13045 => ?_)
  have hI13045 : XI g n L I13045 := xi_copy hy hI13030 54 57 4 (by decide) (by decide) fI13045 oI13045
  have fr13046 : fz 74 g [56, 57, 58] I I13045 := fzx_cp hy fr13038 oI13045 (by decide) (by decide)
  clear fI13045 oI13045
  have e13047 : I13045 (ad g 1) 1 = L := hI13045.2
  have b13048 := BT_get hI13045.1 1 1 2 (0) (0) (900) (by decide) 1 (by decide) (by decide)
  rw [e13047] at b13048
  refine WP_aload_n dX4_become_50 rfl ?_
  refine WP_getr dX4_become_51 fX4_15 rfl (lyx_is hy 53 4 rfl) (rfx hr 53 5 55 (by decide)) ?_
  refine WQ_iconst (0) (0) dX4_become_54 rfl rfl (fun v13049 hv13049 => ?_)
  refine WP_aload_n dX4_become_55 rfl ?_
  refine WP_getr dX4_become_56 fX4_15 rfl (lyx_is hy 56 4 rfl) (rfx hr 56 5 58 (by decide)) ?_
  refine WQ_iconst (0) (0) dX4_become_59 rfl rfl (fun v13050 hv13050 => ?_)
  refine WP_aload_n dX4_become_60 rfl ?_
  refine WP_getr dX4_become_61 fX4_15 rfl (lyx_is hy 56 4 rfl) (rfx hr 56 5 58 (by decide)) ?_
  refine WP_alen dX4_become_64 (lyx_is hy 58 13 rfl) (by decide) ?_
  rw [(lyx_n hy 58 28 rfl)]
  obtain ⟨v13051, hv13051, ev13051⟩ : ∃ v : Int32, v.toInt = 28 ∧ nI 28 = v := ⟨_, nI_toInt (by decide), rfl⟩
  rw [ev13051]; clear ev13051
  refine WQ_copy0 (N := 28) dX4_become_65 lX4_46 ⟨by decide, Nat.le_of_ble_eq_true rfl⟩ (lyx_is hy 55 13 rfl) (lyx_is hy 58 13 rfl) hv13049 hv13050 hv13051 (lyx_n hy 55 28 rfl) (lyx_n hy 58 28 rfl) (fun I13052 fI13052 oI13052 => ?_)
  have hI13052 : XI g n L I13052 := xi_copy hy hI13045 55 58 28 (by decide) (by decide) fI13052 oI13052
  have fr13053 : fz 74 g [56, 57, 58] I I13052 := fzx_cp hy fr13046 oI13052 (by decide) (by decide)
  clear fI13052 oI13052
  have e13054 : I13052 (ad g 1) 1 = L := hI13052.2
  have b13055 := BT_get hI13052.1 1 1 2 (0) (0) (900) (by decide) 1 (by decide) (by decide)
  rw [e13054] at b13055
  exact WP_vret dX4_become_68 rfl ⟨⟨hI13052, rfl, fr13053, fr13041⟩, rfl⟩
set_option maxHeartbeats 4000000 in
set_option maxRecDepth 100000 in
theorem sx_lossesAsToldf_6 {g : GG} {n : Int} {L : Int32} (hy : LyX g)  {I : pI} {J : pJ} {R : pR} (hr : RfX g R) (hT : R (ad g 5) 0 = some (ad g 6)) (hI : XI g n L I)   : SP g mX0_lossesAsTold [.ref (ad g 5)] I J R (fun r I' J' R' => (XI g n L I' ∧ R' = R ∧ fz 74 g [23, 24] I I' ∧ fz 74 g [] J J') ∧ r = none) := by
  refine SP_of ⟨by decide, rfl⟩ (Nat.le_of_ble_eq_true rfl) ?_
  have e13056 : I (ad g 1) 1 = L := hI.2
  have b13057 := BT_get hI.1 1 1 2 (0) (0) (900) (by decide) 1 (by decide) (by decide)
  rw [e13056] at b13057
  have fr0 : fz 74 g [23, 24] I I := fz_rf
  have frj0 : fz 74 g [] J J := fz_rf
  refine WP_aload_n dX0_lossesAsTold_0 rfl ?_
  refine WP_getr dX0_lossesAsTold_1 fX0_27 rfl (lyx_is hy 5 0 rfl) hT ?_
  refine WP_getr dX0_lossesAsTold_4 fX0_56 rfl (lyx_is hy 6 7 rfl) (rfx hr 6 5 7 (by decide)) ?_
  refine WQ_iconst (0) (0) dX0_lossesAsTold_7 rfl rfl (fun v13058 hv13058 => ?_)
  refine WP_aload_n dX0_lossesAsTold_8 rfl ?_
  refine WP_getr dX0_lossesAsTold_9 fX0_15 rfl (lyx_is hy 5 0 rfl) (rfx hr 5 2 23 (by decide)) ?_
  refine WQ_iconst (0) (0) dX0_lossesAsTold_12 rfl rfl (fun v13059 hv13059 => ?_)
  refine WQ_bipush (7) (7) dX0_lossesAsTold_13 rfl rfl (fun v13060 hv13060 => ?_)
  refine WQ_copy0 (N := 7) dX0_lossesAsTold_15 lX0_50 ⟨by decide, Nat.le_of_ble_eq_true rfl⟩ (lyx_is hy 7 13 rfl) (lyx_is hy 23 13 rfl) hv13058 hv13059 hv13060 (lyx_n hy 7 7 rfl) (lyx_n hy 23 7 rfl) (fun I13061 fI13061 oI13061 => ?_)
  have hI13061 : XI g n L I13061 := xi_copy hy hI 7 23 7 (by decide) (by decide) fI13061 oI13061
  have fr13062 : fz 74 g [23, 24] I I13061 := fzx_cp hy fr0 oI13061 (by decide) (by decide)
  clear fI13061 oI13061
  have e13063 : I13061 (ad g 1) 1 = L := hI13061.2
  have b13064 := BT_get hI13061.1 1 1 2 (0) (0) (900) (by decide) 1 (by decide) (by decide)
  rw [e13063] at b13064
  refine WP_aload_n dX0_lossesAsTold_18 rfl ?_
  refine WP_callV0 (k := 0) dX0_lossesAsTold_19 ⟨⟨⟨by decide, by decide⟩, zX0_stampAll⟩, lX0_57, by decide, rfl, vX0_stampAll.1, vX0_stampAll.2⟩ (lyx_is hy 5 0 rfl) (sx_stampAllf hy hr hI13061  ) (Nat.le_of_ble_eq_true rfl) ?_
  intro r I13065 J13066 Ra hq
  obtain ⟨⟨hI13065, ec, fiI13065, fjI13065⟩, rfl⟩ := hq
  rw [ec]
  clear ec Ra
  have fr13067 : fz 74 g [23, 24] I I13065 := fz_tr fr13062 (fz_mono fiI13065 (by decide))
  have fr13068 : fz 74 g [] J J13066 := fz_tr frj0 (fz_mono fjI13065 (by decide))
  have e13069 : I13065 (ad g 1) 1 = L := hI13065.2
  have b13070 := BT_get hI13065.1 1 1 2 (0) (0) (900) (by decide) 1 (by decide) (by decide)
  rw [e13069] at b13070
  exact WP_vret dX0_lossesAsTold_22 rfl ⟨⟨hI13065, rfl, fr13067, fr13068⟩, rfl⟩
theorem sx_lossesE_6 {g : GG} {n : Int} {L : Int32} (hy : LyX g) {I : pI} {J : pJ} {R : pR} (hr : RfX g R) (hT : R (ad g 5) 0 = some (ad g 6)) (hI : XI g n L I) : SP g mX0_lossesAsTold [.ref (ad g 5)] I J R (fun r I' J' R' => (XI g n L I' ∧ R' = R ∧ fz 74 g [23, 24] I I' ∧ fz 74 g [] J J' ∧ LTX g 6 I') ∧ r = none) := by
  have hb : ∀ q, q < 7 → 0 ≤ (I (ad g 7) q).toInt ∧ (I (ad g 7) q).toInt ≤ 1000 := fun q hq => by
    have b := BT_get hI.1 7 0 7 0 0 900 (by decide) q (Nat.zero_le _) hq
    omega
  refine SP_wk (SP_and2 (sx_lossesAsToldf_6 hy hr hT hI) (ex_lossesAsTolda hy hr hT hb)) ?_
  rintro r I' J' R' ⟨⟨⟨h1, h2, h3, h4⟩, h5⟩, I2, J2, R2, ⟨-, -, -, -, e1, e2⟩, hA⟩
  have h6 := fz_at h3 7 (by decide) (by decide)
  refine ⟨⟨h1, h2, h3, h4, fun q hq => ?_, fun d c hd hc => ?_⟩, h5⟩
  · rw [agr_i hA (lyx_is hy 23 13 rfl) (Or.inr (Or.inl rfl)) (lyx_n hy 23 7 rfl) hq, e1 q hq]
    exact (congrFun h6 q).symm
  · rw [agr_i hA (lyx_is hy 24 13 rfl) (Or.inr (Or.inl rfl)) (lyx_n hy 24 427 rfl) (by omega), e2 d c hd hc]
    show _ = (c : Int) - stp c (I' (ad g 7) d).toInt
    rw [h6]
set_option maxHeartbeats 4000000 in
set_option maxRecDepth 100000 in
theorem sx_lossesAtf_6 {g : GG} {n : Int} {L : Int32} (hy : LyX g)  {I : pI} {J : pJ} {R : pR} (hr : RfX g R) (hT : R (ad g 5) 0 = some (ad g 6)) (hI : XI g n L I) (lo : Int32) (lo_lo : 0 ≤ lo.toInt) (lo_hi : lo.toInt ≤ 900) : SP g mX0_lossesAt [.ref (ad g 5), .int lo] I J R (fun r I' J' R' => (XI g n L I' ∧ R' = R ∧ fz 74 g [23, 24] I I' ∧ fz 74 g [] J J') ∧ r = none) := by
  refine SP_of ⟨by decide, rfl⟩ (Nat.le_of_ble_eq_true rfl) ?_
  have e13071 : I (ad g 1) 1 = L := hI.2
  have b13072 := BT_get hI.1 1 1 2 (0) (0) (900) (by decide) 1 (by decide) (by decide)
  rw [e13071] at b13072
  have fr0 : fz 74 g [23, 24] I I := fz_rf
  have frj0 : fz 74 g [] J J := fz_rf
  refine WQ_iconst (0) (0) dX0_lossesAt_0 rfl rfl (fun v13073 hv13073 => ?_)
  refine WP_istore_n (ls' := [(0, _), (1, _), (2, _)]) dX0_lossesAt_1 (by decide) rfl ?_
  have lp2_13076 : ∀ (mz : Nat) (i13074 : Int32) (I13075 : pI) (J13076 : pJ), XI g n L I13075 → fz 74 g [23, 24] I I13075 → fz 74 g [] J J13076 → 0 ≤ i13074.toInt → i13074.toInt ≤ 7 → (8 - i13074.toInt).toNat < mz → WP g mX0_lossesAt 2 [(0, .ref (ad g 5)), (1, .int lo), (2, .int i13074)] [] I13075 J13076 R (fun r I' J' R' => (XI g n L I' ∧ R' = R ∧ fz 74 g [23, 24] I I' ∧ fz 74 g [] J J') ∧ r = none) := by
    intro mz
    induction mz with
    | zero =>
      intro i13074 I13075 J13076 hI13075 fiI13075 fjJ13076 ai13074 bi13074 hmlp2_13076
      exact absurd hmlp2_13076 (Nat.not_lt_zero _)
    | succ mz ihlp2_13076 =>
      intro i13074 I13075 J13076 hI13075 fiI13075 fjJ13076 ai13074 bi13074 hmlp2_13076
      have e13078 : I13075 (ad g 1) 1 = L := hI13075.2
      have b13079 := BT_get hI13075.1 1 1 2 (0) (0) (900) (by decide) 1 (by decide) (by decide)
      rw [e13078] at b13079
      refine WP_iload_n dX0_lossesAt_2 rfl ?_
      refine WQ_bipush (7) (7) dX0_lossesAt_3 rfl rfl (fun v13080 hv13080 => ?_)
      refine WQ_icmp_ge 37 dX0_lossesAt_5 rfl (fun c13080 => ?_) (fun c13080 => ?_)
      · refine WP_aload_n dX0_lossesAt_37 rfl ?_
        refine WP_callV0 (k := 0) dX0_lossesAt_38 ⟨⟨⟨by decide, by decide⟩, zX0_stampAll⟩, lX0_57, by decide, rfl, vX0_stampAll.1, vX0_stampAll.2⟩ (lyx_is hy 5 0 rfl) (sx_stampAllf hy hr hI13075  ) (Nat.le_of_ble_eq_true rfl) ?_
        intro r I13082 J13083 Ra hq
        obtain ⟨⟨hI13082, ec, fiI13082, fjI13082⟩, rfl⟩ := hq
        rw [ec]
        clear ec Ra
        have fr13084 : fz 74 g [23, 24] I I13082 := fz_tr fiI13075 (fz_mono fiI13082 (by decide))
        have fr13085 : fz 74 g [] J J13083 := fz_tr fjJ13076 (fz_mono fjI13082 (by decide))
        have e13086 : I13082 (ad g 1) 1 = L := hI13082.2
        have b13087 := BT_get hI13082.1 1 1 2 (0) (0) (900) (by decide) 1 (by decide) (by decide)
        rw [e13086] at b13087
        exact WP_vret dX0_lossesAt_41 rfl ⟨⟨hI13082, rfl, fr13084, fr13085⟩, rfl⟩
      · refine WP_aload_n dX0_lossesAt_8 rfl ?_
        refine WP_getr dX0_lossesAt_9 fX0_15 rfl (lyx_is hy 5 0 rfl) (rfx hr 5 2 23 (by decide)) ?_
        refine WP_iload_n dX0_lossesAt_12 rfl ?_
        refine WP_aload_n dX0_lossesAt_13 rfl ?_
        refine WP_getr dX0_lossesAt_14 fX0_27 rfl (lyx_is hy 5 0 rfl) hT ?_
        refine WP_getr dX0_lossesAt_17 fX0_56 rfl (lyx_is hy 6 7 rfl) (rfx hr 6 5 7 (by decide)) ?_
        refine WP_iload_n dX0_lossesAt_20 rfl ?_
        refine WQ_iald dX0_lossesAt_21 (lyx_is hy 7 13 rfl) (lyx_n hy 7 7 rfl) (by omega) (by omega) (fun q hq => BT_get hI13075.1 7 0 7 (0) (0) (900) (by decide) q (Nat.zero_le _) hq) (fun v13088 av13088 bv13088 ev13088 => ?_)
        clear ev13088
        have jn30_13090 : ∀ (v13090 : Int32), 0 ≤ v13090.toInt → v13090.toInt ≤ 900 → WP g mX0_lossesAt 30 [(0, .ref (ad g 5)), (1, .int lo), (2, .int i13074)] [.int v13090, .int i13074, .ref (ad g 23)] I13075 J13076 R (fun r I' J' R' => (XI g n L I' ∧ R' = R ∧ fz 74 g [23, 24] I I' ∧ fz 74 g [] J J') ∧ r = none) := by
          intro v13090 av13090 bv13090
          refine WQ_iast dX0_lossesAt_30 (lyx_is hy 23 13 rfl) (lyx_n hy 23 7 rfl) (by omega) (by omega) (fun I13092 eI13092 => ?_)
          have hI13092 : XI g n L I13092 := by rw [eI13092]; exact (xi_r hy hI13075 (c := 23) (0) (0) (900) (by decide) (Or.inl (by decide)) (by decide) (by omega) (by omega))
          have e13093 : I13092 (ad g 1) 1 = L := by rw [eI13092, pp_ne _ _ (Or.inl (lyx_ne hy (by decide) (by decide) (by decide)))]; exact e13078
          have fr13094 : fz 74 g [23, 24] I I13092 := by rw [eI13092]; exact fzx_pp hy fiI13075 (by decide) (by decide)
          clear eI13092
          refine WP_iinc (ls' := [(0, _), (1, _), (2, _)]) dX0_lossesAt_31 rfl (by decide) rfl ?_
          have hv13095 : (i13074 + Int32.ofInt (1)).toInt = i13074.toInt + (1) := ia_n rfl (by omega) (by omega)
          generalize i13074 + Int32.ofInt (1) = v13095 at hv13095 ⊢
          refine WP_goto 2 dX0_lossesAt_34 rfl ?_
          exact WP_sub (fc rfl (fc rfl (fc rfl fn))) (ihlp2_13076 v13095 I13092 J13076 hI13092 fr13094 fjJ13076 (by omega) (by omega) (by omega))
        refine WQ_if_le 29 dX0_lossesAt_22 rfl (fun c13095 => ?_) (fun c13095 => ?_)
        · refine WQ_iconst (0) (0) dX0_lossesAt_29 rfl rfl (fun v13097 hv13097 => ?_)
          exact WP_sub (fc rfl (fc rfl (fc rfl fn))) (jn30_13090 v13097 (by omega) (by omega))
        · refine WP_iload_n dX0_lossesAt_25 rfl ?_
          refine WP_goto 30 dX0_lossesAt_26 rfl ?_
          exact WP_sub (fc rfl (fc rfl (fc rfl fn))) (jn30_13090 lo (by omega) (by omega))
  exact WP_sub (fc rfl (fc rfl (fc rfl fn))) (lp2_13076 _ v13073 I J hI fr0 frj0 (by omega) (by omega) (Nat.lt_succ_self _))
set_option maxHeartbeats 4000000 in
set_option maxRecDepth 100000 in
theorem sx_movePricesf_6 {g : GG} {n : Int} {L : Int32} (hy : LyX g)  {I : pI} {J : pJ} {R : pR} (hr : RfX g R) (hT : R (ad g 5) 0 = some (ad g 6)) (hI : XI g n L I)   : SP g mX0_movePrices [.ref (ad g 5), .ref (ad g 51)] I J R (fun r I' J' R' => (XI g n L I' ∧ R' = R ∧ fz 74 g [22] I I' ∧ fz 74 g [] J J') ∧ ∃ v : Int32, r = some (.int v) ∧ 0 ≤ v.toInt ∧ v.toInt ≤ 1) := by
  refine SP_of ⟨by decide, rfl⟩ (Nat.le_of_ble_eq_true rfl) ?_
  have e13098 : I (ad g 1) 1 = L := hI.2
  have b13099 := BT_get hI.1 1 1 2 (0) (0) (900) (by decide) 1 (by decide) (by decide)
  rw [e13098] at b13099
  have fr0 : fz 74 g [22] I I := fz_rf
  have frj0 : fz 74 g [] J J := fz_rf
  refine WQ_iconst (0) (0) dX0_movePrices_0 rfl rfl (fun v13100 hv13100 => ?_)
  refine WP_istore_n (ls' := [(0, _), (1, _), (2, _)]) dX0_movePrices_1 (by decide) rfl ?_
  refine WQ_iconst (0) (0) dX0_movePrices_2 rfl rfl (fun v13101 hv13101 => ?_)
  refine WP_istore_n (ls' := [(0, _), (1, _), (2, _), (3, _)]) dX0_movePrices_3 (by decide) rfl ?_
  have lp4_13105 : ∀ (mz : Nat) (i13102 : Int32) (i13103 : Int32) (I13104 : pI) (J13105 : pJ), XI g n L I13104 → fz 74 g [22] I I13104 → fz 74 g [] J J13105 → 0 ≤ i13102.toInt → i13102.toInt ≤ 1 → 0 ≤ i13103.toInt → i13103.toInt ≤ 21 → (22 - i13103.toInt).toNat < mz → WP g mX0_movePrices 4 [(0, .ref (ad g 5)), (1, .ref (ad g 51)), (2, .int i13102), (3, .int i13103)] [] I13104 J13105 R (fun r I' J' R' => (XI g n L I' ∧ R' = R ∧ fz 74 g [22] I I' ∧ fz 74 g [] J J') ∧ ∃ v : Int32, r = some (.int v) ∧ 0 ≤ v.toInt ∧ v.toInt ≤ 1) := by
    intro mz
    induction mz with
    | zero =>
      intro i13102 i13103 I13104 J13105 hI13104 fiI13104 fjJ13105 ai13102 bi13102 ai13103 bi13103 hmlp4_13105
      exact absurd hmlp4_13105 (Nat.not_lt_zero _)
    | succ mz ihlp4_13105 =>
      intro i13102 i13103 I13104 J13105 hI13104 fiI13104 fjJ13105 ai13102 bi13102 ai13103 bi13103 hmlp4_13105
      have e13107 : I13104 (ad g 1) 1 = L := hI13104.2
      have b13108 := BT_get hI13104.1 1 1 2 (0) (0) (900) (by decide) 1 (by decide) (by decide)
      rw [e13107] at b13108
      refine WP_iload_n dX0_movePrices_4 rfl ?_
      refine WP_aload_n dX0_movePrices_5 rfl ?_
      refine WP_getr dX0_movePrices_6 fX0_27 rfl (lyx_is hy 5 0 rfl) hT ?_
      refine WQ_geti dX0_movePrices_9 fX0_73 rfl (lyx_is hy 6 7 rfl) (BT_get hI13104.1 6 2 3 (0) (0) (3) (by decide) 2 (by decide) (by decide)) (fun v13109 ev13109 av13109 bv13109 => ?_)
      refine WQ_bipush (7) (7) dX0_movePrices_12 rfl rfl (fun v13110 hv13110 => ?_)
      refine WQ_imulk (7) dX0_movePrices_14 hv13110 (by omega) (by omega) (fun v13111 hv13111 => ?_)
      refine WQ_icmp_ge 111 dX0_movePrices_15 rfl (fun c13111 => ?_) (fun c13111 => ?_)
      · refine WP_iload_n dX0_movePrices_111 rfl ?_
        exact WP_zret dX0_movePrices_112 rfl (nar_z (by omega)) ⟨⟨hI13104, rfl, fiI13104, fjJ13105⟩, _, rfl, by omega, by omega⟩
      · refine WP_aload_n dX0_movePrices_18 rfl ?_
        refine WP_getr dX0_movePrices_19 fX0_27 rfl (lyx_is hy 5 0 rfl) hT ?_
        refine WP_getr dX0_movePrices_22 fX0_76 rfl (lyx_is hy 6 7 rfl) (rfx hr 6 17 19 (by decide)) ?_
        refine WP_iload_n dX0_movePrices_25 rfl ?_
        refine WQ_iald dX0_movePrices_26 (lyx_is hy 19 13 rfl) (lyx_n hy 19 21 rfl) (by omega) (by omega) (fun q hq => BT_get hI13104.1 19 0 21 (-1) (0) (999) (by decide) q (Nat.zero_le _) hq) (fun v13113 av13113 bv13113 ev13113 => ?_)
        refine WP_istore (ls' := [(0, _), (1, _), (2, _), (3, _), (4, _)]) dX0_movePrices_27 (by decide) rfl ?_
        refine WP_iload dX0_movePrices_29 rfl ?_
        refine WQ_iconst (-1) (-1) dX0_movePrices_31 rfl rfl (fun v13114 hv13114 => ?_)
        refine WQ_icmp_eq 69 dX0_movePrices_32 rfl (fun c13114 => ?_) (fun c13114 => ?_)
        · refine WP_iload dX0_movePrices_69 rfl ?_
          refine WQ_iconst (-1) (-1) dX0_movePrices_71 rfl rfl (fun v13116 hv13116 => ?_)
          refine WQ_icmp_eq 105 dX0_movePrices_72 rfl (fun c13116 => ?_) (fun c13116 => False.elim (by omega))
          refine WP_iinc (ls' := [(0, _), (1, _), (2, _), (3, _), (4, _)]) dX0_movePrices_105 rfl (by decide) rfl ?_
          have hv13118 : (i13103 + Int32.ofInt (1)).toInt = i13103.toInt + (1) := ia_n rfl (by omega) (by omega)
          generalize i13103 + Int32.ofInt (1) = v13118 at hv13118 ⊢
          refine WP_goto 4 dX0_movePrices_108 rfl ?_
          exact WP_sub (fc rfl (fc rfl (fc rfl (fc rfl fn)))) (ihlp4_13105 i13102 v13118 I13104 J13105 hI13104 fiI13104 fjJ13105 (by omega) (by omega) (by omega) (by omega) (by omega))
        · refine WP_aload_n dX0_movePrices_35 rfl ?_
          refine WP_iload_n dX0_movePrices_36 rfl ?_
          refine WQ_ialdu dX0_movePrices_37 (lyx_is hy 51 13 rfl) (lyx_n hy 51 21 rfl) (by omega) (by omega) (fun v13119 => ?_)
          refine WP_iload dX0_movePrices_38 rfl ?_
          refine WQ_icmp_le 69 dX0_movePrices_40 rfl (fun c13119 => ?_) (fun c13119 => ?_)
          · refine WP_iload dX0_movePrices_69 rfl ?_
            refine WQ_iconst (-1) (-1) dX0_movePrices_71 rfl rfl (fun v13121 hv13121 => ?_)
            refine WQ_icmp_eq 105 dX0_movePrices_72 rfl (fun c13121 => False.elim (by omega)) (fun c13121 => ?_)
            refine WP_aload_n dX0_movePrices_75 rfl ?_
            refine WP_iload_n dX0_movePrices_76 rfl ?_
            refine WQ_ialdu dX0_movePrices_77 (lyx_is hy 51 13 rfl) (lyx_n hy 51 21 rfl) (by omega) (by omega) (fun v13123 => ?_)
            refine WP_iload dX0_movePrices_78 rfl ?_
            refine WQ_icmp_ge 105 dX0_movePrices_80 rfl (fun c13123 => ?_) (fun c13123 => ?_)
            · refine WP_iinc (ls' := [(0, _), (1, _), (2, _), (3, _), (4, _)]) dX0_movePrices_105 rfl (by decide) rfl ?_
              have hv13125 : (i13103 + Int32.ofInt (1)).toInt = i13103.toInt + (1) := ia_n rfl (by omega) (by omega)
              generalize i13103 + Int32.ofInt (1) = v13125 at hv13125 ⊢
              refine WP_goto 4 dX0_movePrices_108 rfl ?_
              exact WP_sub (fc rfl (fc rfl (fc rfl (fc rfl fn)))) (ihlp4_13105 i13102 v13125 I13104 J13105 hI13104 fiI13104 fjJ13105 (by omega) (by omega) (by omega) (by omega) (by omega))
            · refine WP_aload_n dX0_movePrices_83 rfl ?_
              refine WP_getr dX0_movePrices_84 fX0_9 rfl (lyx_is hy 5 0 rfl) (rfx hr 5 1 22 (by decide)) ?_
              refine WP_iload_n dX0_movePrices_87 rfl ?_
              refine WQ_iald dX0_movePrices_88 (lyx_is hy 22 13 rfl) (lyx_n hy 22 21 rfl) (by omega) (by omega) (fun q hq => BT_get hI13104.1 22 0 21 (0) (0) (20) (by decide) q (Nat.zero_le _) hq) (fun v13126 av13126 bv13126 ev13126 => ?_)
              refine WQ_iconst (1) (1) dX0_movePrices_89 rfl rfl (fun v13127 hv13127 => ?_)
              refine WQ_icmp_le 105 dX0_movePrices_90 rfl (fun c13127 => ?_) (fun c13127 => ?_)
              · refine WP_iinc (ls' := [(0, _), (1, _), (2, _), (3, _), (4, _)]) dX0_movePrices_105 rfl (by decide) rfl ?_
                have hv13129 : (i13103 + Int32.ofInt (1)).toInt = i13103.toInt + (1) := ia_n rfl (by omega) (by omega)
                generalize i13103 + Int32.ofInt (1) = v13129 at hv13129 ⊢
                refine WP_goto 4 dX0_movePrices_108 rfl ?_
                exact WP_sub (fc rfl (fc rfl (fc rfl (fc rfl fn)))) (ihlp4_13105 i13102 v13129 I13104 J13105 hI13104 fiI13104 fjJ13105 (by omega) (by omega) (by omega) (by omega) (by omega))
              · refine WP_aload_n dX0_movePrices_93 rfl ?_
                refine WP_getr dX0_movePrices_94 fX0_9 rfl (lyx_is hy 5 0 rfl) (rfx hr 5 1 22 (by decide)) ?_
                refine WP_iload_n dX0_movePrices_97 rfl ?_
                refine WP_dup2 dX0_movePrices_98 rfl rfl ?_
                refine WQ_ialde dX0_movePrices_99 (lyx_is hy 22 13 rfl) (lyx_n hy 22 21 rfl) (by omega) (by omega) ev13126 ?_
                refine WQ_iconst (1) (1) dX0_movePrices_100 rfl rfl (fun v13131 hv13131 => ?_)
                refine WQ_isub dX0_movePrices_101 (by omega) (by omega) (fun v13132 hv13132 => ?_)
                refine WQ_iast dX0_movePrices_102 (lyx_is hy 22 13 rfl) (lyx_n hy 22 21 rfl) (by omega) (by omega) (fun I13133 eI13133 => ?_)
                have hI13133 : XI g n L I13133 := by rw [eI13133]; exact (xi_r hy hI13104 (c := 22) (0) (0) (20) (by decide) (Or.inl (by decide)) (by decide) (by omega) (by omega))
                have e13134 : I13133 (ad g 1) 1 = L := by rw [eI13133, pp_ne _ _ (Or.inl (lyx_ne hy (by decide) (by decide) (by decide)))]; exact e13107
                have e13135 : I13133 (ad g 6) 2 = v13109 := by rw [eI13133, pp_ne _ _ (Or.inl (lyx_ne hy (by decide) (by decide) (by decide)))]; exact ev13109
                have e13136 : I13133 (ad g 19) i13103.toNatClampNeg = v13113 := by rw [eI13133, pp_ne _ _ (Or.inl (lyx_ne hy (by decide) (by decide) (by decide)))]; exact ev13113
                have fr13137 : fz 74 g [22] I I13133 := by rw [eI13133]; exact fzx_pp hy fiI13104 (by decide) (by decide)
                clear eI13133
                refine WQ_iconst (1) (1) dX0_movePrices_103 rfl rfl (fun v13138 hv13138 => ?_)
                refine WP_istore_n (ls' := [(0, _), (1, _), (2, _), (3, _), (4, _)]) dX0_movePrices_104 (by decide) rfl ?_
                refine WP_iinc (ls' := [(0, _), (1, _), (2, _), (3, _), (4, _)]) dX0_movePrices_105 rfl (by decide) rfl ?_
                have hv13139 : (i13103 + Int32.ofInt (1)).toInt = i13103.toInt + (1) := ia_n rfl (by omega) (by omega)
                generalize i13103 + Int32.ofInt (1) = v13139 at hv13139 ⊢
                refine WP_goto 4 dX0_movePrices_108 rfl ?_
                exact WP_sub (fc rfl (fc rfl (fc rfl (fc rfl fn)))) (ihlp4_13105 v13138 v13139 I13133 J13105 hI13133 fr13137 fjJ13105 (by omega) (by omega) (by omega) (by omega) (by omega))
          · refine WP_aload_n dX0_movePrices_43 rfl ?_
            refine WP_getr dX0_movePrices_44 fX0_9 rfl (lyx_is hy 5 0 rfl) (rfx hr 5 1 22 (by decide)) ?_
            refine WP_iload_n dX0_movePrices_47 rfl ?_
            refine WQ_iald dX0_movePrices_48 (lyx_is hy 22 13 rfl) (lyx_n hy 22 21 rfl) (by omega) (by omega) (fun q hq => BT_get hI13104.1 22 0 21 (0) (0) (20) (by decide) q (Nat.zero_le _) hq) (fun v13140 av13140 bv13140 ev13140 => ?_)
            refine WQ_bipush (20) (20) dX0_movePrices_49 rfl rfl (fun v13141 hv13141 => ?_)
            refine WQ_icmp_ge 69 dX0_movePrices_51 rfl (fun c13141 => ?_) (fun c13141 => ?_)
            · refine WP_iload dX0_movePrices_69 rfl ?_
              refine WQ_iconst (-1) (-1) dX0_movePrices_71 rfl rfl (fun v13143 hv13143 => ?_)
              refine WQ_icmp_eq 105 dX0_movePrices_72 rfl (fun c13143 => False.elim (by omega)) (fun c13143 => ?_)
              refine WP_aload_n dX0_movePrices_75 rfl ?_
              refine WP_iload_n dX0_movePrices_76 rfl ?_
              refine WQ_ialdu dX0_movePrices_77 (lyx_is hy 51 13 rfl) (lyx_n hy 51 21 rfl) (by omega) (by omega) (fun v13145 => ?_)
              refine WP_iload dX0_movePrices_78 rfl ?_
              refine WQ_icmp_ge 105 dX0_movePrices_80 rfl (fun c13145 => ?_) (fun c13145 => ?_)
              · refine WP_iinc (ls' := [(0, _), (1, _), (2, _), (3, _), (4, _)]) dX0_movePrices_105 rfl (by decide) rfl ?_
                have hv13147 : (i13103 + Int32.ofInt (1)).toInt = i13103.toInt + (1) := ia_n rfl (by omega) (by omega)
                generalize i13103 + Int32.ofInt (1) = v13147 at hv13147 ⊢
                refine WP_goto 4 dX0_movePrices_108 rfl ?_
                exact WP_sub (fc rfl (fc rfl (fc rfl (fc rfl fn)))) (ihlp4_13105 i13102 v13147 I13104 J13105 hI13104 fiI13104 fjJ13105 (by omega) (by omega) (by omega) (by omega) (by omega))
              · refine WP_aload_n dX0_movePrices_83 rfl ?_
                refine WP_getr dX0_movePrices_84 fX0_9 rfl (lyx_is hy 5 0 rfl) (rfx hr 5 1 22 (by decide)) ?_
                refine WP_iload_n dX0_movePrices_87 rfl ?_
                refine WQ_ialde dX0_movePrices_88 (lyx_is hy 22 13 rfl) (lyx_n hy 22 21 rfl) (by omega) (by omega) ev13140 ?_
                refine WQ_iconst (1) (1) dX0_movePrices_89 rfl rfl (fun v13149 hv13149 => ?_)
                refine WQ_icmp_le 105 dX0_movePrices_90 rfl (fun c13149 => False.elim (by omega)) (fun c13149 => ?_)
                refine WP_aload_n dX0_movePrices_93 rfl ?_
                refine WP_getr dX0_movePrices_94 fX0_9 rfl (lyx_is hy 5 0 rfl) (rfx hr 5 1 22 (by decide)) ?_
                refine WP_iload_n dX0_movePrices_97 rfl ?_
                refine WP_dup2 dX0_movePrices_98 rfl rfl ?_
                refine WQ_ialde dX0_movePrices_99 (lyx_is hy 22 13 rfl) (lyx_n hy 22 21 rfl) (by omega) (by omega) ev13140 ?_
                refine WQ_iconst (1) (1) dX0_movePrices_100 rfl rfl (fun v13152 hv13152 => ?_)
                refine WQ_isub dX0_movePrices_101 (by omega) (by omega) (fun v13153 hv13153 => ?_)
                refine WQ_iast dX0_movePrices_102 (lyx_is hy 22 13 rfl) (lyx_n hy 22 21 rfl) (by omega) (by omega) (fun I13154 eI13154 => ?_)
                have hI13154 : XI g n L I13154 := by rw [eI13154]; exact (xi_r hy hI13104 (c := 22) (0) (0) (20) (by decide) (Or.inl (by decide)) (by decide) (by omega) (by omega))
                have e13155 : I13154 (ad g 1) 1 = L := by rw [eI13154, pp_ne _ _ (Or.inl (lyx_ne hy (by decide) (by decide) (by decide)))]; exact e13107
                have e13156 : I13154 (ad g 6) 2 = v13109 := by rw [eI13154, pp_ne _ _ (Or.inl (lyx_ne hy (by decide) (by decide) (by decide)))]; exact ev13109
                have e13157 : I13154 (ad g 19) i13103.toNatClampNeg = v13113 := by rw [eI13154, pp_ne _ _ (Or.inl (lyx_ne hy (by decide) (by decide) (by decide)))]; exact ev13113
                have fr13158 : fz 74 g [22] I I13154 := by rw [eI13154]; exact fzx_pp hy fiI13104 (by decide) (by decide)
                clear eI13154
                refine WQ_iconst (1) (1) dX0_movePrices_103 rfl rfl (fun v13159 hv13159 => ?_)
                refine WP_istore_n (ls' := [(0, _), (1, _), (2, _), (3, _), (4, _)]) dX0_movePrices_104 (by decide) rfl ?_
                refine WP_iinc (ls' := [(0, _), (1, _), (2, _), (3, _), (4, _)]) dX0_movePrices_105 rfl (by decide) rfl ?_
                have hv13160 : (i13103 + Int32.ofInt (1)).toInt = i13103.toInt + (1) := ia_n rfl (by omega) (by omega)
                generalize i13103 + Int32.ofInt (1) = v13160 at hv13160 ⊢
                refine WP_goto 4 dX0_movePrices_108 rfl ?_
                exact WP_sub (fc rfl (fc rfl (fc rfl (fc rfl fn)))) (ihlp4_13105 v13159 v13160 I13154 J13105 hI13154 fr13158 fjJ13105 (by omega) (by omega) (by omega) (by omega) (by omega))
            · refine WP_aload_n dX0_movePrices_54 rfl ?_
              refine WP_getr dX0_movePrices_55 fX0_9 rfl (lyx_is hy 5 0 rfl) (rfx hr 5 1 22 (by decide)) ?_
              refine WP_iload_n dX0_movePrices_58 rfl ?_
              refine WP_dup2 dX0_movePrices_59 rfl rfl ?_
              refine WQ_ialde dX0_movePrices_60 (lyx_is hy 22 13 rfl) (lyx_n hy 22 21 rfl) (by omega) (by omega) ev13140 ?_
              refine WQ_iconst (1) (1) dX0_movePrices_61 rfl rfl (fun v13162 hv13162 => ?_)
              refine WQ_iadd dX0_movePrices_62 (by omega) (by omega) (fun v13163 hv13163 => ?_)
              refine WQ_iast dX0_movePrices_63 (lyx_is hy 22 13 rfl) (lyx_n hy 22 21 rfl) (by omega) (by omega) (fun I13164 eI13164 => ?_)
              have hI13164 : XI g n L I13164 := by rw [eI13164]; exact (xi_r hy hI13104 (c := 22) (0) (0) (20) (by decide) (Or.inl (by decide)) (by decide) (by omega) (by omega))
              have e13165 : I13164 (ad g 1) 1 = L := by rw [eI13164, pp_ne _ _ (Or.inl (lyx_ne hy (by decide) (by decide) (by decide)))]; exact e13107
              have e13166 : I13164 (ad g 6) 2 = v13109 := by rw [eI13164, pp_ne _ _ (Or.inl (lyx_ne hy (by decide) (by decide) (by decide)))]; exact ev13109
              have e13167 : I13164 (ad g 19) i13103.toNatClampNeg = v13113 := by rw [eI13164, pp_ne _ _ (Or.inl (lyx_ne hy (by decide) (by decide) (by decide)))]; exact ev13113
              have fr13168 : fz 74 g [22] I I13164 := by rw [eI13164]; exact fzx_pp hy fiI13104 (by decide) (by decide)
              clear eI13164
              refine WQ_iconst (1) (1) dX0_movePrices_64 rfl rfl (fun v13169 hv13169 => ?_)
              refine WP_istore_n (ls' := [(0, _), (1, _), (2, _), (3, _), (4, _)]) dX0_movePrices_65 (by decide) rfl ?_
              refine WP_goto 105 dX0_movePrices_66 rfl ?_
              refine WP_iinc (ls' := [(0, _), (1, _), (2, _), (3, _), (4, _)]) dX0_movePrices_105 rfl (by decide) rfl ?_
              have hv13170 : (i13103 + Int32.ofInt (1)).toInt = i13103.toInt + (1) := ia_n rfl (by omega) (by omega)
              generalize i13103 + Int32.ofInt (1) = v13170 at hv13170 ⊢
              refine WP_goto 4 dX0_movePrices_108 rfl ?_
              exact WP_sub (fc rfl (fc rfl (fc rfl (fc rfl fn)))) (ihlp4_13105 v13169 v13170 I13164 J13105 hI13164 fr13168 fjJ13105 (by omega) (by omega) (by omega) (by omega) (by omega))
  exact WP_sub (fc rfl (fc rfl (fc rfl (fc rfl fn)))) (lp4_13105 _ v13100 v13101 I J hI fr0 frj0 (by omega) (by omega) (by omega) (by omega) (Nat.lt_succ_self _))
set_option maxHeartbeats 4000000 in
set_option maxRecDepth 100000 in
theorem sx_beginf_56_6 {g : GG} {n : Int} {L : Int32} (hy : LyX g)  {I : pI} {J : pJ} {R : pR} (hr : RfX g R) (hI : XI g n L I)   (hn : 0 ≤ n) : SP g mX4_begin [.ref (ad g 56), .ref (ad g 6)] I J R (fun r I' J' R' => (XI g n L I' ∧ R' = R ∧ fz 74 g [56, 58] I I' ∧ fz 74 g [56] J J' ∧ (I' (ad g 56) 1).toInt = 0) ∧ r = none) := by
  refine SP_of ⟨by decide, rfl⟩ (Nat.le_of_ble_eq_true rfl) ?_
  have e13171 : I (ad g 1) 1 = L := hI.2
  have b13172 := BT_get hI.1 1 1 2 (0) (0) (900) (by decide) 1 (by decide) (by decide)
  rw [e13171] at b13172
  have fr0 : fz 74 g [56, 58] I I := fz_rf
  have frj0 : fz 74 g [56] J J := fz_rf
  refine WP_aload_n dX4_begin_0 rfl ?_
  refine WQ_iconst (0) (0) dX4_begin_1 rfl rfl (fun v13173 hv13173 => ?_)
  refine WQ_puti dX4_begin_2 fX4_18 rfl rfl (lyx_is hy 56 4 rfl) (fun I13174 eI13174 => ?_)
  have hI13174 : XI g n L I13174 := by rw [eI13174]; exact (xi_f0 hy hI (c := 56) (by decide) (Or.inl (by decide)) (by decide))
  have e13175 : I13174 (ad g 1) 1 = L := by rw [eI13174, pp_ne _ _ (Or.inl (lyx_ne hy (by decide) (by decide) (by decide)))]; exact e13171
  have e13176 : I13174 (ad g 56) 0 = v13173 := by rw [eI13174, pp_self]
  have fr13177 : fz 74 g [56, 58] I I13174 := by rw [eI13174]; exact fzx_pp hy fr0 (by decide) (by decide)
  clear eI13174
  refine WP_aload_n dX4_begin_5 rfl ?_
  refine WQ_iconst (0) (0) dX4_begin_6 rfl rfl (fun v13178 hv13178 => ?_)
  refine WQ_puti dX4_begin_7 fX4_22 rfl rfl (lyx_is hy 56 4 rfl) (fun I13179 eI13179 => ?_)
  have hI13179 : XI g n L I13179 := by rw [eI13179]; exact (xi_f hy hI13174 (c := 56) (0) (23760) (700000) (by decide) (Or.inl (by decide)) (by decide) (by omega) (by omega))
  have e13180 : I13179 (ad g 1) 1 = L := by rw [eI13179, pp_ne _ _ (Or.inl (lyx_ne hy (by decide) (by decide) (by decide)))]; exact e13175
  have e13181 : I13179 (ad g 56) 0 = v13173 := by rw [eI13179, pp_ne _ _ (Or.inr (by decide))]; exact e13176
  have e13182 : I13179 (ad g 56) 1 = v13178 := by rw [eI13179, pp_self]
  have fr13183 : fz 74 g [56, 58] I I13179 := by rw [eI13179]; exact fzx_pp hy fr13177 (by decide) (by decide)
  clear eI13179
  refine WP_aload_n dX4_begin_10 rfl ?_
  refine WQ_iconst (0) (0) dX4_begin_11 rfl rfl (fun v13184 hv13184 => ?_)
  refine WQ_puti dX4_begin_12 fX4_25 rfl rfl (lyx_is hy 56 4 rfl) (fun I13185 eI13185 => ?_)
  have hI13185 : XI g n L I13185 := by rw [eI13185]; exact (xi_f0 hy hI13179 (c := 56) (by decide) (Or.inl (by decide)) (by decide))
  have e13186 : I13185 (ad g 1) 1 = L := by rw [eI13185, pp_ne _ _ (Or.inl (lyx_ne hy (by decide) (by decide) (by decide)))]; exact e13180
  have e13187 : I13185 (ad g 56) 0 = v13173 := by rw [eI13185, pp_ne _ _ (Or.inr (by decide))]; exact e13181
  have e13188 : I13185 (ad g 56) 1 = v13178 := by rw [eI13185, pp_ne _ _ (Or.inr (by decide))]; exact e13182
  have e13189 : I13185 (ad g 56) 2 = v13184 := by rw [eI13185, pp_self]
  have fr13190 : fz 74 g [56, 58] I I13185 := by rw [eI13185]; exact fzx_pp hy fr13183 (by decide) (by decide)
  clear eI13185
  refine WP_aload_n dX4_begin_15 rfl ?_
  refine WP_lconst (0) dX4_begin_16 rfl ?_
  obtain ⟨l13191, hl13191, el13191⟩ : ∃ v : Int64, v.toInt = 0 ∧ (0 : Int64) = v := ⟨_, rfl, rfl⟩
  rw [el13191]; clear el13191
  refine WQ_putl dX4_begin_17 fX4_28 rfl rfl (lyx_is hy 56 4 rfl) (fun J13192 eJ13192 => ?_)
  have fr13193 : fz 74 g [56] J J13192 := by rw [eJ13192]; exact fzx_pp hy frj0 (by decide) (by decide)
  clear eJ13192
  refine WP_aload_n dX4_begin_20 rfl ?_
  refine WP_getr dX4_begin_21 fX4_15 rfl (lyx_is hy 56 4 rfl) (rfx hr 56 5 58 (by decide)) ?_
  refine WQ_iconst (0) (0) dX4_begin_24 rfl rfl (fun v13194 hv13194 => ?_)
  refine WP_callS2u dX4_begin_25 ⟨⟨⟨by decide, by decide⟩, zJ7_fill_53178⟩, lX4_32, tJ7_fill_53178⟩ (s_fill hy hr 58 28 rfl rfl (by decide) v13194) (Nat.le_of_ble_eq_true rfl) ?_
  obtain ⟨I13195, eI13195⟩ : ∃ I9 : pI, I9 = fi I13185 (ad g 58) 28 v13194 := ⟨_, rfl⟩
  rw [← eI13195]
  have hI13195 : XI g n L I13195 := by rw [eI13195]; exact (fa_fill hy hI13185 (c := 58) 28 (by decide) hv13194)
  have e13196 : I13195 (ad g 1) 1 = L := by rw [eI13195, fi_off (lyx_ne hy (by decide) (by decide) (by decide))]; exact e13186
  have e13197 : I13195 (ad g 56) 0 = v13173 := by rw [eI13195, fi_off (lyx_ne hy (by decide) (by decide) (by decide))]; exact e13187
  have e13198 : I13195 (ad g 56) 1 = v13178 := by rw [eI13195, fi_off (lyx_ne hy (by decide) (by decide) (by decide))]; exact e13188
  have e13199 : I13195 (ad g 56) 2 = v13184 := by rw [eI13195, fi_off (lyx_ne hy (by decide) (by decide) (by decide))]; exact e13189
  have fr13200 : fz 74 g [56, 58] I I13195 := by rw [eI13195]; exact fzx_fi hy fr13190 (by decide) (by decide)
  clear eI13195
  refine WQ_iconst (0) (0) dX4_begin_28 rfl rfl (fun v13201 hv13201 => ?_)
  refine WP_istore_n (ls' := [(0, _), (1, _), (2, _)]) dX4_begin_29 (by decide) rfl ?_
  have lp30_13205 : ∀ (mz : Nat) (i13202 : Int32) (I13203 : pI) (J13204 : pJ), XI g n L I13203 → fz 74 g [56, 58] I I13203 → fz 74 g [56] J J13204 → ∀ (w13205 : Int32), I13203 (ad g 56) 1 = w13205 → 0 ≤ i13202.toInt → i13202.toInt ≤ 4 → w13205.toInt = 0 → (5 - i13202.toInt).toNat < mz → WP g mX4_begin 30 [(0, .ref (ad g 56)), (1, .ref (ad g 6)), (2, .int i13202)] [] I13203 J13204 R (fun r I' J' R' => (XI g n L I' ∧ R' = R ∧ fz 74 g [56, 58] I I' ∧ fz 74 g [56] J J' ∧ (I' (ad g 56) 1).toInt = 0) ∧ r = none) := by
    intro mz
    induction mz with
    | zero =>
      intro i13202 I13203 J13204 hI13203 fiI13203 fjJ13204 w13205 ew13205 ai13202 bi13202 j0_I13203 hmlp30_13205
      exact absurd hmlp30_13205 (Nat.not_lt_zero _)
    | succ mz ihlp30_13205 =>
      intro i13202 I13203 J13204 hI13203 fiI13203 fjJ13204 w13205 ew13205 ai13202 bi13202 j0_I13203 hmlp30_13205
      have bw13205 := BT_get hI13203.1 56 1 2 (0) (23760) (700000) (by decide) 1 (by decide) (by decide)
      rw [ew13205] at bw13205
      have e13207 : I13203 (ad g 1) 1 = L := hI13203.2
      have b13208 := BT_get hI13203.1 1 1 2 (0) (0) (900) (by decide) 1 (by decide) (by decide)
      rw [e13207] at b13208
      refine WP_iload_n dX4_begin_30 rfl ?_
      refine WP_aload_n dX4_begin_31 rfl ?_
      refine WQ_geti dX4_begin_32 fX4_38 rfl (lyx_is hy 6 7 rfl) (BT_get hI13203.1 6 1 2 (0) (0) (4) (by decide) 1 (by decide) (by decide)) (fun v13209 ev13209 av13209 bv13209 => ?_)
      refine WQ_icmp_ge 61 dX4_begin_35 rfl (fun c13209 => ?_) (fun c13209 => ?_)
      · exact WP_vret dX4_begin_61 rfl ⟨⟨hI13203, rfl, fiI13203, fjJ13204, (by rw [ew13205]; omega)⟩, rfl⟩
      · refine WP_aload_n dX4_begin_38 rfl ?_
        refine WP_getr dX4_begin_39 fX4_15 rfl (lyx_is hy 56 4 rfl) (rfx hr 56 5 58 (by decide)) ?_
        refine WP_iload_n dX4_begin_42 rfl ?_
        refine WQ_bipush (7) (7) dX4_begin_43 rfl rfl (fun v13211 hv13211 => ?_)
        refine WQ_imulk (7) dX4_begin_45 hv13211 (by omega) (by omega) (fun v13212 hv13212 => ?_)
        refine WQ_iconst (0) (0) dX4_begin_46 rfl rfl (fun v13213 hv13213 => ?_)
        refine WQ_iadd dX4_begin_47 (by omega) (by omega) (fun v13214 hv13214 => ?_)
        refine WP_aload_n dX4_begin_48 rfl ?_
        refine WP_getr dX4_begin_49 fX4_43 rfl (lyx_is hy 6 7 rfl) (rfx hr 6 8 10 (by decide)) ?_
        refine WP_iload_n dX4_begin_52 rfl ?_
        refine WQ_iald dX4_begin_53 (lyx_is hy 10 13 rfl) (lyx_n hy 10 4 rfl) (by omega) (by omega) (fun q hq => BT_get hI13203.1 10 0 4 (0) (0) (60) (by decide) q (Nat.zero_le _) hq) (fun v13215 av13215 bv13215 ev13215 => ?_)
        clear ev13215
        refine WQ_iast dX4_begin_54 (lyx_is hy 58 13 rfl) (lyx_n hy 58 28 rfl) (by omega) (by omega) (fun I13216 eI13216 => ?_)
        have hI13216 : XI g n L I13216 := by rw [eI13216]; exact (fa_put hy hI13203 (c := 58) (k := 0) (s := i13202.toInt.toNat) (by decide) (by omega) (by decide) (by rw [cl (n := 7 * i13202.toInt.toNat + 0) (by omega)]) (fun _ => by omega) (fun _ => by omega))
        have e13217 : I13216 (ad g 56) 1 = w13205 := by rw [eI13216, pp_ne _ _ (Or.inl (lyx_ne hy (by decide) (by decide) (by decide)))]; exact ew13205
        have e13218 : I13216 (ad g 1) 1 = L := by rw [eI13216, pp_ne _ _ (Or.inl (lyx_ne hy (by decide) (by decide) (by decide)))]; exact e13207
        have e13219 : I13216 (ad g 6) 1 = v13209 := by rw [eI13216, pp_ne _ _ (Or.inl (lyx_ne hy (by decide) (by decide) (by decide)))]; exact ev13209
        have fr13220 : fz 74 g [56, 58] I I13216 := by rw [eI13216]; exact fzx_pp hy fiI13203 (by decide) (by decide)
        clear eI13216
        refine WP_iinc (ls' := [(0, _), (1, _), (2, _)]) dX4_begin_55 rfl (by decide) rfl ?_
        have hv13221 : (i13202 + Int32.ofInt (1)).toInt = i13202.toInt + (1) := ia_n rfl (by omega) (by omega)
        generalize i13202 + Int32.ofInt (1) = v13221 at hv13221 ⊢
        refine WP_goto 30 dX4_begin_58 rfl ?_
        exact WP_sub (fc rfl (fc rfl (fc rfl fn))) (ihlp30_13205 v13221 I13216 J13204 hI13216 fr13220 fjJ13204 w13205 e13217 (by omega) (by omega) (by omega) (by omega))
  exact WP_sub (fc rfl (fc rfl (fc rfl fn))) (lp30_13205 _ v13201 I13195 J13192 hI13195 fr13200 fr13193 v13178 e13198 (by omega) (by omega) (by omega) (Nat.lt_succ_self _))
set_option maxHeartbeats 4000000 in
set_option maxRecDepth 100000 in
theorem sx_lossesAsToldf_27 {g : GG} {n : Int} {L : Int32} (hy : LyX g)  {I : pI} {J : pJ} {R : pR} (hr : RfX g R) (hT : R (ad g 5) 0 = some (ad g 27)) (hI : XI g n L I)   : SP g mX0_lossesAsTold [.ref (ad g 5)] I J R (fun r I' J' R' => (XI g n L I' ∧ R' = R ∧ fz 74 g [23, 24] I I' ∧ fz 74 g [] J J') ∧ r = none) := by
  refine SP_of ⟨by decide, rfl⟩ (Nat.le_of_ble_eq_true rfl) ?_
  have e13222 : I (ad g 1) 1 = L := hI.2
  have b13223 := BT_get hI.1 1 1 2 (0) (0) (900) (by decide) 1 (by decide) (by decide)
  rw [e13222] at b13223
  have fr0 : fz 74 g [23, 24] I I := fz_rf
  have frj0 : fz 74 g [] J J := fz_rf
  refine WP_aload_n dX0_lossesAsTold_0 rfl ?_
  refine WP_getr dX0_lossesAsTold_1 fX0_27 rfl (lyx_is hy 5 0 rfl) hT ?_
  refine WP_getr dX0_lossesAsTold_4 fX0_56 rfl (lyx_is hy 27 7 rfl) (rfx hr 27 5 28 (by decide)) ?_
  refine WQ_iconst (0) (0) dX0_lossesAsTold_7 rfl rfl (fun v13224 hv13224 => ?_)
  refine WP_aload_n dX0_lossesAsTold_8 rfl ?_
  refine WP_getr dX0_lossesAsTold_9 fX0_15 rfl (lyx_is hy 5 0 rfl) (rfx hr 5 2 23 (by decide)) ?_
  refine WQ_iconst (0) (0) dX0_lossesAsTold_12 rfl rfl (fun v13225 hv13225 => ?_)
  refine WQ_bipush (7) (7) dX0_lossesAsTold_13 rfl rfl (fun v13226 hv13226 => ?_)
  refine WQ_copy0 (N := 7) dX0_lossesAsTold_15 lX0_50 ⟨by decide, Nat.le_of_ble_eq_true rfl⟩ (lyx_is hy 28 13 rfl) (lyx_is hy 23 13 rfl) hv13224 hv13225 hv13226 (lyx_n hy 28 7 rfl) (lyx_n hy 23 7 rfl) (fun I13227 fI13227 oI13227 => ?_)
  have hI13227 : XI g n L I13227 := xi_copy hy hI 28 23 7 (by decide) (by decide) fI13227 oI13227
  have fr13228 : fz 74 g [23, 24] I I13227 := fzx_cp hy fr0 oI13227 (by decide) (by decide)
  clear fI13227 oI13227
  have e13229 : I13227 (ad g 1) 1 = L := hI13227.2
  have b13230 := BT_get hI13227.1 1 1 2 (0) (0) (900) (by decide) 1 (by decide) (by decide)
  rw [e13229] at b13230
  refine WP_aload_n dX0_lossesAsTold_18 rfl ?_
  refine WP_callV0 (k := 0) dX0_lossesAsTold_19 ⟨⟨⟨by decide, by decide⟩, zX0_stampAll⟩, lX0_57, by decide, rfl, vX0_stampAll.1, vX0_stampAll.2⟩ (lyx_is hy 5 0 rfl) (sx_stampAllf hy hr hI13227  ) (Nat.le_of_ble_eq_true rfl) ?_
  intro r I13231 J13232 Ra hq
  obtain ⟨⟨hI13231, ec, fiI13231, fjI13231⟩, rfl⟩ := hq
  rw [ec]
  clear ec Ra
  have fr13233 : fz 74 g [23, 24] I I13231 := fz_tr fr13228 (fz_mono fiI13231 (by decide))
  have fr13234 : fz 74 g [] J J13232 := fz_tr frj0 (fz_mono fjI13231 (by decide))
  have e13235 : I13231 (ad g 1) 1 = L := hI13231.2
  have b13236 := BT_get hI13231.1 1 1 2 (0) (0) (900) (by decide) 1 (by decide) (by decide)
  rw [e13235] at b13236
  exact WP_vret dX0_lossesAsTold_22 rfl ⟨⟨hI13231, rfl, fr13233, fr13234⟩, rfl⟩
theorem sx_lossesE_27 {g : GG} {n : Int} {L : Int32} (hy : LyX g) {I : pI} {J : pJ} {R : pR} (hr : RfX g R) (hT : R (ad g 5) 0 = some (ad g 27)) (hI : XI g n L I) : SP g mX0_lossesAsTold [.ref (ad g 5)] I J R (fun r I' J' R' => (XI g n L I' ∧ R' = R ∧ fz 74 g [23, 24] I I' ∧ fz 74 g [] J J' ∧ LTX g 27 I') ∧ r = none) := by
  have hb : ∀ q, q < 7 → 0 ≤ (I (ad g 28) q).toInt ∧ (I (ad g 28) q).toInt ≤ 1000 := fun q hq => by
    have b := BT_get hI.1 28 0 7 0 0 900 (by decide) q (Nat.zero_le _) hq
    omega
  refine SP_wk (SP_and2 (sx_lossesAsToldf_27 hy hr hT hI) (ex_lossesAsToldb hy hr hT hb)) ?_
  rintro r I' J' R' ⟨⟨⟨h1, h2, h3, h4⟩, h5⟩, I2, J2, R2, ⟨-, -, -, -, e1, e2⟩, hA⟩
  have h6 := fz_at h3 28 (by decide) (by decide)
  refine ⟨⟨h1, h2, h3, h4, fun q hq => ?_, fun d c hd hc => ?_⟩, h5⟩
  · rw [agr_i hA (lyx_is hy 23 13 rfl) (Or.inr (Or.inl rfl)) (lyx_n hy 23 7 rfl) hq, e1 q hq]
    exact (congrFun h6 q).symm
  · rw [agr_i hA (lyx_is hy 24 13 rfl) (Or.inr (Or.inl rfl)) (lyx_n hy 24 427 rfl) (by omega), e2 d c hd hc]
    show _ = (c : Int) - stp c (I' (ad g 28) d).toInt
    rw [h6]
set_option maxHeartbeats 4000000 in
set_option maxRecDepth 100000 in
theorem sx_lossesAtf_27 {g : GG} {n : Int} {L : Int32} (hy : LyX g)  {I : pI} {J : pJ} {R : pR} (hr : RfX g R) (hT : R (ad g 5) 0 = some (ad g 27)) (hI : XI g n L I) (lo : Int32) (lo_lo : 0 ≤ lo.toInt) (lo_hi : lo.toInt ≤ 900) : SP g mX0_lossesAt [.ref (ad g 5), .int lo] I J R (fun r I' J' R' => (XI g n L I' ∧ R' = R ∧ fz 74 g [23, 24] I I' ∧ fz 74 g [] J J') ∧ r = none) := by
  refine SP_of ⟨by decide, rfl⟩ (Nat.le_of_ble_eq_true rfl) ?_
  have e13237 : I (ad g 1) 1 = L := hI.2
  have b13238 := BT_get hI.1 1 1 2 (0) (0) (900) (by decide) 1 (by decide) (by decide)
  rw [e13237] at b13238
  have fr0 : fz 74 g [23, 24] I I := fz_rf
  have frj0 : fz 74 g [] J J := fz_rf
  refine WQ_iconst (0) (0) dX0_lossesAt_0 rfl rfl (fun v13239 hv13239 => ?_)
  refine WP_istore_n (ls' := [(0, _), (1, _), (2, _)]) dX0_lossesAt_1 (by decide) rfl ?_
  have lp2_13242 : ∀ (mz : Nat) (i13240 : Int32) (I13241 : pI) (J13242 : pJ), XI g n L I13241 → fz 74 g [23, 24] I I13241 → fz 74 g [] J J13242 → 0 ≤ i13240.toInt → i13240.toInt ≤ 7 → (8 - i13240.toInt).toNat < mz → WP g mX0_lossesAt 2 [(0, .ref (ad g 5)), (1, .int lo), (2, .int i13240)] [] I13241 J13242 R (fun r I' J' R' => (XI g n L I' ∧ R' = R ∧ fz 74 g [23, 24] I I' ∧ fz 74 g [] J J') ∧ r = none) := by
    intro mz
    induction mz with
    | zero =>
      intro i13240 I13241 J13242 hI13241 fiI13241 fjJ13242 ai13240 bi13240 hmlp2_13242
      exact absurd hmlp2_13242 (Nat.not_lt_zero _)
    | succ mz ihlp2_13242 =>
      intro i13240 I13241 J13242 hI13241 fiI13241 fjJ13242 ai13240 bi13240 hmlp2_13242
      have e13244 : I13241 (ad g 1) 1 = L := hI13241.2
      have b13245 := BT_get hI13241.1 1 1 2 (0) (0) (900) (by decide) 1 (by decide) (by decide)
      rw [e13244] at b13245
      refine WP_iload_n dX0_lossesAt_2 rfl ?_
      refine WQ_bipush (7) (7) dX0_lossesAt_3 rfl rfl (fun v13246 hv13246 => ?_)
      refine WQ_icmp_ge 37 dX0_lossesAt_5 rfl (fun c13246 => ?_) (fun c13246 => ?_)
      · refine WP_aload_n dX0_lossesAt_37 rfl ?_
        refine WP_callV0 (k := 0) dX0_lossesAt_38 ⟨⟨⟨by decide, by decide⟩, zX0_stampAll⟩, lX0_57, by decide, rfl, vX0_stampAll.1, vX0_stampAll.2⟩ (lyx_is hy 5 0 rfl) (sx_stampAllf hy hr hI13241  ) (Nat.le_of_ble_eq_true rfl) ?_
        intro r I13248 J13249 Ra hq
        obtain ⟨⟨hI13248, ec, fiI13248, fjI13248⟩, rfl⟩ := hq
        rw [ec]
        clear ec Ra
        have fr13250 : fz 74 g [23, 24] I I13248 := fz_tr fiI13241 (fz_mono fiI13248 (by decide))
        have fr13251 : fz 74 g [] J J13249 := fz_tr fjJ13242 (fz_mono fjI13248 (by decide))
        have e13252 : I13248 (ad g 1) 1 = L := hI13248.2
        have b13253 := BT_get hI13248.1 1 1 2 (0) (0) (900) (by decide) 1 (by decide) (by decide)
        rw [e13252] at b13253
        exact WP_vret dX0_lossesAt_41 rfl ⟨⟨hI13248, rfl, fr13250, fr13251⟩, rfl⟩
      · refine WP_aload_n dX0_lossesAt_8 rfl ?_
        refine WP_getr dX0_lossesAt_9 fX0_15 rfl (lyx_is hy 5 0 rfl) (rfx hr 5 2 23 (by decide)) ?_
        refine WP_iload_n dX0_lossesAt_12 rfl ?_
        refine WP_aload_n dX0_lossesAt_13 rfl ?_
        refine WP_getr dX0_lossesAt_14 fX0_27 rfl (lyx_is hy 5 0 rfl) hT ?_
        refine WP_getr dX0_lossesAt_17 fX0_56 rfl (lyx_is hy 27 7 rfl) (rfx hr 27 5 28 (by decide)) ?_
        refine WP_iload_n dX0_lossesAt_20 rfl ?_
        refine WQ_iald dX0_lossesAt_21 (lyx_is hy 28 13 rfl) (lyx_n hy 28 7 rfl) (by omega) (by omega) (fun q hq => BT_get hI13241.1 28 0 7 (0) (0) (900) (by decide) q (Nat.zero_le _) hq) (fun v13254 av13254 bv13254 ev13254 => ?_)
        clear ev13254
        have jn30_13256 : ∀ (v13256 : Int32), 0 ≤ v13256.toInt → v13256.toInt ≤ 900 → WP g mX0_lossesAt 30 [(0, .ref (ad g 5)), (1, .int lo), (2, .int i13240)] [.int v13256, .int i13240, .ref (ad g 23)] I13241 J13242 R (fun r I' J' R' => (XI g n L I' ∧ R' = R ∧ fz 74 g [23, 24] I I' ∧ fz 74 g [] J J') ∧ r = none) := by
          intro v13256 av13256 bv13256
          refine WQ_iast dX0_lossesAt_30 (lyx_is hy 23 13 rfl) (lyx_n hy 23 7 rfl) (by omega) (by omega) (fun I13258 eI13258 => ?_)
          have hI13258 : XI g n L I13258 := by rw [eI13258]; exact (xi_r hy hI13241 (c := 23) (0) (0) (900) (by decide) (Or.inl (by decide)) (by decide) (by omega) (by omega))
          have e13259 : I13258 (ad g 1) 1 = L := by rw [eI13258, pp_ne _ _ (Or.inl (lyx_ne hy (by decide) (by decide) (by decide)))]; exact e13244
          have fr13260 : fz 74 g [23, 24] I I13258 := by rw [eI13258]; exact fzx_pp hy fiI13241 (by decide) (by decide)
          clear eI13258
          refine WP_iinc (ls' := [(0, _), (1, _), (2, _)]) dX0_lossesAt_31 rfl (by decide) rfl ?_
          have hv13261 : (i13240 + Int32.ofInt (1)).toInt = i13240.toInt + (1) := ia_n rfl (by omega) (by omega)
          generalize i13240 + Int32.ofInt (1) = v13261 at hv13261 ⊢
          refine WP_goto 2 dX0_lossesAt_34 rfl ?_
          exact WP_sub (fc rfl (fc rfl (fc rfl fn))) (ihlp2_13242 v13261 I13258 J13242 hI13258 fr13260 fjJ13242 (by omega) (by omega) (by omega))
        refine WQ_if_le 29 dX0_lossesAt_22 rfl (fun c13261 => ?_) (fun c13261 => ?_)
        · refine WQ_iconst (0) (0) dX0_lossesAt_29 rfl rfl (fun v13263 hv13263 => ?_)
          exact WP_sub (fc rfl (fc rfl (fc rfl fn))) (jn30_13256 v13263 (by omega) (by omega))
        · refine WP_iload_n dX0_lossesAt_25 rfl ?_
          refine WP_goto 30 dX0_lossesAt_26 rfl ?_
          exact WP_sub (fc rfl (fc rfl (fc rfl fn))) (jn30_13256 lo (by omega) (by omega))
  exact WP_sub (fc rfl (fc rfl (fc rfl fn))) (lp2_13242 _ v13239 I J hI fr0 frj0 (by omega) (by omega) (Nat.lt_succ_self _))
set_option maxHeartbeats 4000000 in
set_option maxRecDepth 100000 in
theorem sx_movePricesf_27 {g : GG} {n : Int} {L : Int32} (hy : LyX g)  {I : pI} {J : pJ} {R : pR} (hr : RfX g R) (hT : R (ad g 5) 0 = some (ad g 27)) (hI : XI g n L I)   : SP g mX0_movePrices [.ref (ad g 5), .ref (ad g 51)] I J R (fun r I' J' R' => (XI g n L I' ∧ R' = R ∧ fz 74 g [22] I I' ∧ fz 74 g [] J J') ∧ ∃ v : Int32, r = some (.int v) ∧ 0 ≤ v.toInt ∧ v.toInt ≤ 1) := by
  refine SP_of ⟨by decide, rfl⟩ (Nat.le_of_ble_eq_true rfl) ?_
  have e13264 : I (ad g 1) 1 = L := hI.2
  have b13265 := BT_get hI.1 1 1 2 (0) (0) (900) (by decide) 1 (by decide) (by decide)
  rw [e13264] at b13265
  have fr0 : fz 74 g [22] I I := fz_rf
  have frj0 : fz 74 g [] J J := fz_rf
  refine WQ_iconst (0) (0) dX0_movePrices_0 rfl rfl (fun v13266 hv13266 => ?_)
  refine WP_istore_n (ls' := [(0, _), (1, _), (2, _)]) dX0_movePrices_1 (by decide) rfl ?_
  refine WQ_iconst (0) (0) dX0_movePrices_2 rfl rfl (fun v13267 hv13267 => ?_)
  refine WP_istore_n (ls' := [(0, _), (1, _), (2, _), (3, _)]) dX0_movePrices_3 (by decide) rfl ?_
  have lp4_13271 : ∀ (mz : Nat) (i13268 : Int32) (i13269 : Int32) (I13270 : pI) (J13271 : pJ), XI g n L I13270 → fz 74 g [22] I I13270 → fz 74 g [] J J13271 → 0 ≤ i13268.toInt → i13268.toInt ≤ 1 → 0 ≤ i13269.toInt → i13269.toInt ≤ 21 → (22 - i13269.toInt).toNat < mz → WP g mX0_movePrices 4 [(0, .ref (ad g 5)), (1, .ref (ad g 51)), (2, .int i13268), (3, .int i13269)] [] I13270 J13271 R (fun r I' J' R' => (XI g n L I' ∧ R' = R ∧ fz 74 g [22] I I' ∧ fz 74 g [] J J') ∧ ∃ v : Int32, r = some (.int v) ∧ 0 ≤ v.toInt ∧ v.toInt ≤ 1) := by
    intro mz
    induction mz with
    | zero =>
      intro i13268 i13269 I13270 J13271 hI13270 fiI13270 fjJ13271 ai13268 bi13268 ai13269 bi13269 hmlp4_13271
      exact absurd hmlp4_13271 (Nat.not_lt_zero _)
    | succ mz ihlp4_13271 =>
      intro i13268 i13269 I13270 J13271 hI13270 fiI13270 fjJ13271 ai13268 bi13268 ai13269 bi13269 hmlp4_13271
      have e13273 : I13270 (ad g 1) 1 = L := hI13270.2
      have b13274 := BT_get hI13270.1 1 1 2 (0) (0) (900) (by decide) 1 (by decide) (by decide)
      rw [e13273] at b13274
      refine WP_iload_n dX0_movePrices_4 rfl ?_
      refine WP_aload_n dX0_movePrices_5 rfl ?_
      refine WP_getr dX0_movePrices_6 fX0_27 rfl (lyx_is hy 5 0 rfl) hT ?_
      refine WQ_geti dX0_movePrices_9 fX0_73 rfl (lyx_is hy 27 7 rfl) (BT_get hI13270.1 27 2 3 (0) (0) (3) (by decide) 2 (by decide) (by decide)) (fun v13275 ev13275 av13275 bv13275 => ?_)
      refine WQ_bipush (7) (7) dX0_movePrices_12 rfl rfl (fun v13276 hv13276 => ?_)
      refine WQ_imulk (7) dX0_movePrices_14 hv13276 (by omega) (by omega) (fun v13277 hv13277 => ?_)
      refine WQ_icmp_ge 111 dX0_movePrices_15 rfl (fun c13277 => ?_) (fun c13277 => ?_)
      · refine WP_iload_n dX0_movePrices_111 rfl ?_
        exact WP_zret dX0_movePrices_112 rfl (nar_z (by omega)) ⟨⟨hI13270, rfl, fiI13270, fjJ13271⟩, _, rfl, by omega, by omega⟩
      · refine WP_aload_n dX0_movePrices_18 rfl ?_
        refine WP_getr dX0_movePrices_19 fX0_27 rfl (lyx_is hy 5 0 rfl) hT ?_
        refine WP_getr dX0_movePrices_22 fX0_76 rfl (lyx_is hy 27 7 rfl) (rfx hr 27 17 40 (by decide)) ?_
        refine WP_iload_n dX0_movePrices_25 rfl ?_
        refine WQ_iald dX0_movePrices_26 (lyx_is hy 40 13 rfl) (lyx_n hy 40 21 rfl) (by omega) (by omega) (fun q hq => BT_get hI13270.1 40 0 21 (-1) (0) (999) (by decide) q (Nat.zero_le _) hq) (fun v13279 av13279 bv13279 ev13279 => ?_)
        refine WP_istore (ls' := [(0, _), (1, _), (2, _), (3, _), (4, _)]) dX0_movePrices_27 (by decide) rfl ?_
        refine WP_iload dX0_movePrices_29 rfl ?_
        refine WQ_iconst (-1) (-1) dX0_movePrices_31 rfl rfl (fun v13280 hv13280 => ?_)
        refine WQ_icmp_eq 69 dX0_movePrices_32 rfl (fun c13280 => ?_) (fun c13280 => ?_)
        · refine WP_iload dX0_movePrices_69 rfl ?_
          refine WQ_iconst (-1) (-1) dX0_movePrices_71 rfl rfl (fun v13282 hv13282 => ?_)
          refine WQ_icmp_eq 105 dX0_movePrices_72 rfl (fun c13282 => ?_) (fun c13282 => False.elim (by omega))
          refine WP_iinc (ls' := [(0, _), (1, _), (2, _), (3, _), (4, _)]) dX0_movePrices_105 rfl (by decide) rfl ?_
          have hv13284 : (i13269 + Int32.ofInt (1)).toInt = i13269.toInt + (1) := ia_n rfl (by omega) (by omega)
          generalize i13269 + Int32.ofInt (1) = v13284 at hv13284 ⊢
          refine WP_goto 4 dX0_movePrices_108 rfl ?_
          exact WP_sub (fc rfl (fc rfl (fc rfl (fc rfl fn)))) (ihlp4_13271 i13268 v13284 I13270 J13271 hI13270 fiI13270 fjJ13271 (by omega) (by omega) (by omega) (by omega) (by omega))
        · refine WP_aload_n dX0_movePrices_35 rfl ?_
          refine WP_iload_n dX0_movePrices_36 rfl ?_
          refine WQ_ialdu dX0_movePrices_37 (lyx_is hy 51 13 rfl) (lyx_n hy 51 21 rfl) (by omega) (by omega) (fun v13285 => ?_)
          refine WP_iload dX0_movePrices_38 rfl ?_
          refine WQ_icmp_le 69 dX0_movePrices_40 rfl (fun c13285 => ?_) (fun c13285 => ?_)
          · refine WP_iload dX0_movePrices_69 rfl ?_
            refine WQ_iconst (-1) (-1) dX0_movePrices_71 rfl rfl (fun v13287 hv13287 => ?_)
            refine WQ_icmp_eq 105 dX0_movePrices_72 rfl (fun c13287 => False.elim (by omega)) (fun c13287 => ?_)
            refine WP_aload_n dX0_movePrices_75 rfl ?_
            refine WP_iload_n dX0_movePrices_76 rfl ?_
            refine WQ_ialdu dX0_movePrices_77 (lyx_is hy 51 13 rfl) (lyx_n hy 51 21 rfl) (by omega) (by omega) (fun v13289 => ?_)
            refine WP_iload dX0_movePrices_78 rfl ?_
            refine WQ_icmp_ge 105 dX0_movePrices_80 rfl (fun c13289 => ?_) (fun c13289 => ?_)
            · refine WP_iinc (ls' := [(0, _), (1, _), (2, _), (3, _), (4, _)]) dX0_movePrices_105 rfl (by decide) rfl ?_
              have hv13291 : (i13269 + Int32.ofInt (1)).toInt = i13269.toInt + (1) := ia_n rfl (by omega) (by omega)
              generalize i13269 + Int32.ofInt (1) = v13291 at hv13291 ⊢
              refine WP_goto 4 dX0_movePrices_108 rfl ?_
              exact WP_sub (fc rfl (fc rfl (fc rfl (fc rfl fn)))) (ihlp4_13271 i13268 v13291 I13270 J13271 hI13270 fiI13270 fjJ13271 (by omega) (by omega) (by omega) (by omega) (by omega))
            · refine WP_aload_n dX0_movePrices_83 rfl ?_
              refine WP_getr dX0_movePrices_84 fX0_9 rfl (lyx_is hy 5 0 rfl) (rfx hr 5 1 22 (by decide)) ?_
              refine WP_iload_n dX0_movePrices_87 rfl ?_
              refine WQ_iald dX0_movePrices_88 (lyx_is hy 22 13 rfl) (lyx_n hy 22 21 rfl) (by omega) (by omega) (fun q hq => BT_get hI13270.1 22 0 21 (0) (0) (20) (by decide) q (Nat.zero_le _) hq) (fun v13292 av13292 bv13292 ev13292 => ?_)
              refine WQ_iconst (1) (1) dX0_movePrices_89 rfl rfl (fun v13293 hv13293 => ?_)
              refine WQ_icmp_le 105 dX0_movePrices_90 rfl (fun c13293 => ?_) (fun c13293 => ?_)
              · refine WP_iinc (ls' := [(0, _), (1, _), (2, _), (3, _), (4, _)]) dX0_movePrices_105 rfl (by decide) rfl ?_
                have hv13295 : (i13269 + Int32.ofInt (1)).toInt = i13269.toInt + (1) := ia_n rfl (by omega) (by omega)
                generalize i13269 + Int32.ofInt (1) = v13295 at hv13295 ⊢
                refine WP_goto 4 dX0_movePrices_108 rfl ?_
                exact WP_sub (fc rfl (fc rfl (fc rfl (fc rfl fn)))) (ihlp4_13271 i13268 v13295 I13270 J13271 hI13270 fiI13270 fjJ13271 (by omega) (by omega) (by omega) (by omega) (by omega))
              · refine WP_aload_n dX0_movePrices_93 rfl ?_
                refine WP_getr dX0_movePrices_94 fX0_9 rfl (lyx_is hy 5 0 rfl) (rfx hr 5 1 22 (by decide)) ?_
                refine WP_iload_n dX0_movePrices_97 rfl ?_
                refine WP_dup2 dX0_movePrices_98 rfl rfl ?_
                refine WQ_ialde dX0_movePrices_99 (lyx_is hy 22 13 rfl) (lyx_n hy 22 21 rfl) (by omega) (by omega) ev13292 ?_
                refine WQ_iconst (1) (1) dX0_movePrices_100 rfl rfl (fun v13297 hv13297 => ?_)
                refine WQ_isub dX0_movePrices_101 (by omega) (by omega) (fun v13298 hv13298 => ?_)
                refine WQ_iast dX0_movePrices_102 (lyx_is hy 22 13 rfl) (lyx_n hy 22 21 rfl) (by omega) (by omega) (fun I13299 eI13299 => ?_)
                have hI13299 : XI g n L I13299 := by rw [eI13299]; exact (xi_r hy hI13270 (c := 22) (0) (0) (20) (by decide) (Or.inl (by decide)) (by decide) (by omega) (by omega))
                have e13300 : I13299 (ad g 1) 1 = L := by rw [eI13299, pp_ne _ _ (Or.inl (lyx_ne hy (by decide) (by decide) (by decide)))]; exact e13273
                have e13301 : I13299 (ad g 27) 2 = v13275 := by rw [eI13299, pp_ne _ _ (Or.inl (lyx_ne hy (by decide) (by decide) (by decide)))]; exact ev13275
                have e13302 : I13299 (ad g 40) i13269.toNatClampNeg = v13279 := by rw [eI13299, pp_ne _ _ (Or.inl (lyx_ne hy (by decide) (by decide) (by decide)))]; exact ev13279
                have fr13303 : fz 74 g [22] I I13299 := by rw [eI13299]; exact fzx_pp hy fiI13270 (by decide) (by decide)
                clear eI13299
                refine WQ_iconst (1) (1) dX0_movePrices_103 rfl rfl (fun v13304 hv13304 => ?_)
                refine WP_istore_n (ls' := [(0, _), (1, _), (2, _), (3, _), (4, _)]) dX0_movePrices_104 (by decide) rfl ?_
                refine WP_iinc (ls' := [(0, _), (1, _), (2, _), (3, _), (4, _)]) dX0_movePrices_105 rfl (by decide) rfl ?_
                have hv13305 : (i13269 + Int32.ofInt (1)).toInt = i13269.toInt + (1) := ia_n rfl (by omega) (by omega)
                generalize i13269 + Int32.ofInt (1) = v13305 at hv13305 ⊢
                refine WP_goto 4 dX0_movePrices_108 rfl ?_
                exact WP_sub (fc rfl (fc rfl (fc rfl (fc rfl fn)))) (ihlp4_13271 v13304 v13305 I13299 J13271 hI13299 fr13303 fjJ13271 (by omega) (by omega) (by omega) (by omega) (by omega))
          · refine WP_aload_n dX0_movePrices_43 rfl ?_
            refine WP_getr dX0_movePrices_44 fX0_9 rfl (lyx_is hy 5 0 rfl) (rfx hr 5 1 22 (by decide)) ?_
            refine WP_iload_n dX0_movePrices_47 rfl ?_
            refine WQ_iald dX0_movePrices_48 (lyx_is hy 22 13 rfl) (lyx_n hy 22 21 rfl) (by omega) (by omega) (fun q hq => BT_get hI13270.1 22 0 21 (0) (0) (20) (by decide) q (Nat.zero_le _) hq) (fun v13306 av13306 bv13306 ev13306 => ?_)
            refine WQ_bipush (20) (20) dX0_movePrices_49 rfl rfl (fun v13307 hv13307 => ?_)
            refine WQ_icmp_ge 69 dX0_movePrices_51 rfl (fun c13307 => ?_) (fun c13307 => ?_)
            · refine WP_iload dX0_movePrices_69 rfl ?_
              refine WQ_iconst (-1) (-1) dX0_movePrices_71 rfl rfl (fun v13309 hv13309 => ?_)
              refine WQ_icmp_eq 105 dX0_movePrices_72 rfl (fun c13309 => False.elim (by omega)) (fun c13309 => ?_)
              refine WP_aload_n dX0_movePrices_75 rfl ?_
              refine WP_iload_n dX0_movePrices_76 rfl ?_
              refine WQ_ialdu dX0_movePrices_77 (lyx_is hy 51 13 rfl) (lyx_n hy 51 21 rfl) (by omega) (by omega) (fun v13311 => ?_)
              refine WP_iload dX0_movePrices_78 rfl ?_
              refine WQ_icmp_ge 105 dX0_movePrices_80 rfl (fun c13311 => ?_) (fun c13311 => ?_)
              · refine WP_iinc (ls' := [(0, _), (1, _), (2, _), (3, _), (4, _)]) dX0_movePrices_105 rfl (by decide) rfl ?_
                have hv13313 : (i13269 + Int32.ofInt (1)).toInt = i13269.toInt + (1) := ia_n rfl (by omega) (by omega)
                generalize i13269 + Int32.ofInt (1) = v13313 at hv13313 ⊢
                refine WP_goto 4 dX0_movePrices_108 rfl ?_
                exact WP_sub (fc rfl (fc rfl (fc rfl (fc rfl fn)))) (ihlp4_13271 i13268 v13313 I13270 J13271 hI13270 fiI13270 fjJ13271 (by omega) (by omega) (by omega) (by omega) (by omega))
              · refine WP_aload_n dX0_movePrices_83 rfl ?_
                refine WP_getr dX0_movePrices_84 fX0_9 rfl (lyx_is hy 5 0 rfl) (rfx hr 5 1 22 (by decide)) ?_
                refine WP_iload_n dX0_movePrices_87 rfl ?_
                refine WQ_ialde dX0_movePrices_88 (lyx_is hy 22 13 rfl) (lyx_n hy 22 21 rfl) (by omega) (by omega) ev13306 ?_
                refine WQ_iconst (1) (1) dX0_movePrices_89 rfl rfl (fun v13315 hv13315 => ?_)
                refine WQ_icmp_le 105 dX0_movePrices_90 rfl (fun c13315 => False.elim (by omega)) (fun c13315 => ?_)
                refine WP_aload_n dX0_movePrices_93 rfl ?_
                refine WP_getr dX0_movePrices_94 fX0_9 rfl (lyx_is hy 5 0 rfl) (rfx hr 5 1 22 (by decide)) ?_
                refine WP_iload_n dX0_movePrices_97 rfl ?_
                refine WP_dup2 dX0_movePrices_98 rfl rfl ?_
                refine WQ_ialde dX0_movePrices_99 (lyx_is hy 22 13 rfl) (lyx_n hy 22 21 rfl) (by omega) (by omega) ev13306 ?_
                refine WQ_iconst (1) (1) dX0_movePrices_100 rfl rfl (fun v13318 hv13318 => ?_)
                refine WQ_isub dX0_movePrices_101 (by omega) (by omega) (fun v13319 hv13319 => ?_)
                refine WQ_iast dX0_movePrices_102 (lyx_is hy 22 13 rfl) (lyx_n hy 22 21 rfl) (by omega) (by omega) (fun I13320 eI13320 => ?_)
                have hI13320 : XI g n L I13320 := by rw [eI13320]; exact (xi_r hy hI13270 (c := 22) (0) (0) (20) (by decide) (Or.inl (by decide)) (by decide) (by omega) (by omega))
                have e13321 : I13320 (ad g 1) 1 = L := by rw [eI13320, pp_ne _ _ (Or.inl (lyx_ne hy (by decide) (by decide) (by decide)))]; exact e13273
                have e13322 : I13320 (ad g 27) 2 = v13275 := by rw [eI13320, pp_ne _ _ (Or.inl (lyx_ne hy (by decide) (by decide) (by decide)))]; exact ev13275
                have e13323 : I13320 (ad g 40) i13269.toNatClampNeg = v13279 := by rw [eI13320, pp_ne _ _ (Or.inl (lyx_ne hy (by decide) (by decide) (by decide)))]; exact ev13279
                have fr13324 : fz 74 g [22] I I13320 := by rw [eI13320]; exact fzx_pp hy fiI13270 (by decide) (by decide)
                clear eI13320
                refine WQ_iconst (1) (1) dX0_movePrices_103 rfl rfl (fun v13325 hv13325 => ?_)
                refine WP_istore_n (ls' := [(0, _), (1, _), (2, _), (3, _), (4, _)]) dX0_movePrices_104 (by decide) rfl ?_
                refine WP_iinc (ls' := [(0, _), (1, _), (2, _), (3, _), (4, _)]) dX0_movePrices_105 rfl (by decide) rfl ?_
                have hv13326 : (i13269 + Int32.ofInt (1)).toInt = i13269.toInt + (1) := ia_n rfl (by omega) (by omega)
                generalize i13269 + Int32.ofInt (1) = v13326 at hv13326 ⊢
                refine WP_goto 4 dX0_movePrices_108 rfl ?_
                exact WP_sub (fc rfl (fc rfl (fc rfl (fc rfl fn)))) (ihlp4_13271 v13325 v13326 I13320 J13271 hI13320 fr13324 fjJ13271 (by omega) (by omega) (by omega) (by omega) (by omega))
            · refine WP_aload_n dX0_movePrices_54 rfl ?_
              refine WP_getr dX0_movePrices_55 fX0_9 rfl (lyx_is hy 5 0 rfl) (rfx hr 5 1 22 (by decide)) ?_
              refine WP_iload_n dX0_movePrices_58 rfl ?_
              refine WP_dup2 dX0_movePrices_59 rfl rfl ?_
              refine WQ_ialde dX0_movePrices_60 (lyx_is hy 22 13 rfl) (lyx_n hy 22 21 rfl) (by omega) (by omega) ev13306 ?_
              refine WQ_iconst (1) (1) dX0_movePrices_61 rfl rfl (fun v13328 hv13328 => ?_)
              refine WQ_iadd dX0_movePrices_62 (by omega) (by omega) (fun v13329 hv13329 => ?_)
              refine WQ_iast dX0_movePrices_63 (lyx_is hy 22 13 rfl) (lyx_n hy 22 21 rfl) (by omega) (by omega) (fun I13330 eI13330 => ?_)
              have hI13330 : XI g n L I13330 := by rw [eI13330]; exact (xi_r hy hI13270 (c := 22) (0) (0) (20) (by decide) (Or.inl (by decide)) (by decide) (by omega) (by omega))
              have e13331 : I13330 (ad g 1) 1 = L := by rw [eI13330, pp_ne _ _ (Or.inl (lyx_ne hy (by decide) (by decide) (by decide)))]; exact e13273
              have e13332 : I13330 (ad g 27) 2 = v13275 := by rw [eI13330, pp_ne _ _ (Or.inl (lyx_ne hy (by decide) (by decide) (by decide)))]; exact ev13275
              have e13333 : I13330 (ad g 40) i13269.toNatClampNeg = v13279 := by rw [eI13330, pp_ne _ _ (Or.inl (lyx_ne hy (by decide) (by decide) (by decide)))]; exact ev13279
              have fr13334 : fz 74 g [22] I I13330 := by rw [eI13330]; exact fzx_pp hy fiI13270 (by decide) (by decide)
              clear eI13330
              refine WQ_iconst (1) (1) dX0_movePrices_64 rfl rfl (fun v13335 hv13335 => ?_)
              refine WP_istore_n (ls' := [(0, _), (1, _), (2, _), (3, _), (4, _)]) dX0_movePrices_65 (by decide) rfl ?_
              refine WP_goto 105 dX0_movePrices_66 rfl ?_
              refine WP_iinc (ls' := [(0, _), (1, _), (2, _), (3, _), (4, _)]) dX0_movePrices_105 rfl (by decide) rfl ?_
              have hv13336 : (i13269 + Int32.ofInt (1)).toInt = i13269.toInt + (1) := ia_n rfl (by omega) (by omega)
              generalize i13269 + Int32.ofInt (1) = v13336 at hv13336 ⊢
              refine WP_goto 4 dX0_movePrices_108 rfl ?_
              exact WP_sub (fc rfl (fc rfl (fc rfl (fc rfl fn)))) (ihlp4_13271 v13335 v13336 I13330 J13271 hI13330 fr13334 fjJ13271 (by omega) (by omega) (by omega) (by omega) (by omega))
  exact WP_sub (fc rfl (fc rfl (fc rfl (fc rfl fn)))) (lp4_13271 _ v13266 v13267 I J hI fr0 frj0 (by omega) (by omega) (by omega) (by omega) (Nat.lt_succ_self _))
set_option maxHeartbeats 4000000 in
set_option maxRecDepth 100000 in
theorem sx_beginf_56_27 {g : GG} {n : Int} {L : Int32} (hy : LyX g)  {I : pI} {J : pJ} {R : pR} (hr : RfX g R) (hI : XI g n L I)   (hn : 0 ≤ n) : SP g mX4_begin [.ref (ad g 56), .ref (ad g 27)] I J R (fun r I' J' R' => (XI g n L I' ∧ R' = R ∧ fz 74 g [56, 58] I I' ∧ fz 74 g [56] J J' ∧ (I' (ad g 56) 1).toInt = 0) ∧ r = none) := by
  refine SP_of ⟨by decide, rfl⟩ (Nat.le_of_ble_eq_true rfl) ?_
  have e13337 : I (ad g 1) 1 = L := hI.2
  have b13338 := BT_get hI.1 1 1 2 (0) (0) (900) (by decide) 1 (by decide) (by decide)
  rw [e13337] at b13338
  have fr0 : fz 74 g [56, 58] I I := fz_rf
  have frj0 : fz 74 g [56] J J := fz_rf
  refine WP_aload_n dX4_begin_0 rfl ?_
  refine WQ_iconst (0) (0) dX4_begin_1 rfl rfl (fun v13339 hv13339 => ?_)
  refine WQ_puti dX4_begin_2 fX4_18 rfl rfl (lyx_is hy 56 4 rfl) (fun I13340 eI13340 => ?_)
  have hI13340 : XI g n L I13340 := by rw [eI13340]; exact (xi_f0 hy hI (c := 56) (by decide) (Or.inl (by decide)) (by decide))
  have e13341 : I13340 (ad g 1) 1 = L := by rw [eI13340, pp_ne _ _ (Or.inl (lyx_ne hy (by decide) (by decide) (by decide)))]; exact e13337
  have e13342 : I13340 (ad g 56) 0 = v13339 := by rw [eI13340, pp_self]
  have fr13343 : fz 74 g [56, 58] I I13340 := by rw [eI13340]; exact fzx_pp hy fr0 (by decide) (by decide)
  clear eI13340
  refine WP_aload_n dX4_begin_5 rfl ?_
  refine WQ_iconst (0) (0) dX4_begin_6 rfl rfl (fun v13344 hv13344 => ?_)
  refine WQ_puti dX4_begin_7 fX4_22 rfl rfl (lyx_is hy 56 4 rfl) (fun I13345 eI13345 => ?_)
  have hI13345 : XI g n L I13345 := by rw [eI13345]; exact (xi_f hy hI13340 (c := 56) (0) (23760) (700000) (by decide) (Or.inl (by decide)) (by decide) (by omega) (by omega))
  have e13346 : I13345 (ad g 1) 1 = L := by rw [eI13345, pp_ne _ _ (Or.inl (lyx_ne hy (by decide) (by decide) (by decide)))]; exact e13341
  have e13347 : I13345 (ad g 56) 0 = v13339 := by rw [eI13345, pp_ne _ _ (Or.inr (by decide))]; exact e13342
  have e13348 : I13345 (ad g 56) 1 = v13344 := by rw [eI13345, pp_self]
  have fr13349 : fz 74 g [56, 58] I I13345 := by rw [eI13345]; exact fzx_pp hy fr13343 (by decide) (by decide)
  clear eI13345
  refine WP_aload_n dX4_begin_10 rfl ?_
  refine WQ_iconst (0) (0) dX4_begin_11 rfl rfl (fun v13350 hv13350 => ?_)
  refine WQ_puti dX4_begin_12 fX4_25 rfl rfl (lyx_is hy 56 4 rfl) (fun I13351 eI13351 => ?_)
  have hI13351 : XI g n L I13351 := by rw [eI13351]; exact (xi_f0 hy hI13345 (c := 56) (by decide) (Or.inl (by decide)) (by decide))
  have e13352 : I13351 (ad g 1) 1 = L := by rw [eI13351, pp_ne _ _ (Or.inl (lyx_ne hy (by decide) (by decide) (by decide)))]; exact e13346
  have e13353 : I13351 (ad g 56) 0 = v13339 := by rw [eI13351, pp_ne _ _ (Or.inr (by decide))]; exact e13347
  have e13354 : I13351 (ad g 56) 1 = v13344 := by rw [eI13351, pp_ne _ _ (Or.inr (by decide))]; exact e13348
  have e13355 : I13351 (ad g 56) 2 = v13350 := by rw [eI13351, pp_self]
  have fr13356 : fz 74 g [56, 58] I I13351 := by rw [eI13351]; exact fzx_pp hy fr13349 (by decide) (by decide)
  clear eI13351
  refine WP_aload_n dX4_begin_15 rfl ?_
  refine WP_lconst (0) dX4_begin_16 rfl ?_
  obtain ⟨l13357, hl13357, el13357⟩ : ∃ v : Int64, v.toInt = 0 ∧ (0 : Int64) = v := ⟨_, rfl, rfl⟩
  rw [el13357]; clear el13357
  refine WQ_putl dX4_begin_17 fX4_28 rfl rfl (lyx_is hy 56 4 rfl) (fun J13358 eJ13358 => ?_)
  have fr13359 : fz 74 g [56] J J13358 := by rw [eJ13358]; exact fzx_pp hy frj0 (by decide) (by decide)
  clear eJ13358
  refine WP_aload_n dX4_begin_20 rfl ?_
  refine WP_getr dX4_begin_21 fX4_15 rfl (lyx_is hy 56 4 rfl) (rfx hr 56 5 58 (by decide)) ?_
  refine WQ_iconst (0) (0) dX4_begin_24 rfl rfl (fun v13360 hv13360 => ?_)
  refine WP_callS2u dX4_begin_25 ⟨⟨⟨by decide, by decide⟩, zJ7_fill_53178⟩, lX4_32, tJ7_fill_53178⟩ (s_fill hy hr 58 28 rfl rfl (by decide) v13360) (Nat.le_of_ble_eq_true rfl) ?_
  obtain ⟨I13361, eI13361⟩ : ∃ I9 : pI, I9 = fi I13351 (ad g 58) 28 v13360 := ⟨_, rfl⟩
  rw [← eI13361]
  have hI13361 : XI g n L I13361 := by rw [eI13361]; exact (fa_fill hy hI13351 (c := 58) 28 (by decide) hv13360)
  have e13362 : I13361 (ad g 1) 1 = L := by rw [eI13361, fi_off (lyx_ne hy (by decide) (by decide) (by decide))]; exact e13352
  have e13363 : I13361 (ad g 56) 0 = v13339 := by rw [eI13361, fi_off (lyx_ne hy (by decide) (by decide) (by decide))]; exact e13353
  have e13364 : I13361 (ad g 56) 1 = v13344 := by rw [eI13361, fi_off (lyx_ne hy (by decide) (by decide) (by decide))]; exact e13354
  have e13365 : I13361 (ad g 56) 2 = v13350 := by rw [eI13361, fi_off (lyx_ne hy (by decide) (by decide) (by decide))]; exact e13355
  have fr13366 : fz 74 g [56, 58] I I13361 := by rw [eI13361]; exact fzx_fi hy fr13356 (by decide) (by decide)
  clear eI13361
  refine WQ_iconst (0) (0) dX4_begin_28 rfl rfl (fun v13367 hv13367 => ?_)
  refine WP_istore_n (ls' := [(0, _), (1, _), (2, _)]) dX4_begin_29 (by decide) rfl ?_
  have lp30_13371 : ∀ (mz : Nat) (i13368 : Int32) (I13369 : pI) (J13370 : pJ), XI g n L I13369 → fz 74 g [56, 58] I I13369 → fz 74 g [56] J J13370 → ∀ (w13371 : Int32), I13369 (ad g 56) 1 = w13371 → 0 ≤ i13368.toInt → i13368.toInt ≤ 4 → w13371.toInt = 0 → (5 - i13368.toInt).toNat < mz → WP g mX4_begin 30 [(0, .ref (ad g 56)), (1, .ref (ad g 27)), (2, .int i13368)] [] I13369 J13370 R (fun r I' J' R' => (XI g n L I' ∧ R' = R ∧ fz 74 g [56, 58] I I' ∧ fz 74 g [56] J J' ∧ (I' (ad g 56) 1).toInt = 0) ∧ r = none) := by
    intro mz
    induction mz with
    | zero =>
      intro i13368 I13369 J13370 hI13369 fiI13369 fjJ13370 w13371 ew13371 ai13368 bi13368 j0_I13369 hmlp30_13371
      exact absurd hmlp30_13371 (Nat.not_lt_zero _)
    | succ mz ihlp30_13371 =>
      intro i13368 I13369 J13370 hI13369 fiI13369 fjJ13370 w13371 ew13371 ai13368 bi13368 j0_I13369 hmlp30_13371
      have bw13371 := BT_get hI13369.1 56 1 2 (0) (23760) (700000) (by decide) 1 (by decide) (by decide)
      rw [ew13371] at bw13371
      have e13373 : I13369 (ad g 1) 1 = L := hI13369.2
      have b13374 := BT_get hI13369.1 1 1 2 (0) (0) (900) (by decide) 1 (by decide) (by decide)
      rw [e13373] at b13374
      refine WP_iload_n dX4_begin_30 rfl ?_
      refine WP_aload_n dX4_begin_31 rfl ?_
      refine WQ_geti dX4_begin_32 fX4_38 rfl (lyx_is hy 27 7 rfl) (BT_get hI13369.1 27 1 2 (0) (0) (4) (by decide) 1 (by decide) (by decide)) (fun v13375 ev13375 av13375 bv13375 => ?_)
      refine WQ_icmp_ge 61 dX4_begin_35 rfl (fun c13375 => ?_) (fun c13375 => ?_)
      · exact WP_vret dX4_begin_61 rfl ⟨⟨hI13369, rfl, fiI13369, fjJ13370, (by rw [ew13371]; omega)⟩, rfl⟩
      · refine WP_aload_n dX4_begin_38 rfl ?_
        refine WP_getr dX4_begin_39 fX4_15 rfl (lyx_is hy 56 4 rfl) (rfx hr 56 5 58 (by decide)) ?_
        refine WP_iload_n dX4_begin_42 rfl ?_
        refine WQ_bipush (7) (7) dX4_begin_43 rfl rfl (fun v13377 hv13377 => ?_)
        refine WQ_imulk (7) dX4_begin_45 hv13377 (by omega) (by omega) (fun v13378 hv13378 => ?_)
        refine WQ_iconst (0) (0) dX4_begin_46 rfl rfl (fun v13379 hv13379 => ?_)
        refine WQ_iadd dX4_begin_47 (by omega) (by omega) (fun v13380 hv13380 => ?_)
        refine WP_aload_n dX4_begin_48 rfl ?_
        refine WP_getr dX4_begin_49 fX4_43 rfl (lyx_is hy 27 7 rfl) (rfx hr 27 8 31 (by decide)) ?_
        refine WP_iload_n dX4_begin_52 rfl ?_
        refine WQ_iald dX4_begin_53 (lyx_is hy 31 13 rfl) (lyx_n hy 31 4 rfl) (by omega) (by omega) (fun q hq => BT_get hI13369.1 31 0 4 (0) (0) (60) (by decide) q (Nat.zero_le _) hq) (fun v13381 av13381 bv13381 ev13381 => ?_)
        clear ev13381
        refine WQ_iast dX4_begin_54 (lyx_is hy 58 13 rfl) (lyx_n hy 58 28 rfl) (by omega) (by omega) (fun I13382 eI13382 => ?_)
        have hI13382 : XI g n L I13382 := by rw [eI13382]; exact (fa_put hy hI13369 (c := 58) (k := 0) (s := i13368.toInt.toNat) (by decide) (by omega) (by decide) (by rw [cl (n := 7 * i13368.toInt.toNat + 0) (by omega)]) (fun _ => by omega) (fun _ => by omega))
        have e13383 : I13382 (ad g 56) 1 = w13371 := by rw [eI13382, pp_ne _ _ (Or.inl (lyx_ne hy (by decide) (by decide) (by decide)))]; exact ew13371
        have e13384 : I13382 (ad g 1) 1 = L := by rw [eI13382, pp_ne _ _ (Or.inl (lyx_ne hy (by decide) (by decide) (by decide)))]; exact e13373
        have e13385 : I13382 (ad g 27) 1 = v13375 := by rw [eI13382, pp_ne _ _ (Or.inl (lyx_ne hy (by decide) (by decide) (by decide)))]; exact ev13375
        have fr13386 : fz 74 g [56, 58] I I13382 := by rw [eI13382]; exact fzx_pp hy fiI13369 (by decide) (by decide)
        clear eI13382
        refine WP_iinc (ls' := [(0, _), (1, _), (2, _)]) dX4_begin_55 rfl (by decide) rfl ?_
        have hv13387 : (i13368 + Int32.ofInt (1)).toInt = i13368.toInt + (1) := ia_n rfl (by omega) (by omega)
        generalize i13368 + Int32.ofInt (1) = v13387 at hv13387 ⊢
        refine WP_goto 30 dX4_begin_58 rfl ?_
        exact WP_sub (fc rfl (fc rfl (fc rfl fn))) (ihlp30_13371 v13387 I13382 J13370 hI13382 fr13386 fjJ13370 w13371 e13383 (by omega) (by omega) (by omega) (by omega))
  exact WP_sub (fc rfl (fc rfl (fc rfl fn))) (lp30_13371 _ v13367 I13361 J13358 hI13361 fr13366 fr13359 v13344 e13364 (by omega) (by omega) (by omega) (Nat.lt_succ_self _))
set_option maxHeartbeats 4000000 in
set_option maxRecDepth 100000 in
theorem sx_openChestf_53_6 {g : GG} {n : Int} {L : Int32} (hy : LyX g)  {I : pI} {J : pJ} {R : pR} (hr : RfX g R) (hT : R (ad g 5) 0 = some (ad g 6)) (hI : XI g n L I)   (hn : 0 ≤ n ∧ n ≤ 40000) : SP g mX9_openChest [.ref (ad g 49), .ref (ad g 53)] I J R (fun r I' J' R' => (XI g n L I' ∧ R' = R ∧ fz 74 g [53, 55] I I' ∧ fz 74 g [] J J' ∧ (I' (ad g 53) 1).toInt ≤ (I (ad g 53) 1).toInt ∧ I' (ad g 53) 0 = I (ad g 53) 0) ∧ r = none) := by
  refine SP_of ⟨by decide, rfl⟩ (Nat.le_of_ble_eq_true rfl) ?_
  have e13388 : I (ad g 1) 1 = L := hI.2
  have b13389 := BT_get hI.1 1 1 2 (0) (0) (900) (by decide) 1 (by decide) (by decide)
  rw [e13388] at b13389
  have fr0 : fz 74 g [53, 55] I I := fz_rf
  have frj0 : fz 74 g [] J J := fz_rf
  obtain ⟨w13390, ew13390⟩ : ∃ w : Int32, I (ad g 53) 0 = w := ⟨_, rfl⟩
  obtain ⟨w13391, ew13391⟩ : ∃ w : Int32, I (ad g 53) 1 = w := ⟨_, rfl⟩
  have bw13391 := BT_get hI.1 53 1 2 (0) (23760) (0) (by decide) 1 (by decide) (by decide)
  rw [ew13391] at bw13391
  refine WP_aload_n dX9_openChest_0 rfl ?_
  refine WP_getr dX9_openChest_1 fX9_25 rfl (lyx_is hy 49 9 rfl) (rfx hr 49 2 5 (by decide)) ?_
  refine WP_getr dX9_openChest_4 fX9_49 rfl (lyx_is hy 5 0 rfl) hT ?_
  refine WQ_geti dX9_openChest_7 fX9_68 rfl (lyx_is hy 6 7 rfl) (BT_get hI.1 6 3 4 (-1) (0) (3) (by decide) 3 (by decide) (by decide)) (fun v13392 ev13392 av13392 bv13392 => ?_)
  refine WP_istore_n (ls' := [(0, _), (1, _), (2, _)]) dX9_openChest_10 (by decide) rfl ?_
  refine WP_iload_n dX9_openChest_11 rfl ?_
  refine WQ_iconst (-1) (-1) dX9_openChest_12 rfl rfl (fun v13393 hv13393 => ?_)
  refine WQ_icmp_eq 32 dX9_openChest_13 rfl (fun c13393 => ?_) (fun c13393 => ?_)
  · exact WP_vret dX9_openChest_32 rfl ⟨⟨hI, rfl, fr0, frj0, ⟨(by omega), rfl⟩⟩, rfl⟩
  · refine WP_aload_n dX9_openChest_16 rfl ?_
    refine WP_getr dX9_openChest_17 fX9_25 rfl (lyx_is hy 49 9 rfl) (rfx hr 49 2 5 (by decide)) ?_
    refine WP_getr dX9_openChest_20 fX9_49 rfl (lyx_is hy 5 0 rfl) hT ?_
    refine WP_getr dX9_openChest_23 fX9_71 rfl (lyx_is hy 6 7 rfl) (rfx hr 6 6 8 (by decide)) ?_
    refine WP_iload_n dX9_openChest_26 rfl ?_
    refine WQ_iald dX9_openChest_27 (lyx_is hy 8 13 rfl) (lyx_n hy 8 4 rfl) (by omega) (by omega) (fun q hq => BT_get hI.1 8 0 4 (0) (0) (99) (by decide) q (Nat.zero_le _) hq) (fun v13395 av13395 bv13395 ev13395 => ?_)
    refine WQ_iconst (1) (1) dX9_openChest_28 rfl rfl (fun v13396 hv13396 => ?_)
    refine WQ_icmp_ge 33 dX9_openChest_29 rfl (fun c13396 => ?_) (fun c13396 => ?_)
    · refine WP_aload_n dX9_openChest_33 rfl ?_
      refine WP_getr dX9_openChest_34 fX9_25 rfl (lyx_is hy 49 9 rfl) (rfx hr 49 2 5 (by decide)) ?_
      refine WP_getr dX9_openChest_37 fX9_49 rfl (lyx_is hy 5 0 rfl) hT ?_
      refine WP_getr dX9_openChest_40 fX9_71 rfl (lyx_is hy 6 7 rfl) (rfx hr 6 6 8 (by decide)) ?_
      refine WP_iload_n dX9_openChest_43 rfl ?_
      refine WQ_ialde dX9_openChest_44 (lyx_is hy 8 13 rfl) (lyx_n hy 8 4 rfl) (by omega) (by omega) ev13395 ?_
      refine WP_istore_n (ls' := [(0, _), (1, _), (2, _), (3, _)]) dX9_openChest_45 (by decide) rfl ?_
      refine WP_aload_n dX9_openChest_46 rfl ?_
      refine WQ_getim dX9_openChest_47 fX9_74 rfl (lyx_is hy 53 4 rfl) ew13391 ?_
      refine WP_iload_n dX9_openChest_50 rfl ?_
      refine WQ_idivb dX9_openChest_51 (by omega) (by omega) (fun v13399 pv13399 av13399 bv13399 cv13399 => ?_)
      refine WP_istore (ls' := [(0, _), (1, _), (2, _), (3, _), (4, _)]) dX9_openChest_52 (by decide) rfl ?_
      refine WP_iload_n dX9_openChest_54 rfl ?_
      refine WQ_bipush (7) (7) dX9_openChest_55 rfl rfl (fun v13400 hv13400 => ?_)
      refine WQ_imulk (7) dX9_openChest_57 hv13400 (by omega) (by omega) (fun v13401 hv13401 => ?_)
      refine WP_istore (ls' := [(0, _), (1, _), (2, _), (3, _), (4, _), (5, _)]) dX9_openChest_58 (by decide) rfl ?_
      refine WP_aload_n dX9_openChest_60 rfl ?_
      refine WP_dup dX9_openChest_61 rfl ?_
      refine WQ_getim dX9_openChest_62 fX9_74 rfl (lyx_is hy 53 4 rfl) ew13391 ?_
      refine WP_iload dX9_openChest_65 rfl ?_
      refine WP_iload_n dX9_openChest_67 rfl ?_
      have knv13402 : 0 ≤ v13399.toInt * v13395.toInt := Int.mul_nonneg (by omega) (by omega)
      refine WQ_imulx dX9_openChest_68 (by omega) (by omega) (fun v13402 pv13402 => ?_)
      refine WQ_isub dX9_openChest_69 (by omega) (by omega) (fun v13403 hv13403 => ?_)
      refine WQ_puti dX9_openChest_70 fX9_74 rfl rfl (lyx_is hy 53 4 rfl) (fun I13404 eI13404 => ?_)
      have hI13404 : XI g n L I13404 := by rw [eI13404]; exact (xi_f hy hI (c := 53) (0) (23760) (0) (by decide) (Or.inl (by decide)) (by decide) (by omega) (by omega))
      have e13405 : I13404 (ad g 1) 1 = L := by rw [eI13404, pp_ne _ _ (Or.inl (lyx_ne hy (by decide) (by decide) (by decide)))]; exact e13388
      have e13406 : I13404 (ad g 53) 0 = w13390 := by rw [eI13404, pp_ne _ _ (Or.inr (by decide))]; exact ew13390
      have e13407 : I13404 (ad g 6) 3 = v13392 := by rw [eI13404, pp_ne _ _ (Or.inl (lyx_ne hy (by decide) (by decide) (by decide)))]; exact ev13392
      have e13408 : I13404 (ad g 8) v13392.toNatClampNeg = v13395 := by rw [eI13404, pp_ne _ _ (Or.inl (lyx_ne hy (by decide) (by decide) (by decide)))]; exact ev13395
      have e13409 : I13404 (ad g 53) 1 = v13403 := by rw [eI13404, pp_self]
      have fr13410 : fz 74 g [53, 55] I I13404 := by rw [eI13404]; exact fzx_pp hy fr0 (by decide) (by decide)
      clear eI13404
      refine WP_aload_n dX9_openChest_73 rfl ?_
      refine WP_getr dX9_openChest_74 fX9_75 rfl (lyx_is hy 53 4 rfl) (rfx hr 53 5 55 (by decide)) ?_
      refine WP_iload dX9_openChest_77 rfl ?_
      refine WQ_bipush (6) (6) dX9_openChest_79 rfl rfl (fun v13411 hv13411 => ?_)
      refine WQ_iadd dX9_openChest_81 (by omega) (by omega) (fun v13412 hv13412 => ?_)
      refine WP_dup2 dX9_openChest_82 rfl rfl ?_
      refine WQ_ialdu dX9_openChest_83 (lyx_is hy 55 13 rfl) (lyx_n hy 55 28 rfl) (by omega) (by omega) (fun v13413 => ?_)
      refine WP_iload dX9_openChest_84 rfl ?_
      refine WP_iload_n dX9_openChest_86 rfl ?_
      have knv13414 : 0 ≤ v13399.toInt * v13395.toInt := Int.mul_nonneg (by omega) (by omega)
      refine WQ_imulx dX9_openChest_87 (by omega) (by omega) (fun v13414 pv13414 => ?_)
      refine WQ_iaddu dX9_openChest_88 (fun v13415 => ?_)
      refine WQ_iast dX9_openChest_89 (lyx_is hy 55 13 rfl) (lyx_n hy 55 28 rfl) (by omega) (by omega) (fun I13416 eI13416 => ?_)
      have hI13416 : XI g n L I13416 := by rw [eI13416]; exact (fa_put hy hI13404 (c := 55) (k := 6) (s := v13392.toInt.toNat) (by decide) (by omega) (by decide) (by rw [cl (n := 7 * v13392.toInt.toNat + 6) (by omega)]) (fun h => absurd h (by decide)) (fun h => absurd h (by decide)))
      have e13417 : I13416 (ad g 1) 1 = L := by rw [eI13416, pp_ne _ _ (Or.inl (lyx_ne hy (by decide) (by decide) (by decide)))]; exact e13405
      have e13418 : I13416 (ad g 53) 0 = w13390 := by rw [eI13416, pp_ne _ _ (Or.inl (lyx_ne hy (by decide) (by decide) (by decide)))]; exact e13406
      have e13419 : I13416 (ad g 6) 3 = v13392 := by rw [eI13416, pp_ne _ _ (Or.inl (lyx_ne hy (by decide) (by decide) (by decide)))]; exact e13407
      have e13420 : I13416 (ad g 8) v13392.toNatClampNeg = v13395 := by rw [eI13416, pp_ne _ _ (Or.inl (lyx_ne hy (by decide) (by decide) (by decide)))]; exact e13408
      have e13421 : I13416 (ad g 53) 1 = v13403 := by rw [eI13416, pp_ne _ _ (Or.inl (lyx_ne hy (by decide) (by decide) (by decide)))]; exact e13409
      have fr13422 : fz 74 g [53, 55] I I13416 := by rw [eI13416]; exact fzx_pp hy fr13410 (by decide) (by decide)
      clear eI13416
      refine WP_aload_n dX9_openChest_90 rfl ?_
      refine WP_getr dX9_openChest_91 fX9_75 rfl (lyx_is hy 53 4 rfl) (rfx hr 53 5 55 (by decide)) ?_
      refine WP_iload dX9_openChest_94 rfl ?_
      refine WQ_iconst (0) (0) dX9_openChest_96 rfl rfl (fun v13423 hv13423 => ?_)
      refine WQ_iadd dX9_openChest_97 (by omega) (by omega) (fun v13424 hv13424 => ?_)
      refine WQ_bipush (60) (60) dX9_openChest_98 rfl rfl (fun v13425 hv13425 => ?_)
      refine WP_aload_n dX9_openChest_100 rfl ?_
      refine WP_getr dX9_openChest_101 fX9_75 rfl (lyx_is hy 53 4 rfl) (rfx hr 53 5 55 (by decide)) ?_
      refine WP_iload dX9_openChest_104 rfl ?_
      refine WQ_iconst (0) (0) dX9_openChest_106 rfl rfl (fun v13426 hv13426 => ?_)
      refine WQ_iadd dX9_openChest_107 (by omega) (by omega) (fun v13427 hv13427 => ?_)
      refine WQ_ialdf (q := 7 * v13392.toInt.toNat) dX9_openChest_108 (lyx_is hy 55 13 rfl) (lyx_n hy 55 28 rfl) (by omega) (by omega) (by omega) (fa_get0 hI13416 (c := 55) (by decide) (by omega)) (fun v13428 av13428 bv13428 => ?_)
      refine WP_iload dX9_openChest_109 rfl ?_
      refine WQ_iadd dX9_openChest_111 (by omega) (by omega) (fun v13429 hv13429 => ?_)
      refine WQ_min dX9_openChest_112 lX9_78 ⟨by decide, Nat.le_of_ble_eq_true rfl⟩ (fun v13430 av13430 bv13430 cv13430 => ?_)
      refine WQ_iast dX9_openChest_115 (lyx_is hy 55 13 rfl) (lyx_n hy 55 28 rfl) (by omega) (by omega) (fun I13431 eI13431 => ?_)
      have hI13431 : XI g n L I13431 := by rw [eI13431]; exact (fa_put hy hI13416 (c := 55) (k := 0) (s := v13392.toInt.toNat) (by decide) (by omega) (by decide) (by rw [cl (n := 7 * v13392.toInt.toNat + 0) (by omega)]) (fun _ => by omega) (fun _ => by omega))
      have e13432 : I13431 (ad g 1) 1 = L := by rw [eI13431, pp_ne _ _ (Or.inl (lyx_ne hy (by decide) (by decide) (by decide)))]; exact e13417
      have e13433 : I13431 (ad g 53) 0 = w13390 := by rw [eI13431, pp_ne _ _ (Or.inl (lyx_ne hy (by decide) (by decide) (by decide)))]; exact e13418
      have e13434 : I13431 (ad g 6) 3 = v13392 := by rw [eI13431, pp_ne _ _ (Or.inl (lyx_ne hy (by decide) (by decide) (by decide)))]; exact e13419
      have e13435 : I13431 (ad g 8) v13392.toNatClampNeg = v13395 := by rw [eI13431, pp_ne _ _ (Or.inl (lyx_ne hy (by decide) (by decide) (by decide)))]; exact e13420
      have e13436 : I13431 (ad g 53) 1 = v13403 := by rw [eI13431, pp_ne _ _ (Or.inl (lyx_ne hy (by decide) (by decide) (by decide)))]; exact e13421
      have fr13437 : fz 74 g [53, 55] I I13431 := by rw [eI13431]; exact fzx_pp hy fr13422 (by decide) (by decide)
      clear eI13431
      exact WP_vret dX9_openChest_116 rfl ⟨⟨hI13431, rfl, fr13437, frj0, ⟨(by rw [e13436, ew13391]; omega), (by rw [e13433, ew13390] <;> exact (eq32 _ _).mpr (by omega))⟩⟩, rfl⟩
    · exact WP_vret dX9_openChest_32 rfl ⟨⟨hI, rfl, fr0, frj0, ⟨(by omega), rfl⟩⟩, rfl⟩
set_option maxHeartbeats 4000000 in
set_option maxRecDepth 100000 in
theorem sx_wsleepf_53_6 {g : GG} {n : Int} {L : Int32} (hy : LyX g)  {I : pI} {J : pJ} {R : pR} (hr : RfX g R) (hT : R (ad g 5) 0 = some (ad g 6)) (hI : XI g n L I) (so : Int32) (da : Int32) (co : Int32) (st : Int32) (so_lo : 0 ≤ so.toInt) (so_hi : so.toInt ≤ 3) (da_lo : 0 ≤ da.toInt) (da_hi : da.toInt ≤ 6) (co_lo : 0 ≤ co.toInt) (co_hi : co.toInt ≤ 60) (st_lo : 0 ≤ st.toInt) (st_hi : st.toInt ≤ 5) (hn : 0 ≤ n ∧ n ≤ 40000) (hb : (I (ad g 53) 1).toInt ≤ 23760 * n + 0 - 5940) : SP g mX9_sleep [.ref (ad g 49), .ref (ad g 53), .int so, .int da, .int co, .int st] I J R (fun r I' J' R' => (XI g n L I' ∧ R' = R ∧ fz 74 g [53, 55] I I' ∧ fz 74 g [] J J' ∧ (I' (ad g 53) 1).toInt ≤ (I (ad g 53) 1).toInt + 5940 ∧ I' (ad g 53) 0 = I (ad g 53) 0) ∧ r = none) := by
  refine SP_of ⟨by decide, rfl⟩ (Nat.le_of_ble_eq_true rfl) ?_
  have e13438 : I (ad g 1) 1 = L := hI.2
  have b13439 := BT_get hI.1 1 1 2 (0) (0) (900) (by decide) 1 (by decide) (by decide)
  rw [e13438] at b13439
  have fr0 : fz 74 g [53, 55] I I := fz_rf
  have frj0 : fz 74 g [] J J := fz_rf
  obtain ⟨w13440, ew13440⟩ : ∃ w : Int32, I (ad g 53) 0 = w := ⟨_, rfl⟩
  obtain ⟨w13441, ew13441⟩ : ∃ w : Int32, I (ad g 53) 1 = w := ⟨_, rfl⟩
  have bw13441 := BT_get hI.1 53 1 2 (0) (23760) (0) (by decide) 1 (by decide) (by decide)
  rw [ew13441] at bw13441
  rw [ew13441] at hb
  refine WP_iload_n dX9_sleep_0 rfl ?_
  refine WQ_bipush (7) (7) dX9_sleep_1 rfl rfl (fun v13442 hv13442 => ?_)
  refine WQ_imulk (7) dX9_sleep_3 hv13442 (by omega) (by omega) (fun v13443 hv13443 => ?_)
  refine WP_istore (ls' := [(0, _), (1, _), (2, _), (3, _), (4, _), (5, _), (6, _)]) dX9_sleep_4 (by decide) rfl ?_
  refine WP_aload_n dX9_sleep_6 rfl ?_
  refine WP_getr dX9_sleep_7 fX9_25 rfl (lyx_is hy 49 9 rfl) (rfx hr 49 2 5 (by decide)) ?_
  refine WP_getr dX9_sleep_10 fX9_49 rfl (lyx_is hy 5 0 rfl) hT ?_
  refine WP_getr dX9_sleep_13 fX9_71 rfl (lyx_is hy 6 7 rfl) (rfx hr 6 6 8 (by decide)) ?_
  refine WP_iload_n dX9_sleep_16 rfl ?_
  refine WQ_iald dX9_sleep_17 (lyx_is hy 8 13 rfl) (lyx_n hy 8 4 rfl) (by omega) (by omega) (fun q hq => BT_get hI.1 8 0 4 (0) (0) (99) (by decide) q (Nat.zero_le _) hq) (fun v13444 av13444 bv13444 ev13444 => ?_)
  clear ev13444
  refine WP_istore (ls' := [(0, _), (1, _), (2, _), (3, _), (4, _), (5, _), (6, _), (7, _)]) dX9_sleep_18 (by decide) rfl ?_
  refine WP_iload dX9_sleep_20 rfl ?_
  refine WP_iload dX9_sleep_22 rfl ?_
  refine WP_aload_n dX9_sleep_24 rfl ?_
  refine WP_getr dX9_sleep_25 fX9_25 rfl (lyx_is hy 49 9 rfl) (rfx hr 49 2 5 (by decide)) ?_
  refine WP_getr dX9_sleep_28 fX9_128 rfl (lyx_is hy 5 0 rfl) (rfx hr 5 2 23 (by decide)) ?_
  refine WP_iload_n dX9_sleep_31 rfl ?_
  refine WQ_iald dX9_sleep_32 (lyx_is hy 23 13 rfl) (lyx_n hy 23 7 rfl) (by omega) (by omega) (fun q hq => BT_get hI.1 23 0 7 (0) (0) (900) (by decide) q (Nat.zero_le _) hq) (fun v13445 av13445 bv13445 ev13445 => ?_)
  clear ev13445
  refine WP_callN2 dX9_sleep_33 ⟨⟨⟨by decide, by decide⟩, zX10_stampsOf⟩, lX9_131, tX10_stampsOf⟩ (sx_stampsOf hy hr hI co v13445 (by omega) (by omega) (by omega) (by omega)) (Nat.le_of_ble_eq_true rfl) ?_
  intro r Ia Ja Ra hq
  obtain ⟨⟨ea, eb, ec⟩, v13446, rfl, av13446, bv13446, cv13446⟩ := hq
  show WP _ _ _ _ (.int _ :: _) _ _ _ _
  rw [ea, eb, ec]
  clear ea eb ec Ia Ja Ra
  refine WQ_imulb (99) (999) dX9_sleep_36 ⟨by omega, by omega⟩ ⟨by omega, by omega⟩ (by decide) (fun v13447 pv13447 av13447 bv13447 cv13447 => ?_)
  refine WP_istore (ls' := [(0, _), (1, _), (2, _), (3, _), (4, _), (5, _), (6, _), (7, _), (8, _)]) dX9_sleep_37 (by decide) rfl ?_
  refine WP_aload_n dX9_sleep_39 rfl ?_
  refine WP_getr dX9_sleep_40 fX9_25 rfl (lyx_is hy 49 9 rfl) (rfx hr 49 2 5 (by decide)) ?_
  refine WP_getr dX9_sleep_43 fX9_134 rfl (lyx_is hy 5 0 rfl) (rfx hr 5 5 26 (by decide)) ?_
  refine WP_iload dX9_sleep_46 rfl ?_
  refine WQ_iald dX9_sleep_48 (lyx_is hy 26 13 rfl) (lyx_n hy 26 6 rfl) (by omega) (by omega) (fun q hq => BT_get hI.1 26 0 6 (0) (0) (5) (by decide) q (Nat.zero_le _) hq) (fun v13448 av13448 bv13448 ev13448 => ?_)
  clear ev13448
  refine WP_istore (ls' := [(0, _), (1, _), (2, _), (3, _), (4, _), (5, _), (6, _), (7, _), (8, _), (9, _)]) dX9_sleep_49 (by decide) rfl ?_
  refine WP_aload_n dX9_sleep_51 rfl ?_
  refine WP_dup dX9_sleep_52 rfl ?_
  refine WQ_getim dX9_sleep_53 fX9_74 rfl (lyx_is hy 53 4 rfl) ew13441 ?_
  refine WP_iload dX9_sleep_56 rfl ?_
  refine WQ_iadd dX9_sleep_58 (by omega) (by omega) (fun v13449 hv13449 => ?_)
  refine WQ_puti dX9_sleep_59 fX9_74 rfl rfl (lyx_is hy 53 4 rfl) (fun I13450 eI13450 => ?_)
  have hI13450 : XI g n L I13450 := by rw [eI13450]; exact (xi_f hy hI (c := 53) (0) (23760) (0) (by decide) (Or.inl (by decide)) (by decide) (by omega) (by omega))
  have e13451 : I13450 (ad g 1) 1 = L := by rw [eI13450, pp_ne _ _ (Or.inl (lyx_ne hy (by decide) (by decide) (by decide)))]; exact e13438
  have e13452 : I13450 (ad g 53) 0 = w13440 := by rw [eI13450, pp_ne _ _ (Or.inr (by decide))]; exact ew13440
  have e13453 : I13450 (ad g 53) 1 = v13449 := by rw [eI13450, pp_self]
  have fr13454 : fz 74 g [53, 55] I I13450 := by rw [eI13450]; exact fzx_pp hy fr0 (by decide) (by decide)
  clear eI13450
  refine WP_aload_n dX9_sleep_62 rfl ?_
  refine WP_getr dX9_sleep_63 fX9_75 rfl (lyx_is hy 53 4 rfl) (rfx hr 53 5 55 (by decide)) ?_
  refine WP_iload dX9_sleep_66 rfl ?_
  refine WQ_iconst (3) (3) dX9_sleep_68 rfl rfl (fun v13455 hv13455 => ?_)
  refine WQ_iadd dX9_sleep_69 (by omega) (by omega) (fun v13456 hv13456 => ?_)
  refine WP_dup2 dX9_sleep_70 rfl rfl ?_
  refine WQ_ialdu dX9_sleep_71 (lyx_is hy 55 13 rfl) (lyx_n hy 55 28 rfl) (by omega) (by omega) (fun v13457 => ?_)
  refine WP_iload dX9_sleep_72 rfl ?_
  refine WQ_iaddu dX9_sleep_74 (fun v13458 => ?_)
  refine WQ_iast dX9_sleep_75 (lyx_is hy 55 13 rfl) (lyx_n hy 55 28 rfl) (by omega) (by omega) (fun I13459 eI13459 => ?_)
  have hI13459 : XI g n L I13459 := by rw [eI13459]; exact (fa_put hy hI13450 (c := 55) (k := 3) (s := so.toInt.toNat) (by decide) (by omega) (by decide) (by rw [cl (n := 7 * so.toInt.toNat + 3) (by omega)]) (fun h => absurd h (by decide)) (fun h => absurd h (by decide)))
  have e13460 : I13459 (ad g 1) 1 = L := by rw [eI13459, pp_ne _ _ (Or.inl (lyx_ne hy (by decide) (by decide) (by decide)))]; exact e13451
  have e13461 : I13459 (ad g 53) 0 = w13440 := by rw [eI13459, pp_ne _ _ (Or.inl (lyx_ne hy (by decide) (by decide) (by decide)))]; exact e13452
  have e13462 : I13459 (ad g 53) 1 = v13449 := by rw [eI13459, pp_ne _ _ (Or.inl (lyx_ne hy (by decide) (by decide) (by decide)))]; exact e13453
  have fr13463 : fz 74 g [53, 55] I I13459 := by rw [eI13459]; exact fzx_pp hy fr13454 (by decide) (by decide)
  clear eI13459
  refine WP_aload_n dX9_sleep_76 rfl ?_
  refine WP_getr dX9_sleep_77 fX9_75 rfl (lyx_is hy 53 4 rfl) (rfx hr 53 5 55 (by decide)) ?_
  refine WP_iload dX9_sleep_80 rfl ?_
  refine WQ_iconst (5) (5) dX9_sleep_82 rfl rfl (fun v13464 hv13464 => ?_)
  refine WQ_iadd dX9_sleep_83 (by omega) (by omega) (fun v13465 hv13465 => ?_)
  refine WP_dup2 dX9_sleep_84 rfl rfl ?_
  refine WQ_ialdu dX9_sleep_85 (lyx_is hy 55 13 rfl) (lyx_n hy 55 28 rfl) (by omega) (by omega) (fun v13466 => ?_)
  refine WP_iload dX9_sleep_86 rfl ?_
  refine WP_iload dX9_sleep_88 rfl ?_
  refine WP_iload dX9_sleep_90 rfl ?_
  refine WQ_isub dX9_sleep_92 (by omega) (by omega) (fun v13467 hv13467 => ?_)
  refine WQ_imulu dX9_sleep_93 (fun v13468 => ?_)
  refine WQ_iaddu dX9_sleep_94 (fun v13469 => ?_)
  refine WQ_iast dX9_sleep_95 (lyx_is hy 55 13 rfl) (lyx_n hy 55 28 rfl) (by omega) (by omega) (fun I13470 eI13470 => ?_)
  have hI13470 : XI g n L I13470 := by rw [eI13470]; exact (fa_put hy hI13459 (c := 55) (k := 5) (s := so.toInt.toNat) (by decide) (by omega) (by decide) (by rw [cl (n := 7 * so.toInt.toNat + 5) (by omega)]) (fun h => absurd h (by decide)) (fun h => absurd h (by decide)))
  have e13471 : I13470 (ad g 1) 1 = L := by rw [eI13470, pp_ne _ _ (Or.inl (lyx_ne hy (by decide) (by decide) (by decide)))]; exact e13460
  have e13472 : I13470 (ad g 53) 0 = w13440 := by rw [eI13470, pp_ne _ _ (Or.inl (lyx_ne hy (by decide) (by decide) (by decide)))]; exact e13461
  have e13473 : I13470 (ad g 53) 1 = v13449 := by rw [eI13470, pp_ne _ _ (Or.inl (lyx_ne hy (by decide) (by decide) (by decide)))]; exact e13462
  have fr13474 : fz 74 g [53, 55] I I13470 := by rw [eI13470]; exact fzx_pp hy fr13463 (by decide) (by decide)
  clear eI13470
  refine WP_aload_n dX9_sleep_96 rfl ?_
  refine WP_getr dX9_sleep_97 fX9_75 rfl (lyx_is hy 53 4 rfl) (rfx hr 53 5 55 (by decide)) ?_
  refine WP_iload dX9_sleep_100 rfl ?_
  refine WQ_iconst (0) (0) dX9_sleep_102 rfl rfl (fun v13475 hv13475 => ?_)
  refine WQ_iadd dX9_sleep_103 (by omega) (by omega) (fun v13476 hv13476 => ?_)
  refine WP_aload_n dX9_sleep_104 rfl ?_
  refine WP_getr dX9_sleep_105 fX9_25 rfl (lyx_is hy 49 9 rfl) (rfx hr 49 2 5 (by decide)) ?_
  refine WP_iload dX9_sleep_108 rfl ?_
  refine WP_iload dX9_sleep_110 rfl ?_
  refine WP_iload_n dX9_sleep_112 rfl ?_
  refine WP_callV3 (k := 0) dX9_sleep_113 ⟨⟨⟨by decide, by decide⟩, zX0_coinsBehind⟩, lX9_137, by decide, rfl, vX0_coinsBehind.1, vX0_coinsBehind.2⟩ (lyx_is hy 5 0 rfl) (sx_cbx hy hr hI13470 co st da (by omega) (by omega) (by omega) (by omega) (by omega) (by omega)) (Nat.le_of_ble_eq_true rfl) ?_
  intro r Ia Ja Ra hq
  obtain ⟨⟨ea, eb, ec⟩, v13477, rfl, av13477, bv13477, cv13477⟩ := hq
  show WP _ _ _ _ (.int _ :: _) _ _ _ _
  rw [ea, eb, ec]
  clear ea eb ec Ia Ja Ra
  refine WQ_iast dX9_sleep_116 (lyx_is hy 55 13 rfl) (lyx_n hy 55 28 rfl) (by omega) (by omega) (fun I13478 eI13478 => ?_)
  have hI13478 : XI g n L I13478 := by rw [eI13478]; exact (fa_put hy hI13470 (c := 55) (k := 0) (s := so.toInt.toNat) (by decide) (by omega) (by decide) (by rw [cl (n := 7 * so.toInt.toNat + 0) (by omega)]) (fun _ => by omega) (fun _ => by omega))
  have e13479 : I13478 (ad g 1) 1 = L := by rw [eI13478, pp_ne _ _ (Or.inl (lyx_ne hy (by decide) (by decide) (by decide)))]; exact e13471
  have e13480 : I13478 (ad g 53) 0 = w13440 := by rw [eI13478, pp_ne _ _ (Or.inl (lyx_ne hy (by decide) (by decide) (by decide)))]; exact e13472
  have e13481 : I13478 (ad g 53) 1 = v13449 := by rw [eI13478, pp_ne _ _ (Or.inl (lyx_ne hy (by decide) (by decide) (by decide)))]; exact e13473
  have fr13482 : fz 74 g [53, 55] I I13478 := by rw [eI13478]; exact fzx_pp hy fr13474 (by decide) (by decide)
  clear eI13478
  refine WP_aload_n dX9_sleep_117 rfl ?_
  refine WP_getr dX9_sleep_118 fX9_75 rfl (lyx_is hy 53 4 rfl) (rfx hr 53 5 55 (by decide)) ?_
  refine WP_iload dX9_sleep_121 rfl ?_
  refine WQ_iconst (1) (1) dX9_sleep_123 rfl rfl (fun v13483 hv13483 => ?_)
  refine WQ_iadd dX9_sleep_124 (by omega) (by omega) (fun v13484 hv13484 => ?_)
  refine WP_iload dX9_sleep_125 rfl ?_
  refine WQ_iast dX9_sleep_127 (lyx_is hy 55 13 rfl) (lyx_n hy 55 28 rfl) (by omega) (by omega) (fun I13485 eI13485 => ?_)
  have hI13485 : XI g n L I13485 := by rw [eI13485]; exact (fa_put hy hI13478 (c := 55) (k := 1) (s := so.toInt.toNat) (by decide) (by omega) (by decide) (by rw [cl (n := 7 * so.toInt.toNat + 1) (by omega)]) (fun _ => by omega) (fun _ => by omega))
  have e13486 : I13485 (ad g 1) 1 = L := by rw [eI13485, pp_ne _ _ (Or.inl (lyx_ne hy (by decide) (by decide) (by decide)))]; exact e13479
  have e13487 : I13485 (ad g 53) 0 = w13440 := by rw [eI13485, pp_ne _ _ (Or.inl (lyx_ne hy (by decide) (by decide) (by decide)))]; exact e13480
  have e13488 : I13485 (ad g 53) 1 = v13449 := by rw [eI13485, pp_ne _ _ (Or.inl (lyx_ne hy (by decide) (by decide) (by decide)))]; exact e13481
  have fr13489 : fz 74 g [53, 55] I I13485 := by rw [eI13485]; exact fzx_pp hy fr13482 (by decide) (by decide)
  clear eI13485
  exact WP_vret dX9_sleep_128 rfl ⟨⟨hI13485, rfl, fr13489, frj0, ⟨(by rw [e13488, ew13441]; omega), (by rw [e13487, ew13440] <;> exact (eq32 _ _).mpr (by omega))⟩⟩, rfl⟩
set_option maxHeartbeats 4000000 in
set_option maxRecDepth 100000 in
theorem sx_openChestf_53_27 {g : GG} {n : Int} {L : Int32} (hy : LyX g)  {I : pI} {J : pJ} {R : pR} (hr : RfX g R) (hT : R (ad g 5) 0 = some (ad g 27)) (hI : XI g n L I)   (hn : 0 ≤ n ∧ n ≤ 40000) : SP g mX9_openChest [.ref (ad g 49), .ref (ad g 53)] I J R (fun r I' J' R' => (XI g n L I' ∧ R' = R ∧ fz 74 g [53, 55] I I' ∧ fz 74 g [] J J' ∧ (I' (ad g 53) 1).toInt ≤ (I (ad g 53) 1).toInt ∧ I' (ad g 53) 0 = I (ad g 53) 0) ∧ r = none) := by
  refine SP_of ⟨by decide, rfl⟩ (Nat.le_of_ble_eq_true rfl) ?_
  have e13490 : I (ad g 1) 1 = L := hI.2
  have b13491 := BT_get hI.1 1 1 2 (0) (0) (900) (by decide) 1 (by decide) (by decide)
  rw [e13490] at b13491
  have fr0 : fz 74 g [53, 55] I I := fz_rf
  have frj0 : fz 74 g [] J J := fz_rf
  obtain ⟨w13492, ew13492⟩ : ∃ w : Int32, I (ad g 53) 0 = w := ⟨_, rfl⟩
  obtain ⟨w13493, ew13493⟩ : ∃ w : Int32, I (ad g 53) 1 = w := ⟨_, rfl⟩
  have bw13493 := BT_get hI.1 53 1 2 (0) (23760) (0) (by decide) 1 (by decide) (by decide)
  rw [ew13493] at bw13493
  refine WP_aload_n dX9_openChest_0 rfl ?_
  refine WP_getr dX9_openChest_1 fX9_25 rfl (lyx_is hy 49 9 rfl) (rfx hr 49 2 5 (by decide)) ?_
  refine WP_getr dX9_openChest_4 fX9_49 rfl (lyx_is hy 5 0 rfl) hT ?_
  refine WQ_geti dX9_openChest_7 fX9_68 rfl (lyx_is hy 27 7 rfl) (BT_get hI.1 27 3 4 (-1) (0) (3) (by decide) 3 (by decide) (by decide)) (fun v13494 ev13494 av13494 bv13494 => ?_)
  refine WP_istore_n (ls' := [(0, _), (1, _), (2, _)]) dX9_openChest_10 (by decide) rfl ?_
  refine WP_iload_n dX9_openChest_11 rfl ?_
  refine WQ_iconst (-1) (-1) dX9_openChest_12 rfl rfl (fun v13495 hv13495 => ?_)
  refine WQ_icmp_eq 32 dX9_openChest_13 rfl (fun c13495 => ?_) (fun c13495 => ?_)
  · exact WP_vret dX9_openChest_32 rfl ⟨⟨hI, rfl, fr0, frj0, ⟨(by omega), rfl⟩⟩, rfl⟩
  · refine WP_aload_n dX9_openChest_16 rfl ?_
    refine WP_getr dX9_openChest_17 fX9_25 rfl (lyx_is hy 49 9 rfl) (rfx hr 49 2 5 (by decide)) ?_
    refine WP_getr dX9_openChest_20 fX9_49 rfl (lyx_is hy 5 0 rfl) hT ?_
    refine WP_getr dX9_openChest_23 fX9_71 rfl (lyx_is hy 27 7 rfl) (rfx hr 27 6 29 (by decide)) ?_
    refine WP_iload_n dX9_openChest_26 rfl ?_
    refine WQ_iald dX9_openChest_27 (lyx_is hy 29 13 rfl) (lyx_n hy 29 4 rfl) (by omega) (by omega) (fun q hq => BT_get hI.1 29 0 4 (0) (0) (99) (by decide) q (Nat.zero_le _) hq) (fun v13497 av13497 bv13497 ev13497 => ?_)
    refine WQ_iconst (1) (1) dX9_openChest_28 rfl rfl (fun v13498 hv13498 => ?_)
    refine WQ_icmp_ge 33 dX9_openChest_29 rfl (fun c13498 => ?_) (fun c13498 => ?_)
    · refine WP_aload_n dX9_openChest_33 rfl ?_
      refine WP_getr dX9_openChest_34 fX9_25 rfl (lyx_is hy 49 9 rfl) (rfx hr 49 2 5 (by decide)) ?_
      refine WP_getr dX9_openChest_37 fX9_49 rfl (lyx_is hy 5 0 rfl) hT ?_
      refine WP_getr dX9_openChest_40 fX9_71 rfl (lyx_is hy 27 7 rfl) (rfx hr 27 6 29 (by decide)) ?_
      refine WP_iload_n dX9_openChest_43 rfl ?_
      refine WQ_ialde dX9_openChest_44 (lyx_is hy 29 13 rfl) (lyx_n hy 29 4 rfl) (by omega) (by omega) ev13497 ?_
      refine WP_istore_n (ls' := [(0, _), (1, _), (2, _), (3, _)]) dX9_openChest_45 (by decide) rfl ?_
      refine WP_aload_n dX9_openChest_46 rfl ?_
      refine WQ_getim dX9_openChest_47 fX9_74 rfl (lyx_is hy 53 4 rfl) ew13493 ?_
      refine WP_iload_n dX9_openChest_50 rfl ?_
      refine WQ_idivb dX9_openChest_51 (by omega) (by omega) (fun v13501 pv13501 av13501 bv13501 cv13501 => ?_)
      refine WP_istore (ls' := [(0, _), (1, _), (2, _), (3, _), (4, _)]) dX9_openChest_52 (by decide) rfl ?_
      refine WP_iload_n dX9_openChest_54 rfl ?_
      refine WQ_bipush (7) (7) dX9_openChest_55 rfl rfl (fun v13502 hv13502 => ?_)
      refine WQ_imulk (7) dX9_openChest_57 hv13502 (by omega) (by omega) (fun v13503 hv13503 => ?_)
      refine WP_istore (ls' := [(0, _), (1, _), (2, _), (3, _), (4, _), (5, _)]) dX9_openChest_58 (by decide) rfl ?_
      refine WP_aload_n dX9_openChest_60 rfl ?_
      refine WP_dup dX9_openChest_61 rfl ?_
      refine WQ_getim dX9_openChest_62 fX9_74 rfl (lyx_is hy 53 4 rfl) ew13493 ?_
      refine WP_iload dX9_openChest_65 rfl ?_
      refine WP_iload_n dX9_openChest_67 rfl ?_
      have knv13504 : 0 ≤ v13501.toInt * v13497.toInt := Int.mul_nonneg (by omega) (by omega)
      refine WQ_imulx dX9_openChest_68 (by omega) (by omega) (fun v13504 pv13504 => ?_)
      refine WQ_isub dX9_openChest_69 (by omega) (by omega) (fun v13505 hv13505 => ?_)
      refine WQ_puti dX9_openChest_70 fX9_74 rfl rfl (lyx_is hy 53 4 rfl) (fun I13506 eI13506 => ?_)
      have hI13506 : XI g n L I13506 := by rw [eI13506]; exact (xi_f hy hI (c := 53) (0) (23760) (0) (by decide) (Or.inl (by decide)) (by decide) (by omega) (by omega))
      have e13507 : I13506 (ad g 1) 1 = L := by rw [eI13506, pp_ne _ _ (Or.inl (lyx_ne hy (by decide) (by decide) (by decide)))]; exact e13490
      have e13508 : I13506 (ad g 53) 0 = w13492 := by rw [eI13506, pp_ne _ _ (Or.inr (by decide))]; exact ew13492
      have e13509 : I13506 (ad g 27) 3 = v13494 := by rw [eI13506, pp_ne _ _ (Or.inl (lyx_ne hy (by decide) (by decide) (by decide)))]; exact ev13494
      have e13510 : I13506 (ad g 29) v13494.toNatClampNeg = v13497 := by rw [eI13506, pp_ne _ _ (Or.inl (lyx_ne hy (by decide) (by decide) (by decide)))]; exact ev13497
      have e13511 : I13506 (ad g 53) 1 = v13505 := by rw [eI13506, pp_self]
      have fr13512 : fz 74 g [53, 55] I I13506 := by rw [eI13506]; exact fzx_pp hy fr0 (by decide) (by decide)
      clear eI13506
      refine WP_aload_n dX9_openChest_73 rfl ?_
      refine WP_getr dX9_openChest_74 fX9_75 rfl (lyx_is hy 53 4 rfl) (rfx hr 53 5 55 (by decide)) ?_
      refine WP_iload dX9_openChest_77 rfl ?_
      refine WQ_bipush (6) (6) dX9_openChest_79 rfl rfl (fun v13513 hv13513 => ?_)
      refine WQ_iadd dX9_openChest_81 (by omega) (by omega) (fun v13514 hv13514 => ?_)
      refine WP_dup2 dX9_openChest_82 rfl rfl ?_
      refine WQ_ialdu dX9_openChest_83 (lyx_is hy 55 13 rfl) (lyx_n hy 55 28 rfl) (by omega) (by omega) (fun v13515 => ?_)
      refine WP_iload dX9_openChest_84 rfl ?_
      refine WP_iload_n dX9_openChest_86 rfl ?_
      have knv13516 : 0 ≤ v13501.toInt * v13497.toInt := Int.mul_nonneg (by omega) (by omega)
      refine WQ_imulx dX9_openChest_87 (by omega) (by omega) (fun v13516 pv13516 => ?_)
      refine WQ_iaddu dX9_openChest_88 (fun v13517 => ?_)
      refine WQ_iast dX9_openChest_89 (lyx_is hy 55 13 rfl) (lyx_n hy 55 28 rfl) (by omega) (by omega) (fun I13518 eI13518 => ?_)
      have hI13518 : XI g n L I13518 := by rw [eI13518]; exact (fa_put hy hI13506 (c := 55) (k := 6) (s := v13494.toInt.toNat) (by decide) (by omega) (by decide) (by rw [cl (n := 7 * v13494.toInt.toNat + 6) (by omega)]) (fun h => absurd h (by decide)) (fun h => absurd h (by decide)))
      have e13519 : I13518 (ad g 1) 1 = L := by rw [eI13518, pp_ne _ _ (Or.inl (lyx_ne hy (by decide) (by decide) (by decide)))]; exact e13507
      have e13520 : I13518 (ad g 53) 0 = w13492 := by rw [eI13518, pp_ne _ _ (Or.inl (lyx_ne hy (by decide) (by decide) (by decide)))]; exact e13508
      have e13521 : I13518 (ad g 27) 3 = v13494 := by rw [eI13518, pp_ne _ _ (Or.inl (lyx_ne hy (by decide) (by decide) (by decide)))]; exact e13509
      have e13522 : I13518 (ad g 29) v13494.toNatClampNeg = v13497 := by rw [eI13518, pp_ne _ _ (Or.inl (lyx_ne hy (by decide) (by decide) (by decide)))]; exact e13510
      have e13523 : I13518 (ad g 53) 1 = v13505 := by rw [eI13518, pp_ne _ _ (Or.inl (lyx_ne hy (by decide) (by decide) (by decide)))]; exact e13511
      have fr13524 : fz 74 g [53, 55] I I13518 := by rw [eI13518]; exact fzx_pp hy fr13512 (by decide) (by decide)
      clear eI13518
      refine WP_aload_n dX9_openChest_90 rfl ?_
      refine WP_getr dX9_openChest_91 fX9_75 rfl (lyx_is hy 53 4 rfl) (rfx hr 53 5 55 (by decide)) ?_
      refine WP_iload dX9_openChest_94 rfl ?_
      refine WQ_iconst (0) (0) dX9_openChest_96 rfl rfl (fun v13525 hv13525 => ?_)
      refine WQ_iadd dX9_openChest_97 (by omega) (by omega) (fun v13526 hv13526 => ?_)
      refine WQ_bipush (60) (60) dX9_openChest_98 rfl rfl (fun v13527 hv13527 => ?_)
      refine WP_aload_n dX9_openChest_100 rfl ?_
      refine WP_getr dX9_openChest_101 fX9_75 rfl (lyx_is hy 53 4 rfl) (rfx hr 53 5 55 (by decide)) ?_
      refine WP_iload dX9_openChest_104 rfl ?_
      refine WQ_iconst (0) (0) dX9_openChest_106 rfl rfl (fun v13528 hv13528 => ?_)
      refine WQ_iadd dX9_openChest_107 (by omega) (by omega) (fun v13529 hv13529 => ?_)
      refine WQ_ialdf (q := 7 * v13494.toInt.toNat) dX9_openChest_108 (lyx_is hy 55 13 rfl) (lyx_n hy 55 28 rfl) (by omega) (by omega) (by omega) (fa_get0 hI13518 (c := 55) (by decide) (by omega)) (fun v13530 av13530 bv13530 => ?_)
      refine WP_iload dX9_openChest_109 rfl ?_
      refine WQ_iadd dX9_openChest_111 (by omega) (by omega) (fun v13531 hv13531 => ?_)
      refine WQ_min dX9_openChest_112 lX9_78 ⟨by decide, Nat.le_of_ble_eq_true rfl⟩ (fun v13532 av13532 bv13532 cv13532 => ?_)
      refine WQ_iast dX9_openChest_115 (lyx_is hy 55 13 rfl) (lyx_n hy 55 28 rfl) (by omega) (by omega) (fun I13533 eI13533 => ?_)
      have hI13533 : XI g n L I13533 := by rw [eI13533]; exact (fa_put hy hI13518 (c := 55) (k := 0) (s := v13494.toInt.toNat) (by decide) (by omega) (by decide) (by rw [cl (n := 7 * v13494.toInt.toNat + 0) (by omega)]) (fun _ => by omega) (fun _ => by omega))
      have e13534 : I13533 (ad g 1) 1 = L := by rw [eI13533, pp_ne _ _ (Or.inl (lyx_ne hy (by decide) (by decide) (by decide)))]; exact e13519
      have e13535 : I13533 (ad g 53) 0 = w13492 := by rw [eI13533, pp_ne _ _ (Or.inl (lyx_ne hy (by decide) (by decide) (by decide)))]; exact e13520
      have e13536 : I13533 (ad g 27) 3 = v13494 := by rw [eI13533, pp_ne _ _ (Or.inl (lyx_ne hy (by decide) (by decide) (by decide)))]; exact e13521
      have e13537 : I13533 (ad g 29) v13494.toNatClampNeg = v13497 := by rw [eI13533, pp_ne _ _ (Or.inl (lyx_ne hy (by decide) (by decide) (by decide)))]; exact e13522
      have e13538 : I13533 (ad g 53) 1 = v13505 := by rw [eI13533, pp_ne _ _ (Or.inl (lyx_ne hy (by decide) (by decide) (by decide)))]; exact e13523
      have fr13539 : fz 74 g [53, 55] I I13533 := by rw [eI13533]; exact fzx_pp hy fr13524 (by decide) (by decide)
      clear eI13533
      exact WP_vret dX9_openChest_116 rfl ⟨⟨hI13533, rfl, fr13539, frj0, ⟨(by rw [e13538, ew13493]; omega), (by rw [e13535, ew13492] <;> exact (eq32 _ _).mpr (by omega))⟩⟩, rfl⟩
    · exact WP_vret dX9_openChest_32 rfl ⟨⟨hI, rfl, fr0, frj0, ⟨(by omega), rfl⟩⟩, rfl⟩
set_option maxHeartbeats 4000000 in
set_option maxRecDepth 100000 in
theorem sx_wsleepf_53_27 {g : GG} {n : Int} {L : Int32} (hy : LyX g)  {I : pI} {J : pJ} {R : pR} (hr : RfX g R) (hT : R (ad g 5) 0 = some (ad g 27)) (hI : XI g n L I) (so : Int32) (da : Int32) (co : Int32) (st : Int32) (so_lo : 0 ≤ so.toInt) (so_hi : so.toInt ≤ 3) (da_lo : 0 ≤ da.toInt) (da_hi : da.toInt ≤ 6) (co_lo : 0 ≤ co.toInt) (co_hi : co.toInt ≤ 60) (st_lo : 0 ≤ st.toInt) (st_hi : st.toInt ≤ 5) (hn : 0 ≤ n ∧ n ≤ 40000) (hb : (I (ad g 53) 1).toInt ≤ 23760 * n + 0 - 5940) : SP g mX9_sleep [.ref (ad g 49), .ref (ad g 53), .int so, .int da, .int co, .int st] I J R (fun r I' J' R' => (XI g n L I' ∧ R' = R ∧ fz 74 g [53, 55] I I' ∧ fz 74 g [] J J' ∧ (I' (ad g 53) 1).toInt ≤ (I (ad g 53) 1).toInt + 5940 ∧ I' (ad g 53) 0 = I (ad g 53) 0) ∧ r = none) := by
  refine SP_of ⟨by decide, rfl⟩ (Nat.le_of_ble_eq_true rfl) ?_
  have e13540 : I (ad g 1) 1 = L := hI.2
  have b13541 := BT_get hI.1 1 1 2 (0) (0) (900) (by decide) 1 (by decide) (by decide)
  rw [e13540] at b13541
  have fr0 : fz 74 g [53, 55] I I := fz_rf
  have frj0 : fz 74 g [] J J := fz_rf
  obtain ⟨w13542, ew13542⟩ : ∃ w : Int32, I (ad g 53) 0 = w := ⟨_, rfl⟩
  obtain ⟨w13543, ew13543⟩ : ∃ w : Int32, I (ad g 53) 1 = w := ⟨_, rfl⟩
  have bw13543 := BT_get hI.1 53 1 2 (0) (23760) (0) (by decide) 1 (by decide) (by decide)
  rw [ew13543] at bw13543
  rw [ew13543] at hb
  refine WP_iload_n dX9_sleep_0 rfl ?_
  refine WQ_bipush (7) (7) dX9_sleep_1 rfl rfl (fun v13544 hv13544 => ?_)
  refine WQ_imulk (7) dX9_sleep_3 hv13544 (by omega) (by omega) (fun v13545 hv13545 => ?_)
  refine WP_istore (ls' := [(0, _), (1, _), (2, _), (3, _), (4, _), (5, _), (6, _)]) dX9_sleep_4 (by decide) rfl ?_
  refine WP_aload_n dX9_sleep_6 rfl ?_
  refine WP_getr dX9_sleep_7 fX9_25 rfl (lyx_is hy 49 9 rfl) (rfx hr 49 2 5 (by decide)) ?_
  refine WP_getr dX9_sleep_10 fX9_49 rfl (lyx_is hy 5 0 rfl) hT ?_
  refine WP_getr dX9_sleep_13 fX9_71 rfl (lyx_is hy 27 7 rfl) (rfx hr 27 6 29 (by decide)) ?_
  refine WP_iload_n dX9_sleep_16 rfl ?_
  refine WQ_iald dX9_sleep_17 (lyx_is hy 29 13 rfl) (lyx_n hy 29 4 rfl) (by omega) (by omega) (fun q hq => BT_get hI.1 29 0 4 (0) (0) (99) (by decide) q (Nat.zero_le _) hq) (fun v13546 av13546 bv13546 ev13546 => ?_)
  clear ev13546
  refine WP_istore (ls' := [(0, _), (1, _), (2, _), (3, _), (4, _), (5, _), (6, _), (7, _)]) dX9_sleep_18 (by decide) rfl ?_
  refine WP_iload dX9_sleep_20 rfl ?_
  refine WP_iload dX9_sleep_22 rfl ?_
  refine WP_aload_n dX9_sleep_24 rfl ?_
  refine WP_getr dX9_sleep_25 fX9_25 rfl (lyx_is hy 49 9 rfl) (rfx hr 49 2 5 (by decide)) ?_
  refine WP_getr dX9_sleep_28 fX9_128 rfl (lyx_is hy 5 0 rfl) (rfx hr 5 2 23 (by decide)) ?_
  refine WP_iload_n dX9_sleep_31 rfl ?_
  refine WQ_iald dX9_sleep_32 (lyx_is hy 23 13 rfl) (lyx_n hy 23 7 rfl) (by omega) (by omega) (fun q hq => BT_get hI.1 23 0 7 (0) (0) (900) (by decide) q (Nat.zero_le _) hq) (fun v13547 av13547 bv13547 ev13547 => ?_)
  clear ev13547
  refine WP_callN2 dX9_sleep_33 ⟨⟨⟨by decide, by decide⟩, zX10_stampsOf⟩, lX9_131, tX10_stampsOf⟩ (sx_stampsOf hy hr hI co v13547 (by omega) (by omega) (by omega) (by omega)) (Nat.le_of_ble_eq_true rfl) ?_
  intro r Ia Ja Ra hq
  obtain ⟨⟨ea, eb, ec⟩, v13548, rfl, av13548, bv13548, cv13548⟩ := hq
  show WP _ _ _ _ (.int _ :: _) _ _ _ _
  rw [ea, eb, ec]
  clear ea eb ec Ia Ja Ra
  refine WQ_imulb (99) (999) dX9_sleep_36 ⟨by omega, by omega⟩ ⟨by omega, by omega⟩ (by decide) (fun v13549 pv13549 av13549 bv13549 cv13549 => ?_)
  refine WP_istore (ls' := [(0, _), (1, _), (2, _), (3, _), (4, _), (5, _), (6, _), (7, _), (8, _)]) dX9_sleep_37 (by decide) rfl ?_
  refine WP_aload_n dX9_sleep_39 rfl ?_
  refine WP_getr dX9_sleep_40 fX9_25 rfl (lyx_is hy 49 9 rfl) (rfx hr 49 2 5 (by decide)) ?_
  refine WP_getr dX9_sleep_43 fX9_134 rfl (lyx_is hy 5 0 rfl) (rfx hr 5 5 26 (by decide)) ?_
  refine WP_iload dX9_sleep_46 rfl ?_
  refine WQ_iald dX9_sleep_48 (lyx_is hy 26 13 rfl) (lyx_n hy 26 6 rfl) (by omega) (by omega) (fun q hq => BT_get hI.1 26 0 6 (0) (0) (5) (by decide) q (Nat.zero_le _) hq) (fun v13550 av13550 bv13550 ev13550 => ?_)
  clear ev13550
  refine WP_istore (ls' := [(0, _), (1, _), (2, _), (3, _), (4, _), (5, _), (6, _), (7, _), (8, _), (9, _)]) dX9_sleep_49 (by decide) rfl ?_
  refine WP_aload_n dX9_sleep_51 rfl ?_
  refine WP_dup dX9_sleep_52 rfl ?_
  refine WQ_getim dX9_sleep_53 fX9_74 rfl (lyx_is hy 53 4 rfl) ew13543 ?_
  refine WP_iload dX9_sleep_56 rfl ?_
  refine WQ_iadd dX9_sleep_58 (by omega) (by omega) (fun v13551 hv13551 => ?_)
  refine WQ_puti dX9_sleep_59 fX9_74 rfl rfl (lyx_is hy 53 4 rfl) (fun I13552 eI13552 => ?_)
  have hI13552 : XI g n L I13552 := by rw [eI13552]; exact (xi_f hy hI (c := 53) (0) (23760) (0) (by decide) (Or.inl (by decide)) (by decide) (by omega) (by omega))
  have e13553 : I13552 (ad g 1) 1 = L := by rw [eI13552, pp_ne _ _ (Or.inl (lyx_ne hy (by decide) (by decide) (by decide)))]; exact e13540
  have e13554 : I13552 (ad g 53) 0 = w13542 := by rw [eI13552, pp_ne _ _ (Or.inr (by decide))]; exact ew13542
  have e13555 : I13552 (ad g 53) 1 = v13551 := by rw [eI13552, pp_self]
  have fr13556 : fz 74 g [53, 55] I I13552 := by rw [eI13552]; exact fzx_pp hy fr0 (by decide) (by decide)
  clear eI13552
  refine WP_aload_n dX9_sleep_62 rfl ?_
  refine WP_getr dX9_sleep_63 fX9_75 rfl (lyx_is hy 53 4 rfl) (rfx hr 53 5 55 (by decide)) ?_
  refine WP_iload dX9_sleep_66 rfl ?_
  refine WQ_iconst (3) (3) dX9_sleep_68 rfl rfl (fun v13557 hv13557 => ?_)
  refine WQ_iadd dX9_sleep_69 (by omega) (by omega) (fun v13558 hv13558 => ?_)
  refine WP_dup2 dX9_sleep_70 rfl rfl ?_
  refine WQ_ialdu dX9_sleep_71 (lyx_is hy 55 13 rfl) (lyx_n hy 55 28 rfl) (by omega) (by omega) (fun v13559 => ?_)
  refine WP_iload dX9_sleep_72 rfl ?_
  refine WQ_iaddu dX9_sleep_74 (fun v13560 => ?_)
  refine WQ_iast dX9_sleep_75 (lyx_is hy 55 13 rfl) (lyx_n hy 55 28 rfl) (by omega) (by omega) (fun I13561 eI13561 => ?_)
  have hI13561 : XI g n L I13561 := by rw [eI13561]; exact (fa_put hy hI13552 (c := 55) (k := 3) (s := so.toInt.toNat) (by decide) (by omega) (by decide) (by rw [cl (n := 7 * so.toInt.toNat + 3) (by omega)]) (fun h => absurd h (by decide)) (fun h => absurd h (by decide)))
  have e13562 : I13561 (ad g 1) 1 = L := by rw [eI13561, pp_ne _ _ (Or.inl (lyx_ne hy (by decide) (by decide) (by decide)))]; exact e13553
  have e13563 : I13561 (ad g 53) 0 = w13542 := by rw [eI13561, pp_ne _ _ (Or.inl (lyx_ne hy (by decide) (by decide) (by decide)))]; exact e13554
  have e13564 : I13561 (ad g 53) 1 = v13551 := by rw [eI13561, pp_ne _ _ (Or.inl (lyx_ne hy (by decide) (by decide) (by decide)))]; exact e13555
  have fr13565 : fz 74 g [53, 55] I I13561 := by rw [eI13561]; exact fzx_pp hy fr13556 (by decide) (by decide)
  clear eI13561
  refine WP_aload_n dX9_sleep_76 rfl ?_
  refine WP_getr dX9_sleep_77 fX9_75 rfl (lyx_is hy 53 4 rfl) (rfx hr 53 5 55 (by decide)) ?_
  refine WP_iload dX9_sleep_80 rfl ?_
  refine WQ_iconst (5) (5) dX9_sleep_82 rfl rfl (fun v13566 hv13566 => ?_)
  refine WQ_iadd dX9_sleep_83 (by omega) (by omega) (fun v13567 hv13567 => ?_)
  refine WP_dup2 dX9_sleep_84 rfl rfl ?_
  refine WQ_ialdu dX9_sleep_85 (lyx_is hy 55 13 rfl) (lyx_n hy 55 28 rfl) (by omega) (by omega) (fun v13568 => ?_)
  refine WP_iload dX9_sleep_86 rfl ?_
  refine WP_iload dX9_sleep_88 rfl ?_
  refine WP_iload dX9_sleep_90 rfl ?_
  refine WQ_isub dX9_sleep_92 (by omega) (by omega) (fun v13569 hv13569 => ?_)
  refine WQ_imulu dX9_sleep_93 (fun v13570 => ?_)
  refine WQ_iaddu dX9_sleep_94 (fun v13571 => ?_)
  refine WQ_iast dX9_sleep_95 (lyx_is hy 55 13 rfl) (lyx_n hy 55 28 rfl) (by omega) (by omega) (fun I13572 eI13572 => ?_)
  have hI13572 : XI g n L I13572 := by rw [eI13572]; exact (fa_put hy hI13561 (c := 55) (k := 5) (s := so.toInt.toNat) (by decide) (by omega) (by decide) (by rw [cl (n := 7 * so.toInt.toNat + 5) (by omega)]) (fun h => absurd h (by decide)) (fun h => absurd h (by decide)))
  have e13573 : I13572 (ad g 1) 1 = L := by rw [eI13572, pp_ne _ _ (Or.inl (lyx_ne hy (by decide) (by decide) (by decide)))]; exact e13562
  have e13574 : I13572 (ad g 53) 0 = w13542 := by rw [eI13572, pp_ne _ _ (Or.inl (lyx_ne hy (by decide) (by decide) (by decide)))]; exact e13563
  have e13575 : I13572 (ad g 53) 1 = v13551 := by rw [eI13572, pp_ne _ _ (Or.inl (lyx_ne hy (by decide) (by decide) (by decide)))]; exact e13564
  have fr13576 : fz 74 g [53, 55] I I13572 := by rw [eI13572]; exact fzx_pp hy fr13565 (by decide) (by decide)
  clear eI13572
  refine WP_aload_n dX9_sleep_96 rfl ?_
  refine WP_getr dX9_sleep_97 fX9_75 rfl (lyx_is hy 53 4 rfl) (rfx hr 53 5 55 (by decide)) ?_
  refine WP_iload dX9_sleep_100 rfl ?_
  refine WQ_iconst (0) (0) dX9_sleep_102 rfl rfl (fun v13577 hv13577 => ?_)
  refine WQ_iadd dX9_sleep_103 (by omega) (by omega) (fun v13578 hv13578 => ?_)
  refine WP_aload_n dX9_sleep_104 rfl ?_
  refine WP_getr dX9_sleep_105 fX9_25 rfl (lyx_is hy 49 9 rfl) (rfx hr 49 2 5 (by decide)) ?_
  refine WP_iload dX9_sleep_108 rfl ?_
  refine WP_iload dX9_sleep_110 rfl ?_
  refine WP_iload_n dX9_sleep_112 rfl ?_
  refine WP_callV3 (k := 0) dX9_sleep_113 ⟨⟨⟨by decide, by decide⟩, zX0_coinsBehind⟩, lX9_137, by decide, rfl, vX0_coinsBehind.1, vX0_coinsBehind.2⟩ (lyx_is hy 5 0 rfl) (sx_cbx hy hr hI13572 co st da (by omega) (by omega) (by omega) (by omega) (by omega) (by omega)) (Nat.le_of_ble_eq_true rfl) ?_
  intro r Ia Ja Ra hq
  obtain ⟨⟨ea, eb, ec⟩, v13579, rfl, av13579, bv13579, cv13579⟩ := hq
  show WP _ _ _ _ (.int _ :: _) _ _ _ _
  rw [ea, eb, ec]
  clear ea eb ec Ia Ja Ra
  refine WQ_iast dX9_sleep_116 (lyx_is hy 55 13 rfl) (lyx_n hy 55 28 rfl) (by omega) (by omega) (fun I13580 eI13580 => ?_)
  have hI13580 : XI g n L I13580 := by rw [eI13580]; exact (fa_put hy hI13572 (c := 55) (k := 0) (s := so.toInt.toNat) (by decide) (by omega) (by decide) (by rw [cl (n := 7 * so.toInt.toNat + 0) (by omega)]) (fun _ => by omega) (fun _ => by omega))
  have e13581 : I13580 (ad g 1) 1 = L := by rw [eI13580, pp_ne _ _ (Or.inl (lyx_ne hy (by decide) (by decide) (by decide)))]; exact e13573
  have e13582 : I13580 (ad g 53) 0 = w13542 := by rw [eI13580, pp_ne _ _ (Or.inl (lyx_ne hy (by decide) (by decide) (by decide)))]; exact e13574
  have e13583 : I13580 (ad g 53) 1 = v13551 := by rw [eI13580, pp_ne _ _ (Or.inl (lyx_ne hy (by decide) (by decide) (by decide)))]; exact e13575
  have fr13584 : fz 74 g [53, 55] I I13580 := by rw [eI13580]; exact fzx_pp hy fr13576 (by decide) (by decide)
  clear eI13580
  refine WP_aload_n dX9_sleep_117 rfl ?_
  refine WP_getr dX9_sleep_118 fX9_75 rfl (lyx_is hy 53 4 rfl) (rfx hr 53 5 55 (by decide)) ?_
  refine WP_iload dX9_sleep_121 rfl ?_
  refine WQ_iconst (1) (1) dX9_sleep_123 rfl rfl (fun v13585 hv13585 => ?_)
  refine WQ_iadd dX9_sleep_124 (by omega) (by omega) (fun v13586 hv13586 => ?_)
  refine WP_iload dX9_sleep_125 rfl ?_
  refine WQ_iast dX9_sleep_127 (lyx_is hy 55 13 rfl) (lyx_n hy 55 28 rfl) (by omega) (by omega) (fun I13587 eI13587 => ?_)
  have hI13587 : XI g n L I13587 := by rw [eI13587]; exact (fa_put hy hI13580 (c := 55) (k := 1) (s := so.toInt.toNat) (by decide) (by omega) (by decide) (by rw [cl (n := 7 * so.toInt.toNat + 1) (by omega)]) (fun _ => by omega) (fun _ => by omega))
  have e13588 : I13587 (ad g 1) 1 = L := by rw [eI13587, pp_ne _ _ (Or.inl (lyx_ne hy (by decide) (by decide) (by decide)))]; exact e13581
  have e13589 : I13587 (ad g 53) 0 = w13542 := by rw [eI13587, pp_ne _ _ (Or.inl (lyx_ne hy (by decide) (by decide) (by decide)))]; exact e13582
  have e13590 : I13587 (ad g 53) 1 = v13551 := by rw [eI13587, pp_ne _ _ (Or.inl (lyx_ne hy (by decide) (by decide) (by decide)))]; exact e13583
  have fr13591 : fz 74 g [53, 55] I I13587 := by rw [eI13587]; exact fzx_pp hy fr13584 (by decide) (by decide)
  clear eI13587
  exact WP_vret dX9_sleep_128 rfl ⟨⟨hI13587, rfl, fr13591, frj0, ⟨(by rw [e13590, ew13543]; omega), (by rw [e13589, ew13542] <;> exact (eq32 _ _).mpr (by omega))⟩⟩, rfl⟩
set_option maxHeartbeats 4000000 in
set_option maxRecDepth 100000 in
theorem sx_openChestf_56_6 {g : GG} {n : Int} {L : Int32} (hy : LyX g)  {I : pI} {J : pJ} {R : pR} (hr : RfX g R) (hT : R (ad g 5) 0 = some (ad g 6)) (hI : XI g n L I)   (hn : 0 ≤ n ∧ n ≤ 40000) : SP g mX9_openChest [.ref (ad g 49), .ref (ad g 56)] I J R (fun r I' J' R' => (XI g n L I' ∧ R' = R ∧ fz 74 g [56, 58] I I' ∧ fz 74 g [] J J' ∧ (I' (ad g 56) 1).toInt ≤ (I (ad g 56) 1).toInt) ∧ r = none) := by
  refine SP_of ⟨by decide, rfl⟩ (Nat.le_of_ble_eq_true rfl) ?_
  have e13592 : I (ad g 1) 1 = L := hI.2
  have b13593 := BT_get hI.1 1 1 2 (0) (0) (900) (by decide) 1 (by decide) (by decide)
  rw [e13592] at b13593
  have fr0 : fz 74 g [56, 58] I I := fz_rf
  have frj0 : fz 74 g [] J J := fz_rf
  obtain ⟨w13594, ew13594⟩ : ∃ w : Int32, I (ad g 56) 1 = w := ⟨_, rfl⟩
  have bw13594 := BT_get hI.1 56 1 2 (0) (23760) (700000) (by decide) 1 (by decide) (by decide)
  rw [ew13594] at bw13594
  refine WP_aload_n dX9_openChest_0 rfl ?_
  refine WP_getr dX9_openChest_1 fX9_25 rfl (lyx_is hy 49 9 rfl) (rfx hr 49 2 5 (by decide)) ?_
  refine WP_getr dX9_openChest_4 fX9_49 rfl (lyx_is hy 5 0 rfl) hT ?_
  refine WQ_geti dX9_openChest_7 fX9_68 rfl (lyx_is hy 6 7 rfl) (BT_get hI.1 6 3 4 (-1) (0) (3) (by decide) 3 (by decide) (by decide)) (fun v13595 ev13595 av13595 bv13595 => ?_)
  refine WP_istore_n (ls' := [(0, _), (1, _), (2, _)]) dX9_openChest_10 (by decide) rfl ?_
  refine WP_iload_n dX9_openChest_11 rfl ?_
  refine WQ_iconst (-1) (-1) dX9_openChest_12 rfl rfl (fun v13596 hv13596 => ?_)
  refine WQ_icmp_eq 32 dX9_openChest_13 rfl (fun c13596 => ?_) (fun c13596 => ?_)
  · exact WP_vret dX9_openChest_32 rfl ⟨⟨hI, rfl, fr0, frj0, (by omega)⟩, rfl⟩
  · refine WP_aload_n dX9_openChest_16 rfl ?_
    refine WP_getr dX9_openChest_17 fX9_25 rfl (lyx_is hy 49 9 rfl) (rfx hr 49 2 5 (by decide)) ?_
    refine WP_getr dX9_openChest_20 fX9_49 rfl (lyx_is hy 5 0 rfl) hT ?_
    refine WP_getr dX9_openChest_23 fX9_71 rfl (lyx_is hy 6 7 rfl) (rfx hr 6 6 8 (by decide)) ?_
    refine WP_iload_n dX9_openChest_26 rfl ?_
    refine WQ_iald dX9_openChest_27 (lyx_is hy 8 13 rfl) (lyx_n hy 8 4 rfl) (by omega) (by omega) (fun q hq => BT_get hI.1 8 0 4 (0) (0) (99) (by decide) q (Nat.zero_le _) hq) (fun v13598 av13598 bv13598 ev13598 => ?_)
    refine WQ_iconst (1) (1) dX9_openChest_28 rfl rfl (fun v13599 hv13599 => ?_)
    refine WQ_icmp_ge 33 dX9_openChest_29 rfl (fun c13599 => ?_) (fun c13599 => ?_)
    · refine WP_aload_n dX9_openChest_33 rfl ?_
      refine WP_getr dX9_openChest_34 fX9_25 rfl (lyx_is hy 49 9 rfl) (rfx hr 49 2 5 (by decide)) ?_
      refine WP_getr dX9_openChest_37 fX9_49 rfl (lyx_is hy 5 0 rfl) hT ?_
      refine WP_getr dX9_openChest_40 fX9_71 rfl (lyx_is hy 6 7 rfl) (rfx hr 6 6 8 (by decide)) ?_
      refine WP_iload_n dX9_openChest_43 rfl ?_
      refine WQ_ialde dX9_openChest_44 (lyx_is hy 8 13 rfl) (lyx_n hy 8 4 rfl) (by omega) (by omega) ev13598 ?_
      refine WP_istore_n (ls' := [(0, _), (1, _), (2, _), (3, _)]) dX9_openChest_45 (by decide) rfl ?_
      refine WP_aload_n dX9_openChest_46 rfl ?_
      refine WQ_getim dX9_openChest_47 fX9_74 rfl (lyx_is hy 56 4 rfl) ew13594 ?_
      refine WP_iload_n dX9_openChest_50 rfl ?_
      refine WQ_idivb dX9_openChest_51 (by omega) (by omega) (fun v13602 pv13602 av13602 bv13602 cv13602 => ?_)
      refine WP_istore (ls' := [(0, _), (1, _), (2, _), (3, _), (4, _)]) dX9_openChest_52 (by decide) rfl ?_
      refine WP_iload_n dX9_openChest_54 rfl ?_
      refine WQ_bipush (7) (7) dX9_openChest_55 rfl rfl (fun v13603 hv13603 => ?_)
      refine WQ_imulk (7) dX9_openChest_57 hv13603 (by omega) (by omega) (fun v13604 hv13604 => ?_)
      refine WP_istore (ls' := [(0, _), (1, _), (2, _), (3, _), (4, _), (5, _)]) dX9_openChest_58 (by decide) rfl ?_
      refine WP_aload_n dX9_openChest_60 rfl ?_
      refine WP_dup dX9_openChest_61 rfl ?_
      refine WQ_getim dX9_openChest_62 fX9_74 rfl (lyx_is hy 56 4 rfl) ew13594 ?_
      refine WP_iload dX9_openChest_65 rfl ?_
      refine WP_iload_n dX9_openChest_67 rfl ?_
      have knv13605 : 0 ≤ v13602.toInt * v13598.toInt := Int.mul_nonneg (by omega) (by omega)
      refine WQ_imulx dX9_openChest_68 (by omega) (by omega) (fun v13605 pv13605 => ?_)
      refine WQ_isub dX9_openChest_69 (by omega) (by omega) (fun v13606 hv13606 => ?_)
      refine WQ_puti dX9_openChest_70 fX9_74 rfl rfl (lyx_is hy 56 4 rfl) (fun I13607 eI13607 => ?_)
      have hI13607 : XI g n L I13607 := by rw [eI13607]; exact (xi_f hy hI (c := 56) (0) (23760) (700000) (by decide) (Or.inl (by decide)) (by decide) (by omega) (by omega))
      have e13608 : I13607 (ad g 1) 1 = L := by rw [eI13607, pp_ne _ _ (Or.inl (lyx_ne hy (by decide) (by decide) (by decide)))]; exact e13592
      have e13609 : I13607 (ad g 6) 3 = v13595 := by rw [eI13607, pp_ne _ _ (Or.inl (lyx_ne hy (by decide) (by decide) (by decide)))]; exact ev13595
      have e13610 : I13607 (ad g 8) v13595.toNatClampNeg = v13598 := by rw [eI13607, pp_ne _ _ (Or.inl (lyx_ne hy (by decide) (by decide) (by decide)))]; exact ev13598
      have e13611 : I13607 (ad g 56) 1 = v13606 := by rw [eI13607, pp_self]
      have fr13612 : fz 74 g [56, 58] I I13607 := by rw [eI13607]; exact fzx_pp hy fr0 (by decide) (by decide)
      clear eI13607
      refine WP_aload_n dX9_openChest_73 rfl ?_
      refine WP_getr dX9_openChest_74 fX9_75 rfl (lyx_is hy 56 4 rfl) (rfx hr 56 5 58 (by decide)) ?_
      refine WP_iload dX9_openChest_77 rfl ?_
      refine WQ_bipush (6) (6) dX9_openChest_79 rfl rfl (fun v13613 hv13613 => ?_)
      refine WQ_iadd dX9_openChest_81 (by omega) (by omega) (fun v13614 hv13614 => ?_)
      refine WP_dup2 dX9_openChest_82 rfl rfl ?_
      refine WQ_ialdu dX9_openChest_83 (lyx_is hy 58 13 rfl) (lyx_n hy 58 28 rfl) (by omega) (by omega) (fun v13615 => ?_)
      refine WP_iload dX9_openChest_84 rfl ?_
      refine WP_iload_n dX9_openChest_86 rfl ?_
      have knv13616 : 0 ≤ v13602.toInt * v13598.toInt := Int.mul_nonneg (by omega) (by omega)
      refine WQ_imulx dX9_openChest_87 (by omega) (by omega) (fun v13616 pv13616 => ?_)
      refine WQ_iaddu dX9_openChest_88 (fun v13617 => ?_)
      refine WQ_iast dX9_openChest_89 (lyx_is hy 58 13 rfl) (lyx_n hy 58 28 rfl) (by omega) (by omega) (fun I13618 eI13618 => ?_)
      have hI13618 : XI g n L I13618 := by rw [eI13618]; exact (fa_put hy hI13607 (c := 58) (k := 6) (s := v13595.toInt.toNat) (by decide) (by omega) (by decide) (by rw [cl (n := 7 * v13595.toInt.toNat + 6) (by omega)]) (fun h => absurd h (by decide)) (fun h => absurd h (by decide)))
      have e13619 : I13618 (ad g 1) 1 = L := by rw [eI13618, pp_ne _ _ (Or.inl (lyx_ne hy (by decide) (by decide) (by decide)))]; exact e13608
      have e13620 : I13618 (ad g 6) 3 = v13595 := by rw [eI13618, pp_ne _ _ (Or.inl (lyx_ne hy (by decide) (by decide) (by decide)))]; exact e13609
      have e13621 : I13618 (ad g 8) v13595.toNatClampNeg = v13598 := by rw [eI13618, pp_ne _ _ (Or.inl (lyx_ne hy (by decide) (by decide) (by decide)))]; exact e13610
      have e13622 : I13618 (ad g 56) 1 = v13606 := by rw [eI13618, pp_ne _ _ (Or.inl (lyx_ne hy (by decide) (by decide) (by decide)))]; exact e13611
      have fr13623 : fz 74 g [56, 58] I I13618 := by rw [eI13618]; exact fzx_pp hy fr13612 (by decide) (by decide)
      clear eI13618
      refine WP_aload_n dX9_openChest_90 rfl ?_
      refine WP_getr dX9_openChest_91 fX9_75 rfl (lyx_is hy 56 4 rfl) (rfx hr 56 5 58 (by decide)) ?_
      refine WP_iload dX9_openChest_94 rfl ?_
      refine WQ_iconst (0) (0) dX9_openChest_96 rfl rfl (fun v13624 hv13624 => ?_)
      refine WQ_iadd dX9_openChest_97 (by omega) (by omega) (fun v13625 hv13625 => ?_)
      refine WQ_bipush (60) (60) dX9_openChest_98 rfl rfl (fun v13626 hv13626 => ?_)
      refine WP_aload_n dX9_openChest_100 rfl ?_
      refine WP_getr dX9_openChest_101 fX9_75 rfl (lyx_is hy 56 4 rfl) (rfx hr 56 5 58 (by decide)) ?_
      refine WP_iload dX9_openChest_104 rfl ?_
      refine WQ_iconst (0) (0) dX9_openChest_106 rfl rfl (fun v13627 hv13627 => ?_)
      refine WQ_iadd dX9_openChest_107 (by omega) (by omega) (fun v13628 hv13628 => ?_)
      refine WQ_ialdf (q := 7 * v13595.toInt.toNat) dX9_openChest_108 (lyx_is hy 58 13 rfl) (lyx_n hy 58 28 rfl) (by omega) (by omega) (by omega) (fa_get0 hI13618 (c := 58) (by decide) (by omega)) (fun v13629 av13629 bv13629 => ?_)
      refine WP_iload dX9_openChest_109 rfl ?_
      refine WQ_iadd dX9_openChest_111 (by omega) (by omega) (fun v13630 hv13630 => ?_)
      refine WQ_min dX9_openChest_112 lX9_78 ⟨by decide, Nat.le_of_ble_eq_true rfl⟩ (fun v13631 av13631 bv13631 cv13631 => ?_)
      refine WQ_iast dX9_openChest_115 (lyx_is hy 58 13 rfl) (lyx_n hy 58 28 rfl) (by omega) (by omega) (fun I13632 eI13632 => ?_)
      have hI13632 : XI g n L I13632 := by rw [eI13632]; exact (fa_put hy hI13618 (c := 58) (k := 0) (s := v13595.toInt.toNat) (by decide) (by omega) (by decide) (by rw [cl (n := 7 * v13595.toInt.toNat + 0) (by omega)]) (fun _ => by omega) (fun _ => by omega))
      have e13633 : I13632 (ad g 1) 1 = L := by rw [eI13632, pp_ne _ _ (Or.inl (lyx_ne hy (by decide) (by decide) (by decide)))]; exact e13619
      have e13634 : I13632 (ad g 6) 3 = v13595 := by rw [eI13632, pp_ne _ _ (Or.inl (lyx_ne hy (by decide) (by decide) (by decide)))]; exact e13620
      have e13635 : I13632 (ad g 8) v13595.toNatClampNeg = v13598 := by rw [eI13632, pp_ne _ _ (Or.inl (lyx_ne hy (by decide) (by decide) (by decide)))]; exact e13621
      have e13636 : I13632 (ad g 56) 1 = v13606 := by rw [eI13632, pp_ne _ _ (Or.inl (lyx_ne hy (by decide) (by decide) (by decide)))]; exact e13622
      have fr13637 : fz 74 g [56, 58] I I13632 := by rw [eI13632]; exact fzx_pp hy fr13623 (by decide) (by decide)
      clear eI13632
      exact WP_vret dX9_openChest_116 rfl ⟨⟨hI13632, rfl, fr13637, frj0, (by rw [e13636, ew13594]; omega)⟩, rfl⟩
    · exact WP_vret dX9_openChest_32 rfl ⟨⟨hI, rfl, fr0, frj0, (by omega)⟩, rfl⟩
set_option maxHeartbeats 4000000 in
set_option maxRecDepth 100000 in
theorem sx_wsleepf_56_6 {g : GG} {n : Int} {L : Int32} (hy : LyX g)  {I : pI} {J : pJ} {R : pR} (hr : RfX g R) (hT : R (ad g 5) 0 = some (ad g 6)) (hI : XI g n L I) (so : Int32) (da : Int32) (co : Int32) (st : Int32) (so_lo : 0 ≤ so.toInt) (so_hi : so.toInt ≤ 3) (da_lo : 0 ≤ da.toInt) (da_hi : da.toInt ≤ 6) (co_lo : 0 ≤ co.toInt) (co_hi : co.toInt ≤ 60) (st_lo : 0 ≤ st.toInt) (st_hi : st.toInt ≤ 5) (hn : 0 ≤ n ∧ n ≤ 40000) (hb : (I (ad g 56) 1).toInt ≤ 23760 * n + 700000 - 5940) : SP g mX9_sleep [.ref (ad g 49), .ref (ad g 56), .int so, .int da, .int co, .int st] I J R (fun r I' J' R' => (XI g n L I' ∧ R' = R ∧ fz 74 g [56, 58] I I' ∧ fz 74 g [] J J' ∧ (I' (ad g 56) 1).toInt ≤ (I (ad g 56) 1).toInt + 5940) ∧ r = none) := by
  refine SP_of ⟨by decide, rfl⟩ (Nat.le_of_ble_eq_true rfl) ?_
  have e13638 : I (ad g 1) 1 = L := hI.2
  have b13639 := BT_get hI.1 1 1 2 (0) (0) (900) (by decide) 1 (by decide) (by decide)
  rw [e13638] at b13639
  have fr0 : fz 74 g [56, 58] I I := fz_rf
  have frj0 : fz 74 g [] J J := fz_rf
  obtain ⟨w13640, ew13640⟩ : ∃ w : Int32, I (ad g 56) 1 = w := ⟨_, rfl⟩
  have bw13640 := BT_get hI.1 56 1 2 (0) (23760) (700000) (by decide) 1 (by decide) (by decide)
  rw [ew13640] at bw13640
  rw [ew13640] at hb
  refine WP_iload_n dX9_sleep_0 rfl ?_
  refine WQ_bipush (7) (7) dX9_sleep_1 rfl rfl (fun v13641 hv13641 => ?_)
  refine WQ_imulk (7) dX9_sleep_3 hv13641 (by omega) (by omega) (fun v13642 hv13642 => ?_)
  refine WP_istore (ls' := [(0, _), (1, _), (2, _), (3, _), (4, _), (5, _), (6, _)]) dX9_sleep_4 (by decide) rfl ?_
  refine WP_aload_n dX9_sleep_6 rfl ?_
  refine WP_getr dX9_sleep_7 fX9_25 rfl (lyx_is hy 49 9 rfl) (rfx hr 49 2 5 (by decide)) ?_
  refine WP_getr dX9_sleep_10 fX9_49 rfl (lyx_is hy 5 0 rfl) hT ?_
  refine WP_getr dX9_sleep_13 fX9_71 rfl (lyx_is hy 6 7 rfl) (rfx hr 6 6 8 (by decide)) ?_
  refine WP_iload_n dX9_sleep_16 rfl ?_
  refine WQ_iald dX9_sleep_17 (lyx_is hy 8 13 rfl) (lyx_n hy 8 4 rfl) (by omega) (by omega) (fun q hq => BT_get hI.1 8 0 4 (0) (0) (99) (by decide) q (Nat.zero_le _) hq) (fun v13643 av13643 bv13643 ev13643 => ?_)
  clear ev13643
  refine WP_istore (ls' := [(0, _), (1, _), (2, _), (3, _), (4, _), (5, _), (6, _), (7, _)]) dX9_sleep_18 (by decide) rfl ?_
  refine WP_iload dX9_sleep_20 rfl ?_
  refine WP_iload dX9_sleep_22 rfl ?_
  refine WP_aload_n dX9_sleep_24 rfl ?_
  refine WP_getr dX9_sleep_25 fX9_25 rfl (lyx_is hy 49 9 rfl) (rfx hr 49 2 5 (by decide)) ?_
  refine WP_getr dX9_sleep_28 fX9_128 rfl (lyx_is hy 5 0 rfl) (rfx hr 5 2 23 (by decide)) ?_
  refine WP_iload_n dX9_sleep_31 rfl ?_
  refine WQ_iald dX9_sleep_32 (lyx_is hy 23 13 rfl) (lyx_n hy 23 7 rfl) (by omega) (by omega) (fun q hq => BT_get hI.1 23 0 7 (0) (0) (900) (by decide) q (Nat.zero_le _) hq) (fun v13644 av13644 bv13644 ev13644 => ?_)
  clear ev13644
  refine WP_callN2 dX9_sleep_33 ⟨⟨⟨by decide, by decide⟩, zX10_stampsOf⟩, lX9_131, tX10_stampsOf⟩ (sx_stampsOf hy hr hI co v13644 (by omega) (by omega) (by omega) (by omega)) (Nat.le_of_ble_eq_true rfl) ?_
  intro r Ia Ja Ra hq
  obtain ⟨⟨ea, eb, ec⟩, v13645, rfl, av13645, bv13645, cv13645⟩ := hq
  show WP _ _ _ _ (.int _ :: _) _ _ _ _
  rw [ea, eb, ec]
  clear ea eb ec Ia Ja Ra
  refine WQ_imulb (99) (999) dX9_sleep_36 ⟨by omega, by omega⟩ ⟨by omega, by omega⟩ (by decide) (fun v13646 pv13646 av13646 bv13646 cv13646 => ?_)
  refine WP_istore (ls' := [(0, _), (1, _), (2, _), (3, _), (4, _), (5, _), (6, _), (7, _), (8, _)]) dX9_sleep_37 (by decide) rfl ?_
  refine WP_aload_n dX9_sleep_39 rfl ?_
  refine WP_getr dX9_sleep_40 fX9_25 rfl (lyx_is hy 49 9 rfl) (rfx hr 49 2 5 (by decide)) ?_
  refine WP_getr dX9_sleep_43 fX9_134 rfl (lyx_is hy 5 0 rfl) (rfx hr 5 5 26 (by decide)) ?_
  refine WP_iload dX9_sleep_46 rfl ?_
  refine WQ_iald dX9_sleep_48 (lyx_is hy 26 13 rfl) (lyx_n hy 26 6 rfl) (by omega) (by omega) (fun q hq => BT_get hI.1 26 0 6 (0) (0) (5) (by decide) q (Nat.zero_le _) hq) (fun v13647 av13647 bv13647 ev13647 => ?_)
  clear ev13647
  refine WP_istore (ls' := [(0, _), (1, _), (2, _), (3, _), (4, _), (5, _), (6, _), (7, _), (8, _), (9, _)]) dX9_sleep_49 (by decide) rfl ?_
  refine WP_aload_n dX9_sleep_51 rfl ?_
  refine WP_dup dX9_sleep_52 rfl ?_
  refine WQ_getim dX9_sleep_53 fX9_74 rfl (lyx_is hy 56 4 rfl) ew13640 ?_
  refine WP_iload dX9_sleep_56 rfl ?_
  refine WQ_iadd dX9_sleep_58 (by omega) (by omega) (fun v13648 hv13648 => ?_)
  refine WQ_puti dX9_sleep_59 fX9_74 rfl rfl (lyx_is hy 56 4 rfl) (fun I13649 eI13649 => ?_)
  have hI13649 : XI g n L I13649 := by rw [eI13649]; exact (xi_f hy hI (c := 56) (0) (23760) (700000) (by decide) (Or.inl (by decide)) (by decide) (by omega) (by omega))
  have e13650 : I13649 (ad g 1) 1 = L := by rw [eI13649, pp_ne _ _ (Or.inl (lyx_ne hy (by decide) (by decide) (by decide)))]; exact e13638
  have e13651 : I13649 (ad g 56) 1 = v13648 := by rw [eI13649, pp_self]
  have fr13652 : fz 74 g [56, 58] I I13649 := by rw [eI13649]; exact fzx_pp hy fr0 (by decide) (by decide)
  clear eI13649
  refine WP_aload_n dX9_sleep_62 rfl ?_
  refine WP_getr dX9_sleep_63 fX9_75 rfl (lyx_is hy 56 4 rfl) (rfx hr 56 5 58 (by decide)) ?_
  refine WP_iload dX9_sleep_66 rfl ?_
  refine WQ_iconst (3) (3) dX9_sleep_68 rfl rfl (fun v13653 hv13653 => ?_)
  refine WQ_iadd dX9_sleep_69 (by omega) (by omega) (fun v13654 hv13654 => ?_)
  refine WP_dup2 dX9_sleep_70 rfl rfl ?_
  refine WQ_ialdu dX9_sleep_71 (lyx_is hy 58 13 rfl) (lyx_n hy 58 28 rfl) (by omega) (by omega) (fun v13655 => ?_)
  refine WP_iload dX9_sleep_72 rfl ?_
  refine WQ_iaddu dX9_sleep_74 (fun v13656 => ?_)
  refine WQ_iast dX9_sleep_75 (lyx_is hy 58 13 rfl) (lyx_n hy 58 28 rfl) (by omega) (by omega) (fun I13657 eI13657 => ?_)
  have hI13657 : XI g n L I13657 := by rw [eI13657]; exact (fa_put hy hI13649 (c := 58) (k := 3) (s := so.toInt.toNat) (by decide) (by omega) (by decide) (by rw [cl (n := 7 * so.toInt.toNat + 3) (by omega)]) (fun h => absurd h (by decide)) (fun h => absurd h (by decide)))
  have e13658 : I13657 (ad g 1) 1 = L := by rw [eI13657, pp_ne _ _ (Or.inl (lyx_ne hy (by decide) (by decide) (by decide)))]; exact e13650
  have e13659 : I13657 (ad g 56) 1 = v13648 := by rw [eI13657, pp_ne _ _ (Or.inl (lyx_ne hy (by decide) (by decide) (by decide)))]; exact e13651
  have fr13660 : fz 74 g [56, 58] I I13657 := by rw [eI13657]; exact fzx_pp hy fr13652 (by decide) (by decide)
  clear eI13657
  refine WP_aload_n dX9_sleep_76 rfl ?_
  refine WP_getr dX9_sleep_77 fX9_75 rfl (lyx_is hy 56 4 rfl) (rfx hr 56 5 58 (by decide)) ?_
  refine WP_iload dX9_sleep_80 rfl ?_
  refine WQ_iconst (5) (5) dX9_sleep_82 rfl rfl (fun v13661 hv13661 => ?_)
  refine WQ_iadd dX9_sleep_83 (by omega) (by omega) (fun v13662 hv13662 => ?_)
  refine WP_dup2 dX9_sleep_84 rfl rfl ?_
  refine WQ_ialdu dX9_sleep_85 (lyx_is hy 58 13 rfl) (lyx_n hy 58 28 rfl) (by omega) (by omega) (fun v13663 => ?_)
  refine WP_iload dX9_sleep_86 rfl ?_
  refine WP_iload dX9_sleep_88 rfl ?_
  refine WP_iload dX9_sleep_90 rfl ?_
  refine WQ_isub dX9_sleep_92 (by omega) (by omega) (fun v13664 hv13664 => ?_)
  refine WQ_imulu dX9_sleep_93 (fun v13665 => ?_)
  refine WQ_iaddu dX9_sleep_94 (fun v13666 => ?_)
  refine WQ_iast dX9_sleep_95 (lyx_is hy 58 13 rfl) (lyx_n hy 58 28 rfl) (by omega) (by omega) (fun I13667 eI13667 => ?_)
  have hI13667 : XI g n L I13667 := by rw [eI13667]; exact (fa_put hy hI13657 (c := 58) (k := 5) (s := so.toInt.toNat) (by decide) (by omega) (by decide) (by rw [cl (n := 7 * so.toInt.toNat + 5) (by omega)]) (fun h => absurd h (by decide)) (fun h => absurd h (by decide)))
  have e13668 : I13667 (ad g 1) 1 = L := by rw [eI13667, pp_ne _ _ (Or.inl (lyx_ne hy (by decide) (by decide) (by decide)))]; exact e13658
  have e13669 : I13667 (ad g 56) 1 = v13648 := by rw [eI13667, pp_ne _ _ (Or.inl (lyx_ne hy (by decide) (by decide) (by decide)))]; exact e13659
  have fr13670 : fz 74 g [56, 58] I I13667 := by rw [eI13667]; exact fzx_pp hy fr13660 (by decide) (by decide)
  clear eI13667
  refine WP_aload_n dX9_sleep_96 rfl ?_
  refine WP_getr dX9_sleep_97 fX9_75 rfl (lyx_is hy 56 4 rfl) (rfx hr 56 5 58 (by decide)) ?_
  refine WP_iload dX9_sleep_100 rfl ?_
  refine WQ_iconst (0) (0) dX9_sleep_102 rfl rfl (fun v13671 hv13671 => ?_)
  refine WQ_iadd dX9_sleep_103 (by omega) (by omega) (fun v13672 hv13672 => ?_)
  refine WP_aload_n dX9_sleep_104 rfl ?_
  refine WP_getr dX9_sleep_105 fX9_25 rfl (lyx_is hy 49 9 rfl) (rfx hr 49 2 5 (by decide)) ?_
  refine WP_iload dX9_sleep_108 rfl ?_
  refine WP_iload dX9_sleep_110 rfl ?_
  refine WP_iload_n dX9_sleep_112 rfl ?_
  refine WP_callV3 (k := 0) dX9_sleep_113 ⟨⟨⟨by decide, by decide⟩, zX0_coinsBehind⟩, lX9_137, by decide, rfl, vX0_coinsBehind.1, vX0_coinsBehind.2⟩ (lyx_is hy 5 0 rfl) (sx_cbx hy hr hI13667 co st da (by omega) (by omega) (by omega) (by omega) (by omega) (by omega)) (Nat.le_of_ble_eq_true rfl) ?_
  intro r Ia Ja Ra hq
  obtain ⟨⟨ea, eb, ec⟩, v13673, rfl, av13673, bv13673, cv13673⟩ := hq
  show WP _ _ _ _ (.int _ :: _) _ _ _ _
  rw [ea, eb, ec]
  clear ea eb ec Ia Ja Ra
  refine WQ_iast dX9_sleep_116 (lyx_is hy 58 13 rfl) (lyx_n hy 58 28 rfl) (by omega) (by omega) (fun I13674 eI13674 => ?_)
  have hI13674 : XI g n L I13674 := by rw [eI13674]; exact (fa_put hy hI13667 (c := 58) (k := 0) (s := so.toInt.toNat) (by decide) (by omega) (by decide) (by rw [cl (n := 7 * so.toInt.toNat + 0) (by omega)]) (fun _ => by omega) (fun _ => by omega))
  have e13675 : I13674 (ad g 1) 1 = L := by rw [eI13674, pp_ne _ _ (Or.inl (lyx_ne hy (by decide) (by decide) (by decide)))]; exact e13668
  have e13676 : I13674 (ad g 56) 1 = v13648 := by rw [eI13674, pp_ne _ _ (Or.inl (lyx_ne hy (by decide) (by decide) (by decide)))]; exact e13669
  have fr13677 : fz 74 g [56, 58] I I13674 := by rw [eI13674]; exact fzx_pp hy fr13670 (by decide) (by decide)
  clear eI13674
  refine WP_aload_n dX9_sleep_117 rfl ?_
  refine WP_getr dX9_sleep_118 fX9_75 rfl (lyx_is hy 56 4 rfl) (rfx hr 56 5 58 (by decide)) ?_
  refine WP_iload dX9_sleep_121 rfl ?_
  refine WQ_iconst (1) (1) dX9_sleep_123 rfl rfl (fun v13678 hv13678 => ?_)
  refine WQ_iadd dX9_sleep_124 (by omega) (by omega) (fun v13679 hv13679 => ?_)
  refine WP_iload dX9_sleep_125 rfl ?_
  refine WQ_iast dX9_sleep_127 (lyx_is hy 58 13 rfl) (lyx_n hy 58 28 rfl) (by omega) (by omega) (fun I13680 eI13680 => ?_)
  have hI13680 : XI g n L I13680 := by rw [eI13680]; exact (fa_put hy hI13674 (c := 58) (k := 1) (s := so.toInt.toNat) (by decide) (by omega) (by decide) (by rw [cl (n := 7 * so.toInt.toNat + 1) (by omega)]) (fun _ => by omega) (fun _ => by omega))
  have e13681 : I13680 (ad g 1) 1 = L := by rw [eI13680, pp_ne _ _ (Or.inl (lyx_ne hy (by decide) (by decide) (by decide)))]; exact e13675
  have e13682 : I13680 (ad g 56) 1 = v13648 := by rw [eI13680, pp_ne _ _ (Or.inl (lyx_ne hy (by decide) (by decide) (by decide)))]; exact e13676
  have fr13683 : fz 74 g [56, 58] I I13680 := by rw [eI13680]; exact fzx_pp hy fr13677 (by decide) (by decide)
  clear eI13680
  exact WP_vret dX9_sleep_128 rfl ⟨⟨hI13680, rfl, fr13683, frj0, (by rw [e13682, ew13640]; omega)⟩, rfl⟩
set_option maxHeartbeats 4000000 in
set_option maxRecDepth 100000 in
theorem sx_openChestf_56_27 {g : GG} {n : Int} {L : Int32} (hy : LyX g)  {I : pI} {J : pJ} {R : pR} (hr : RfX g R) (hT : R (ad g 5) 0 = some (ad g 27)) (hI : XI g n L I)   (hn : 0 ≤ n ∧ n ≤ 40000) : SP g mX9_openChest [.ref (ad g 49), .ref (ad g 56)] I J R (fun r I' J' R' => (XI g n L I' ∧ R' = R ∧ fz 74 g [56, 58] I I' ∧ fz 74 g [] J J' ∧ (I' (ad g 56) 1).toInt ≤ (I (ad g 56) 1).toInt) ∧ r = none) := by
  refine SP_of ⟨by decide, rfl⟩ (Nat.le_of_ble_eq_true rfl) ?_
  have e13684 : I (ad g 1) 1 = L := hI.2
  have b13685 := BT_get hI.1 1 1 2 (0) (0) (900) (by decide) 1 (by decide) (by decide)
  rw [e13684] at b13685
  have fr0 : fz 74 g [56, 58] I I := fz_rf
  have frj0 : fz 74 g [] J J := fz_rf
  obtain ⟨w13686, ew13686⟩ : ∃ w : Int32, I (ad g 56) 1 = w := ⟨_, rfl⟩
  have bw13686 := BT_get hI.1 56 1 2 (0) (23760) (700000) (by decide) 1 (by decide) (by decide)
  rw [ew13686] at bw13686
  refine WP_aload_n dX9_openChest_0 rfl ?_
  refine WP_getr dX9_openChest_1 fX9_25 rfl (lyx_is hy 49 9 rfl) (rfx hr 49 2 5 (by decide)) ?_
  refine WP_getr dX9_openChest_4 fX9_49 rfl (lyx_is hy 5 0 rfl) hT ?_
  refine WQ_geti dX9_openChest_7 fX9_68 rfl (lyx_is hy 27 7 rfl) (BT_get hI.1 27 3 4 (-1) (0) (3) (by decide) 3 (by decide) (by decide)) (fun v13687 ev13687 av13687 bv13687 => ?_)
  refine WP_istore_n (ls' := [(0, _), (1, _), (2, _)]) dX9_openChest_10 (by decide) rfl ?_
  refine WP_iload_n dX9_openChest_11 rfl ?_
  refine WQ_iconst (-1) (-1) dX9_openChest_12 rfl rfl (fun v13688 hv13688 => ?_)
  refine WQ_icmp_eq 32 dX9_openChest_13 rfl (fun c13688 => ?_) (fun c13688 => ?_)
  · exact WP_vret dX9_openChest_32 rfl ⟨⟨hI, rfl, fr0, frj0, (by omega)⟩, rfl⟩
  · refine WP_aload_n dX9_openChest_16 rfl ?_
    refine WP_getr dX9_openChest_17 fX9_25 rfl (lyx_is hy 49 9 rfl) (rfx hr 49 2 5 (by decide)) ?_
    refine WP_getr dX9_openChest_20 fX9_49 rfl (lyx_is hy 5 0 rfl) hT ?_
    refine WP_getr dX9_openChest_23 fX9_71 rfl (lyx_is hy 27 7 rfl) (rfx hr 27 6 29 (by decide)) ?_
    refine WP_iload_n dX9_openChest_26 rfl ?_
    refine WQ_iald dX9_openChest_27 (lyx_is hy 29 13 rfl) (lyx_n hy 29 4 rfl) (by omega) (by omega) (fun q hq => BT_get hI.1 29 0 4 (0) (0) (99) (by decide) q (Nat.zero_le _) hq) (fun v13690 av13690 bv13690 ev13690 => ?_)
    refine WQ_iconst (1) (1) dX9_openChest_28 rfl rfl (fun v13691 hv13691 => ?_)
    refine WQ_icmp_ge 33 dX9_openChest_29 rfl (fun c13691 => ?_) (fun c13691 => ?_)
    · refine WP_aload_n dX9_openChest_33 rfl ?_
      refine WP_getr dX9_openChest_34 fX9_25 rfl (lyx_is hy 49 9 rfl) (rfx hr 49 2 5 (by decide)) ?_
      refine WP_getr dX9_openChest_37 fX9_49 rfl (lyx_is hy 5 0 rfl) hT ?_
      refine WP_getr dX9_openChest_40 fX9_71 rfl (lyx_is hy 27 7 rfl) (rfx hr 27 6 29 (by decide)) ?_
      refine WP_iload_n dX9_openChest_43 rfl ?_
      refine WQ_ialde dX9_openChest_44 (lyx_is hy 29 13 rfl) (lyx_n hy 29 4 rfl) (by omega) (by omega) ev13690 ?_
      refine WP_istore_n (ls' := [(0, _), (1, _), (2, _), (3, _)]) dX9_openChest_45 (by decide) rfl ?_
      refine WP_aload_n dX9_openChest_46 rfl ?_
      refine WQ_getim dX9_openChest_47 fX9_74 rfl (lyx_is hy 56 4 rfl) ew13686 ?_
      refine WP_iload_n dX9_openChest_50 rfl ?_
      refine WQ_idivb dX9_openChest_51 (by omega) (by omega) (fun v13694 pv13694 av13694 bv13694 cv13694 => ?_)
      refine WP_istore (ls' := [(0, _), (1, _), (2, _), (3, _), (4, _)]) dX9_openChest_52 (by decide) rfl ?_
      refine WP_iload_n dX9_openChest_54 rfl ?_
      refine WQ_bipush (7) (7) dX9_openChest_55 rfl rfl (fun v13695 hv13695 => ?_)
      refine WQ_imulk (7) dX9_openChest_57 hv13695 (by omega) (by omega) (fun v13696 hv13696 => ?_)
      refine WP_istore (ls' := [(0, _), (1, _), (2, _), (3, _), (4, _), (5, _)]) dX9_openChest_58 (by decide) rfl ?_
      refine WP_aload_n dX9_openChest_60 rfl ?_
      refine WP_dup dX9_openChest_61 rfl ?_
      refine WQ_getim dX9_openChest_62 fX9_74 rfl (lyx_is hy 56 4 rfl) ew13686 ?_
      refine WP_iload dX9_openChest_65 rfl ?_
      refine WP_iload_n dX9_openChest_67 rfl ?_
      have knv13697 : 0 ≤ v13694.toInt * v13690.toInt := Int.mul_nonneg (by omega) (by omega)
      refine WQ_imulx dX9_openChest_68 (by omega) (by omega) (fun v13697 pv13697 => ?_)
      refine WQ_isub dX9_openChest_69 (by omega) (by omega) (fun v13698 hv13698 => ?_)
      refine WQ_puti dX9_openChest_70 fX9_74 rfl rfl (lyx_is hy 56 4 rfl) (fun I13699 eI13699 => ?_)
      have hI13699 : XI g n L I13699 := by rw [eI13699]; exact (xi_f hy hI (c := 56) (0) (23760) (700000) (by decide) (Or.inl (by decide)) (by decide) (by omega) (by omega))
      have e13700 : I13699 (ad g 1) 1 = L := by rw [eI13699, pp_ne _ _ (Or.inl (lyx_ne hy (by decide) (by decide) (by decide)))]; exact e13684
      have e13701 : I13699 (ad g 27) 3 = v13687 := by rw [eI13699, pp_ne _ _ (Or.inl (lyx_ne hy (by decide) (by decide) (by decide)))]; exact ev13687
      have e13702 : I13699 (ad g 29) v13687.toNatClampNeg = v13690 := by rw [eI13699, pp_ne _ _ (Or.inl (lyx_ne hy (by decide) (by decide) (by decide)))]; exact ev13690
      have e13703 : I13699 (ad g 56) 1 = v13698 := by rw [eI13699, pp_self]
      have fr13704 : fz 74 g [56, 58] I I13699 := by rw [eI13699]; exact fzx_pp hy fr0 (by decide) (by decide)
      clear eI13699
      refine WP_aload_n dX9_openChest_73 rfl ?_
      refine WP_getr dX9_openChest_74 fX9_75 rfl (lyx_is hy 56 4 rfl) (rfx hr 56 5 58 (by decide)) ?_
      refine WP_iload dX9_openChest_77 rfl ?_
      refine WQ_bipush (6) (6) dX9_openChest_79 rfl rfl (fun v13705 hv13705 => ?_)
      refine WQ_iadd dX9_openChest_81 (by omega) (by omega) (fun v13706 hv13706 => ?_)
      refine WP_dup2 dX9_openChest_82 rfl rfl ?_
      refine WQ_ialdu dX9_openChest_83 (lyx_is hy 58 13 rfl) (lyx_n hy 58 28 rfl) (by omega) (by omega) (fun v13707 => ?_)
      refine WP_iload dX9_openChest_84 rfl ?_
      refine WP_iload_n dX9_openChest_86 rfl ?_
      have knv13708 : 0 ≤ v13694.toInt * v13690.toInt := Int.mul_nonneg (by omega) (by omega)
      refine WQ_imulx dX9_openChest_87 (by omega) (by omega) (fun v13708 pv13708 => ?_)
      refine WQ_iaddu dX9_openChest_88 (fun v13709 => ?_)
      refine WQ_iast dX9_openChest_89 (lyx_is hy 58 13 rfl) (lyx_n hy 58 28 rfl) (by omega) (by omega) (fun I13710 eI13710 => ?_)
      have hI13710 : XI g n L I13710 := by rw [eI13710]; exact (fa_put hy hI13699 (c := 58) (k := 6) (s := v13687.toInt.toNat) (by decide) (by omega) (by decide) (by rw [cl (n := 7 * v13687.toInt.toNat + 6) (by omega)]) (fun h => absurd h (by decide)) (fun h => absurd h (by decide)))
      have e13711 : I13710 (ad g 1) 1 = L := by rw [eI13710, pp_ne _ _ (Or.inl (lyx_ne hy (by decide) (by decide) (by decide)))]; exact e13700
      have e13712 : I13710 (ad g 27) 3 = v13687 := by rw [eI13710, pp_ne _ _ (Or.inl (lyx_ne hy (by decide) (by decide) (by decide)))]; exact e13701
      have e13713 : I13710 (ad g 29) v13687.toNatClampNeg = v13690 := by rw [eI13710, pp_ne _ _ (Or.inl (lyx_ne hy (by decide) (by decide) (by decide)))]; exact e13702
      have e13714 : I13710 (ad g 56) 1 = v13698 := by rw [eI13710, pp_ne _ _ (Or.inl (lyx_ne hy (by decide) (by decide) (by decide)))]; exact e13703
      have fr13715 : fz 74 g [56, 58] I I13710 := by rw [eI13710]; exact fzx_pp hy fr13704 (by decide) (by decide)
      clear eI13710
      refine WP_aload_n dX9_openChest_90 rfl ?_
      refine WP_getr dX9_openChest_91 fX9_75 rfl (lyx_is hy 56 4 rfl) (rfx hr 56 5 58 (by decide)) ?_
      refine WP_iload dX9_openChest_94 rfl ?_
      refine WQ_iconst (0) (0) dX9_openChest_96 rfl rfl (fun v13716 hv13716 => ?_)
      refine WQ_iadd dX9_openChest_97 (by omega) (by omega) (fun v13717 hv13717 => ?_)
      refine WQ_bipush (60) (60) dX9_openChest_98 rfl rfl (fun v13718 hv13718 => ?_)
      refine WP_aload_n dX9_openChest_100 rfl ?_
      refine WP_getr dX9_openChest_101 fX9_75 rfl (lyx_is hy 56 4 rfl) (rfx hr 56 5 58 (by decide)) ?_
      refine WP_iload dX9_openChest_104 rfl ?_
      refine WQ_iconst (0) (0) dX9_openChest_106 rfl rfl (fun v13719 hv13719 => ?_)
      refine WQ_iadd dX9_openChest_107 (by omega) (by omega) (fun v13720 hv13720 => ?_)
      refine WQ_ialdf (q := 7 * v13687.toInt.toNat) dX9_openChest_108 (lyx_is hy 58 13 rfl) (lyx_n hy 58 28 rfl) (by omega) (by omega) (by omega) (fa_get0 hI13710 (c := 58) (by decide) (by omega)) (fun v13721 av13721 bv13721 => ?_)
      refine WP_iload dX9_openChest_109 rfl ?_
      refine WQ_iadd dX9_openChest_111 (by omega) (by omega) (fun v13722 hv13722 => ?_)
      refine WQ_min dX9_openChest_112 lX9_78 ⟨by decide, Nat.le_of_ble_eq_true rfl⟩ (fun v13723 av13723 bv13723 cv13723 => ?_)
      refine WQ_iast dX9_openChest_115 (lyx_is hy 58 13 rfl) (lyx_n hy 58 28 rfl) (by omega) (by omega) (fun I13724 eI13724 => ?_)
      have hI13724 : XI g n L I13724 := by rw [eI13724]; exact (fa_put hy hI13710 (c := 58) (k := 0) (s := v13687.toInt.toNat) (by decide) (by omega) (by decide) (by rw [cl (n := 7 * v13687.toInt.toNat + 0) (by omega)]) (fun _ => by omega) (fun _ => by omega))
      have e13725 : I13724 (ad g 1) 1 = L := by rw [eI13724, pp_ne _ _ (Or.inl (lyx_ne hy (by decide) (by decide) (by decide)))]; exact e13711
      have e13726 : I13724 (ad g 27) 3 = v13687 := by rw [eI13724, pp_ne _ _ (Or.inl (lyx_ne hy (by decide) (by decide) (by decide)))]; exact e13712
      have e13727 : I13724 (ad g 29) v13687.toNatClampNeg = v13690 := by rw [eI13724, pp_ne _ _ (Or.inl (lyx_ne hy (by decide) (by decide) (by decide)))]; exact e13713
      have e13728 : I13724 (ad g 56) 1 = v13698 := by rw [eI13724, pp_ne _ _ (Or.inl (lyx_ne hy (by decide) (by decide) (by decide)))]; exact e13714
      have fr13729 : fz 74 g [56, 58] I I13724 := by rw [eI13724]; exact fzx_pp hy fr13715 (by decide) (by decide)
      clear eI13724
      exact WP_vret dX9_openChest_116 rfl ⟨⟨hI13724, rfl, fr13729, frj0, (by rw [e13728, ew13686]; omega)⟩, rfl⟩
    · exact WP_vret dX9_openChest_32 rfl ⟨⟨hI, rfl, fr0, frj0, (by omega)⟩, rfl⟩
set_option maxHeartbeats 4000000 in
set_option maxRecDepth 100000 in
theorem sx_wsleepf_56_27 {g : GG} {n : Int} {L : Int32} (hy : LyX g)  {I : pI} {J : pJ} {R : pR} (hr : RfX g R) (hT : R (ad g 5) 0 = some (ad g 27)) (hI : XI g n L I) (so : Int32) (da : Int32) (co : Int32) (st : Int32) (so_lo : 0 ≤ so.toInt) (so_hi : so.toInt ≤ 3) (da_lo : 0 ≤ da.toInt) (da_hi : da.toInt ≤ 6) (co_lo : 0 ≤ co.toInt) (co_hi : co.toInt ≤ 60) (st_lo : 0 ≤ st.toInt) (st_hi : st.toInt ≤ 5) (hn : 0 ≤ n ∧ n ≤ 40000) (hb : (I (ad g 56) 1).toInt ≤ 23760 * n + 700000 - 5940) : SP g mX9_sleep [.ref (ad g 49), .ref (ad g 56), .int so, .int da, .int co, .int st] I J R (fun r I' J' R' => (XI g n L I' ∧ R' = R ∧ fz 74 g [56, 58] I I' ∧ fz 74 g [] J J' ∧ (I' (ad g 56) 1).toInt ≤ (I (ad g 56) 1).toInt + 5940) ∧ r = none) := by
  refine SP_of ⟨by decide, rfl⟩ (Nat.le_of_ble_eq_true rfl) ?_
  have e13730 : I (ad g 1) 1 = L := hI.2
  have b13731 := BT_get hI.1 1 1 2 (0) (0) (900) (by decide) 1 (by decide) (by decide)
  rw [e13730] at b13731
  have fr0 : fz 74 g [56, 58] I I := fz_rf
  have frj0 : fz 74 g [] J J := fz_rf
  obtain ⟨w13732, ew13732⟩ : ∃ w : Int32, I (ad g 56) 1 = w := ⟨_, rfl⟩
  have bw13732 := BT_get hI.1 56 1 2 (0) (23760) (700000) (by decide) 1 (by decide) (by decide)
  rw [ew13732] at bw13732
  rw [ew13732] at hb
  refine WP_iload_n dX9_sleep_0 rfl ?_
  refine WQ_bipush (7) (7) dX9_sleep_1 rfl rfl (fun v13733 hv13733 => ?_)
  refine WQ_imulk (7) dX9_sleep_3 hv13733 (by omega) (by omega) (fun v13734 hv13734 => ?_)
  refine WP_istore (ls' := [(0, _), (1, _), (2, _), (3, _), (4, _), (5, _), (6, _)]) dX9_sleep_4 (by decide) rfl ?_
  refine WP_aload_n dX9_sleep_6 rfl ?_
  refine WP_getr dX9_sleep_7 fX9_25 rfl (lyx_is hy 49 9 rfl) (rfx hr 49 2 5 (by decide)) ?_
  refine WP_getr dX9_sleep_10 fX9_49 rfl (lyx_is hy 5 0 rfl) hT ?_
  refine WP_getr dX9_sleep_13 fX9_71 rfl (lyx_is hy 27 7 rfl) (rfx hr 27 6 29 (by decide)) ?_
  refine WP_iload_n dX9_sleep_16 rfl ?_
  refine WQ_iald dX9_sleep_17 (lyx_is hy 29 13 rfl) (lyx_n hy 29 4 rfl) (by omega) (by omega) (fun q hq => BT_get hI.1 29 0 4 (0) (0) (99) (by decide) q (Nat.zero_le _) hq) (fun v13735 av13735 bv13735 ev13735 => ?_)
  clear ev13735
  refine WP_istore (ls' := [(0, _), (1, _), (2, _), (3, _), (4, _), (5, _), (6, _), (7, _)]) dX9_sleep_18 (by decide) rfl ?_
  refine WP_iload dX9_sleep_20 rfl ?_
  refine WP_iload dX9_sleep_22 rfl ?_
  refine WP_aload_n dX9_sleep_24 rfl ?_
  refine WP_getr dX9_sleep_25 fX9_25 rfl (lyx_is hy 49 9 rfl) (rfx hr 49 2 5 (by decide)) ?_
  refine WP_getr dX9_sleep_28 fX9_128 rfl (lyx_is hy 5 0 rfl) (rfx hr 5 2 23 (by decide)) ?_
  refine WP_iload_n dX9_sleep_31 rfl ?_
  refine WQ_iald dX9_sleep_32 (lyx_is hy 23 13 rfl) (lyx_n hy 23 7 rfl) (by omega) (by omega) (fun q hq => BT_get hI.1 23 0 7 (0) (0) (900) (by decide) q (Nat.zero_le _) hq) (fun v13736 av13736 bv13736 ev13736 => ?_)
  clear ev13736
  refine WP_callN2 dX9_sleep_33 ⟨⟨⟨by decide, by decide⟩, zX10_stampsOf⟩, lX9_131, tX10_stampsOf⟩ (sx_stampsOf hy hr hI co v13736 (by omega) (by omega) (by omega) (by omega)) (Nat.le_of_ble_eq_true rfl) ?_
  intro r Ia Ja Ra hq
  obtain ⟨⟨ea, eb, ec⟩, v13737, rfl, av13737, bv13737, cv13737⟩ := hq
  show WP _ _ _ _ (.int _ :: _) _ _ _ _
  rw [ea, eb, ec]
  clear ea eb ec Ia Ja Ra
  refine WQ_imulb (99) (999) dX9_sleep_36 ⟨by omega, by omega⟩ ⟨by omega, by omega⟩ (by decide) (fun v13738 pv13738 av13738 bv13738 cv13738 => ?_)
  refine WP_istore (ls' := [(0, _), (1, _), (2, _), (3, _), (4, _), (5, _), (6, _), (7, _), (8, _)]) dX9_sleep_37 (by decide) rfl ?_
  refine WP_aload_n dX9_sleep_39 rfl ?_
  refine WP_getr dX9_sleep_40 fX9_25 rfl (lyx_is hy 49 9 rfl) (rfx hr 49 2 5 (by decide)) ?_
  refine WP_getr dX9_sleep_43 fX9_134 rfl (lyx_is hy 5 0 rfl) (rfx hr 5 5 26 (by decide)) ?_
  refine WP_iload dX9_sleep_46 rfl ?_
  refine WQ_iald dX9_sleep_48 (lyx_is hy 26 13 rfl) (lyx_n hy 26 6 rfl) (by omega) (by omega) (fun q hq => BT_get hI.1 26 0 6 (0) (0) (5) (by decide) q (Nat.zero_le _) hq) (fun v13739 av13739 bv13739 ev13739 => ?_)
  clear ev13739
  refine WP_istore (ls' := [(0, _), (1, _), (2, _), (3, _), (4, _), (5, _), (6, _), (7, _), (8, _), (9, _)]) dX9_sleep_49 (by decide) rfl ?_
  refine WP_aload_n dX9_sleep_51 rfl ?_
  refine WP_dup dX9_sleep_52 rfl ?_
  refine WQ_getim dX9_sleep_53 fX9_74 rfl (lyx_is hy 56 4 rfl) ew13732 ?_
  refine WP_iload dX9_sleep_56 rfl ?_
  refine WQ_iadd dX9_sleep_58 (by omega) (by omega) (fun v13740 hv13740 => ?_)
  refine WQ_puti dX9_sleep_59 fX9_74 rfl rfl (lyx_is hy 56 4 rfl) (fun I13741 eI13741 => ?_)
  have hI13741 : XI g n L I13741 := by rw [eI13741]; exact (xi_f hy hI (c := 56) (0) (23760) (700000) (by decide) (Or.inl (by decide)) (by decide) (by omega) (by omega))
  have e13742 : I13741 (ad g 1) 1 = L := by rw [eI13741, pp_ne _ _ (Or.inl (lyx_ne hy (by decide) (by decide) (by decide)))]; exact e13730
  have e13743 : I13741 (ad g 56) 1 = v13740 := by rw [eI13741, pp_self]
  have fr13744 : fz 74 g [56, 58] I I13741 := by rw [eI13741]; exact fzx_pp hy fr0 (by decide) (by decide)
  clear eI13741
  refine WP_aload_n dX9_sleep_62 rfl ?_
  refine WP_getr dX9_sleep_63 fX9_75 rfl (lyx_is hy 56 4 rfl) (rfx hr 56 5 58 (by decide)) ?_
  refine WP_iload dX9_sleep_66 rfl ?_
  refine WQ_iconst (3) (3) dX9_sleep_68 rfl rfl (fun v13745 hv13745 => ?_)
  refine WQ_iadd dX9_sleep_69 (by omega) (by omega) (fun v13746 hv13746 => ?_)
  refine WP_dup2 dX9_sleep_70 rfl rfl ?_
  refine WQ_ialdu dX9_sleep_71 (lyx_is hy 58 13 rfl) (lyx_n hy 58 28 rfl) (by omega) (by omega) (fun v13747 => ?_)
  refine WP_iload dX9_sleep_72 rfl ?_
  refine WQ_iaddu dX9_sleep_74 (fun v13748 => ?_)
  refine WQ_iast dX9_sleep_75 (lyx_is hy 58 13 rfl) (lyx_n hy 58 28 rfl) (by omega) (by omega) (fun I13749 eI13749 => ?_)
  have hI13749 : XI g n L I13749 := by rw [eI13749]; exact (fa_put hy hI13741 (c := 58) (k := 3) (s := so.toInt.toNat) (by decide) (by omega) (by decide) (by rw [cl (n := 7 * so.toInt.toNat + 3) (by omega)]) (fun h => absurd h (by decide)) (fun h => absurd h (by decide)))
  have e13750 : I13749 (ad g 1) 1 = L := by rw [eI13749, pp_ne _ _ (Or.inl (lyx_ne hy (by decide) (by decide) (by decide)))]; exact e13742
  have e13751 : I13749 (ad g 56) 1 = v13740 := by rw [eI13749, pp_ne _ _ (Or.inl (lyx_ne hy (by decide) (by decide) (by decide)))]; exact e13743
  have fr13752 : fz 74 g [56, 58] I I13749 := by rw [eI13749]; exact fzx_pp hy fr13744 (by decide) (by decide)
  clear eI13749
  refine WP_aload_n dX9_sleep_76 rfl ?_
  refine WP_getr dX9_sleep_77 fX9_75 rfl (lyx_is hy 56 4 rfl) (rfx hr 56 5 58 (by decide)) ?_
  refine WP_iload dX9_sleep_80 rfl ?_
  refine WQ_iconst (5) (5) dX9_sleep_82 rfl rfl (fun v13753 hv13753 => ?_)
  refine WQ_iadd dX9_sleep_83 (by omega) (by omega) (fun v13754 hv13754 => ?_)
  refine WP_dup2 dX9_sleep_84 rfl rfl ?_
  refine WQ_ialdu dX9_sleep_85 (lyx_is hy 58 13 rfl) (lyx_n hy 58 28 rfl) (by omega) (by omega) (fun v13755 => ?_)
  refine WP_iload dX9_sleep_86 rfl ?_
  refine WP_iload dX9_sleep_88 rfl ?_
  refine WP_iload dX9_sleep_90 rfl ?_
  refine WQ_isub dX9_sleep_92 (by omega) (by omega) (fun v13756 hv13756 => ?_)
  refine WQ_imulu dX9_sleep_93 (fun v13757 => ?_)
  refine WQ_iaddu dX9_sleep_94 (fun v13758 => ?_)
  refine WQ_iast dX9_sleep_95 (lyx_is hy 58 13 rfl) (lyx_n hy 58 28 rfl) (by omega) (by omega) (fun I13759 eI13759 => ?_)
  have hI13759 : XI g n L I13759 := by rw [eI13759]; exact (fa_put hy hI13749 (c := 58) (k := 5) (s := so.toInt.toNat) (by decide) (by omega) (by decide) (by rw [cl (n := 7 * so.toInt.toNat + 5) (by omega)]) (fun h => absurd h (by decide)) (fun h => absurd h (by decide)))
  have e13760 : I13759 (ad g 1) 1 = L := by rw [eI13759, pp_ne _ _ (Or.inl (lyx_ne hy (by decide) (by decide) (by decide)))]; exact e13750
  have e13761 : I13759 (ad g 56) 1 = v13740 := by rw [eI13759, pp_ne _ _ (Or.inl (lyx_ne hy (by decide) (by decide) (by decide)))]; exact e13751
  have fr13762 : fz 74 g [56, 58] I I13759 := by rw [eI13759]; exact fzx_pp hy fr13752 (by decide) (by decide)
  clear eI13759
  refine WP_aload_n dX9_sleep_96 rfl ?_
  refine WP_getr dX9_sleep_97 fX9_75 rfl (lyx_is hy 56 4 rfl) (rfx hr 56 5 58 (by decide)) ?_
  refine WP_iload dX9_sleep_100 rfl ?_
  refine WQ_iconst (0) (0) dX9_sleep_102 rfl rfl (fun v13763 hv13763 => ?_)
  refine WQ_iadd dX9_sleep_103 (by omega) (by omega) (fun v13764 hv13764 => ?_)
  refine WP_aload_n dX9_sleep_104 rfl ?_
  refine WP_getr dX9_sleep_105 fX9_25 rfl (lyx_is hy 49 9 rfl) (rfx hr 49 2 5 (by decide)) ?_
  refine WP_iload dX9_sleep_108 rfl ?_
  refine WP_iload dX9_sleep_110 rfl ?_
  refine WP_iload_n dX9_sleep_112 rfl ?_
  refine WP_callV3 (k := 0) dX9_sleep_113 ⟨⟨⟨by decide, by decide⟩, zX0_coinsBehind⟩, lX9_137, by decide, rfl, vX0_coinsBehind.1, vX0_coinsBehind.2⟩ (lyx_is hy 5 0 rfl) (sx_cbx hy hr hI13759 co st da (by omega) (by omega) (by omega) (by omega) (by omega) (by omega)) (Nat.le_of_ble_eq_true rfl) ?_
  intro r Ia Ja Ra hq
  obtain ⟨⟨ea, eb, ec⟩, v13765, rfl, av13765, bv13765, cv13765⟩ := hq
  show WP _ _ _ _ (.int _ :: _) _ _ _ _
  rw [ea, eb, ec]
  clear ea eb ec Ia Ja Ra
  refine WQ_iast dX9_sleep_116 (lyx_is hy 58 13 rfl) (lyx_n hy 58 28 rfl) (by omega) (by omega) (fun I13766 eI13766 => ?_)
  have hI13766 : XI g n L I13766 := by rw [eI13766]; exact (fa_put hy hI13759 (c := 58) (k := 0) (s := so.toInt.toNat) (by decide) (by omega) (by decide) (by rw [cl (n := 7 * so.toInt.toNat + 0) (by omega)]) (fun _ => by omega) (fun _ => by omega))
  have e13767 : I13766 (ad g 1) 1 = L := by rw [eI13766, pp_ne _ _ (Or.inl (lyx_ne hy (by decide) (by decide) (by decide)))]; exact e13760
  have e13768 : I13766 (ad g 56) 1 = v13740 := by rw [eI13766, pp_ne _ _ (Or.inl (lyx_ne hy (by decide) (by decide) (by decide)))]; exact e13761
  have fr13769 : fz 74 g [56, 58] I I13766 := by rw [eI13766]; exact fzx_pp hy fr13762 (by decide) (by decide)
  clear eI13766
  refine WP_aload_n dX9_sleep_117 rfl ?_
  refine WP_getr dX9_sleep_118 fX9_75 rfl (lyx_is hy 56 4 rfl) (rfx hr 56 5 58 (by decide)) ?_
  refine WP_iload dX9_sleep_121 rfl ?_
  refine WQ_iconst (1) (1) dX9_sleep_123 rfl rfl (fun v13770 hv13770 => ?_)
  refine WQ_iadd dX9_sleep_124 (by omega) (by omega) (fun v13771 hv13771 => ?_)
  refine WP_iload dX9_sleep_125 rfl ?_
  refine WQ_iast dX9_sleep_127 (lyx_is hy 58 13 rfl) (lyx_n hy 58 28 rfl) (by omega) (by omega) (fun I13772 eI13772 => ?_)
  have hI13772 : XI g n L I13772 := by rw [eI13772]; exact (fa_put hy hI13766 (c := 58) (k := 1) (s := so.toInt.toNat) (by decide) (by omega) (by decide) (by rw [cl (n := 7 * so.toInt.toNat + 1) (by omega)]) (fun _ => by omega) (fun _ => by omega))
  have e13773 : I13772 (ad g 1) 1 = L := by rw [eI13772, pp_ne _ _ (Or.inl (lyx_ne hy (by decide) (by decide) (by decide)))]; exact e13767
  have e13774 : I13772 (ad g 56) 1 = v13740 := by rw [eI13772, pp_ne _ _ (Or.inl (lyx_ne hy (by decide) (by decide) (by decide)))]; exact e13768
  have fr13775 : fz 74 g [56, 58] I I13772 := by rw [eI13772]; exact fzx_pp hy fr13769 (by decide) (by decide)
  clear eI13772
  exact WP_vret dX9_sleep_128 rfl ⟨⟨hI13772, rfl, fr13775, frj0, (by rw [e13774, ew13732]; omega)⟩, rfl⟩
set_option maxHeartbeats 4000000 in
set_option maxRecDepth 100000 in
theorem sx_habita {g : GG} {n : Int} {L : Int32} (hy : LyX g)  {I : pI} {J : pJ} {R : pR} (hr : RfX g R) (hI : XI g n L I) (wa : Int32) (co : Int32) (st : Int32) (co_lo : 0 ≤ co.toInt) (co_hi : co.toInt ≤ 60) (st_lo : 0 ≤ st.toInt) (st_hi : st.toInt ≤ 5) : SP g mX6_habit [.ref (ad g 50), .int wa, .int co, .int st] I J R (fun r I' J' R' => (I' = I ∧ J' = J ∧ R' = R) ∧ ∃ v : Int32, r = some (.int v) ∧ 0 ≤ v.toInt ∧ v.toInt ≤ 47 ∧ (v.toInt / 4 % 4 ≤ st.toInt ∧ st.toInt - v.toInt / 4 % 4 + v.toInt / 16 ≤ 5 ∧ (v.toInt % 4) * (I (ad g 50) 3).toInt + (v.toInt / 16) * (I (ad g 50) 4).toInt ≤ co.toInt)) := by
  refine SP_of ⟨by decide, rfl⟩ (Nat.le_of_ble_eq_true rfl) ?_
  have e13776 : I (ad g 1) 1 = L := hI.2
  have b13777 := BT_get hI.1 1 1 2 (0) (0) (900) (by decide) 1 (by decide) (by decide)
  rw [e13776] at b13777
  refine WP_iload_n dX6_habit_0 rfl ?_
  refine WQ_iconst (4) (4) dX6_habit_1 rfl rfl (fun v13778 hv13778 => ?_)
  refine WQ_icmp_ne 7 dX6_habit_2 rfl (fun c13778 => ?_) (fun c13778 => ?_)
  · refine WP_iload_n dX6_habit_7 rfl ?_
    refine WQ_iconst (2) (2) dX6_habit_8 rfl rfl (fun v13780 hv13780 => ?_)
    refine WQ_icmp_ne 20 dX6_habit_9 rfl (fun c13780 => ?_) (fun c13780 => ?_)
    · refine WQ_iconst (0) (0) dX6_habit_20 rfl rfl (fun v13782 hv13782 => ?_)
      refine WP_istore (ls' := [(0, _), (1, _), (2, _), (3, _), (4, _)]) dX6_habit_21 (by decide) rfl ?_
      refine WP_aload_n dX6_habit_23 rfl ?_
      refine WQ_geti dX6_habit_24 fX6_54 rfl (lyx_is hy 50 6 rfl) (BT_get hI.1 50 5 6 (0) (0) (3) (by decide) 5 (by decide) (by decide)) (fun v13783 ev13783 av13783 bv13783 => ?_)
      refine WP_aload_n dX6_habit_27 rfl ?_
      refine WQ_geti dX6_habit_28 fX6_36 rfl (lyx_is hy 50 6 rfl) (BT_get hI.1 50 1 2 (0) (0) (3) (by decide) 1 (by decide) (by decide)) (fun v13784 ev13784 av13784 bv13784 => ?_)
      refine WP_iload dX6_habit_31 rfl ?_
      refine WQ_isub dX6_habit_33 (by omega) (by omega) (fun v13785 hv13785 => ?_)
      refine WQ_min dX6_habit_34 lX6_78 ⟨by decide, Nat.le_of_ble_eq_true rfl⟩ (fun v13786 av13786 bv13786 cv13786 => ?_)
      refine WP_iload_n dX6_habit_37 rfl ?_
      refine WP_aload_n dX6_habit_38 rfl ?_
      refine WQ_geti dX6_habit_39 fX6_48 rfl (lyx_is hy 50 6 rfl) (BT_get hI.1 50 3 4 (0) (0) (20) (by decide) 3 (by decide) (by decide)) (fun v13787 ev13787 av13787 bv13787 => ?_)
      refine WP_callN2 dX6_habit_42 ⟨⟨⟨by decide, by decide⟩, zX10_affordable⟩, lX6_83, tX10_affordable⟩ (sx_afford hy hr hI co v13787 (by omega) (by omega) (by omega) (by omega)) (Nat.le_of_ble_eq_true rfl) ?_
      intro r Ia Ja Ra hq
      obtain ⟨⟨ea, eb, ec⟩, v13788, rfl, av13788, bv13788, cv13788⟩ := hq
      show WP _ _ _ _ (.int _ :: _) _ _ _ _
      rw [ea, eb, ec]
      clear ea eb ec Ia Ja Ra
      refine WQ_min dX6_habit_45 lX6_78 ⟨by decide, Nat.le_of_ble_eq_true rfl⟩ (fun v13789 av13789 bv13789 cv13789 => ?_)
      refine WP_istore (ls' := [(0, _), (1, _), (2, _), (3, _), (4, _), (5, _)]) dX6_habit_48 (by decide) rfl ?_
      refine WP_iload_n dX6_habit_50 rfl ?_
      refine WQ_iconst (2) (2) dX6_habit_51 rfl rfl (fun v13790 hv13790 => ?_)
      refine WQ_icmp_eq 72 dX6_habit_52 rfl (fun c13790 => ?_) (fun c13790 => ?_)
      · refine WQ_iconst (0) (0) dX6_habit_72 rfl rfl (fun v13792 hv13792 => ?_)
        refine WP_istore (ls' := [(0, _), (1, _), (2, _), (3, _), (4, _), (5, _), (6, _)]) dX6_habit_73 (by decide) rfl ?_
        refine WP_iload_n dX6_habit_75 rfl ?_
        refine WQ_if_eq 91 dX6_habit_76 rfl (fun c13792 => False.elim (by omega)) (fun c13792 => ?_)
        refine WP_iload_n dX6_habit_79 rfl ?_
        refine WQ_iconst (2) (2) dX6_habit_80 rfl rfl (fun v13794 hv13794 => ?_)
        refine WQ_icmp_ne 133 dX6_habit_81 rfl (fun c13794 => False.elim (by omega)) (fun c13794 => ?_)
        refine WP_aload_n dX6_habit_84 rfl ?_
        refine WQ_geti dX6_habit_85 fX6_67 rfl (lyx_is hy 50 6 rfl) (BT_get hI.1 50 8 9 (0) (0) (1) (by decide) 8 (by decide) (by decide)) (fun v13796 ev13796 av13796 bv13796 => ?_)
        refine WQ_if_eq 133 dX6_habit_88 rfl (fun c13796 => ?_) (fun c13796 => ?_)
        · refine WQ_bipush (16) (16) dX6_habit_133 rfl rfl (fun v13798 hv13798 => ?_)
          refine WP_iload dX6_habit_135 rfl ?_
          refine WQ_imulk (0) dX6_habit_137 hv13792 (by omega) (by omega) (fun v13799 hv13799 => ?_)
          refine WQ_iconst (4) (4) dX6_habit_138 rfl rfl (fun v13800 hv13800 => ?_)
          refine WP_iload dX6_habit_139 rfl ?_
          refine WQ_imulk (0) dX6_habit_141 hv13782 (by omega) (by omega) (fun v13801 hv13801 => ?_)
          refine WQ_iadd dX6_habit_142 (by omega) (by omega) (fun v13802 hv13802 => ?_)
          refine WP_iload dX6_habit_143 rfl ?_
          refine WQ_iadd dX6_habit_145 (by omega) (by omega) (fun v13803 hv13803 => ?_)
          obtain ⟨w13804, ew13804⟩ : ∃ w : Int32, I (ad g 50) 4 = w := ⟨_, rfl⟩
          have bw13804 := BT_get hI.1 50 4 5 (0) (0) (20) (by decide) 4 (by decide) (by decide)
          rw [ew13804] at bw13804
          exact WP_iret dX6_habit_146 rfl ⟨⟨rfl, rfl, rfl⟩, _, rfl, by omega, by omega, (by
                have ee : v13803.toInt % 4 = v13789.toInt := by omega
                have es : v13803.toInt / 16 = v13792.toInt := by omega
                have ef : v13803.toInt / 4 % 4 = v13782.toInt := by omega
                rw [ee, es, ef, ev13787, ew13804]
                have k1 : v13789.toInt * v13787.toInt ≤ v13788.toInt * v13787.toInt := Int.mul_le_mul_of_nonneg_right (by omega) (by omega)
                have k2 : v13792.toInt * w13804.toInt = 0 := by rw [show v13792.toInt = 0 by omega]; simp
                exact ⟨by omega, by omega, by omega⟩)⟩
        · refine WQ_iconst (5) (5) dX6_habit_91 rfl rfl (fun v13805 hv13805 => ?_)
          refine WP_iload_n dX6_habit_92 rfl ?_
          refine WQ_isub dX6_habit_93 (by omega) (by omega) (fun v13806 hv13806 => ?_)
          refine WP_iload dX6_habit_94 rfl ?_
          refine WQ_iadd dX6_habit_96 (by omega) (by omega) (fun v13807 hv13807 => ?_)
          refine WP_istore (ls' := [(0, _), (1, _), (2, _), (3, _), (4, _), (5, _), (6, _), (7, _)]) dX6_habit_97 (by decide) rfl ?_
          refine WP_iload_n dX6_habit_99 rfl ?_
          refine WP_iload dX6_habit_100 rfl ?_
          refine WP_aload_n dX6_habit_102 rfl ?_
          refine WQ_getim dX6_habit_103 fX6_48 rfl (lyx_is hy 50 6 rfl) ev13787 ?_
          refine WQ_imulb (3) (20) dX6_habit_106 ⟨by omega, by omega⟩ ⟨by omega, by omega⟩ (by decide) (fun v13808 pv13808 av13808 bv13808 cv13808 => ?_)
          have k0 : v13789.toInt * v13787.toInt ≤ v13788.toInt * v13787.toInt := Int.mul_le_mul_of_nonneg_right (by omega) (by omega)
          refine WQ_isub dX6_habit_107 (by omega) (by omega) (fun v13809 hv13809 => ?_)
          refine WP_aload_n dX6_habit_108 rfl ?_
          refine WQ_geti dX6_habit_109 fX6_51 rfl (lyx_is hy 50 6 rfl) (BT_get hI.1 50 4 5 (0) (0) (20) (by decide) 4 (by decide) (by decide)) (fun v13810 ev13810 av13810 bv13810 => ?_)
          refine WP_callN2 dX6_habit_112 ⟨⟨⟨by decide, by decide⟩, zX10_affordable⟩, lX6_83, tX10_affordable⟩ (sx_afford hy hr hI v13809 v13810 (by omega) (by omega) (by omega) (by omega)) (Nat.le_of_ble_eq_true rfl) ?_
          intro r Ia Ja Ra hq
          obtain ⟨⟨ea, eb, ec⟩, v13811, rfl, av13811, bv13811, cv13811⟩ := hq
          show WP _ _ _ _ (.int _ :: _) _ _ _ _
          rw [ea, eb, ec]
          clear ea eb ec Ia Ja Ra
          refine WP_istore (ls' := [(0, _), (1, _), (2, _), (3, _), (4, _), (5, _), (6, _), (7, _), (8, _)]) dX6_habit_115 (by decide) rfl ?_
          refine WP_aload_n dX6_habit_117 rfl ?_
          refine WQ_geti dX6_habit_118 fX6_57 rfl (lyx_is hy 50 6 rfl) (BT_get hI.1 50 6 7 (0) (0) (2) (by decide) 6 (by decide) (by decide)) (fun v13812 ev13812 av13812 bv13812 => ?_)
          refine WP_iload dX6_habit_121 rfl ?_
          refine WQ_min dX6_habit_123 lX6_78 ⟨by decide, Nat.le_of_ble_eq_true rfl⟩ (fun v13813 av13813 bv13813 cv13813 => ?_)
          refine WP_iload dX6_habit_126 rfl ?_
          refine WQ_min dX6_habit_128 lX6_78 ⟨by decide, Nat.le_of_ble_eq_true rfl⟩ (fun v13814 av13814 bv13814 cv13814 => ?_)
          refine WP_istore (ls' := [(0, _), (1, _), (2, _), (3, _), (4, _), (5, _), (6, _), (7, _), (8, _)]) dX6_habit_131 (by decide) rfl ?_
          refine WQ_bipush (16) (16) dX6_habit_133 rfl rfl (fun v13815 hv13815 => ?_)
          refine WP_iload dX6_habit_135 rfl ?_
          refine WQ_imulK (16) dX6_habit_137 hv13815 (by omega) (by omega) (fun v13816 hv13816 => ?_)
          refine WQ_iconst (4) (4) dX6_habit_138 rfl rfl (fun v13817 hv13817 => ?_)
          refine WP_iload dX6_habit_139 rfl ?_
          refine WQ_imulk (0) dX6_habit_141 hv13782 (by omega) (by omega) (fun v13818 hv13818 => ?_)
          refine WQ_iadd dX6_habit_142 (by omega) (by omega) (fun v13819 hv13819 => ?_)
          refine WP_iload dX6_habit_143 rfl ?_
          refine WQ_iadd dX6_habit_145 (by omega) (by omega) (fun v13820 hv13820 => ?_)
          exact WP_iret dX6_habit_146 rfl ⟨⟨rfl, rfl, rfl⟩, _, rfl, by omega, by omega, (by
                have ee : v13820.toInt % 4 = v13789.toInt := by omega
                have es : v13820.toInt / 16 = v13814.toInt := by omega
                have ef : v13820.toInt / 4 % 4 = v13782.toInt := by omega
                rw [ee, es, ef, ev13787, ev13810]
                have k1 : v13789.toInt * v13787.toInt ≤ v13788.toInt * v13787.toInt := Int.mul_le_mul_of_nonneg_right (by omega) (by omega)
                have k2 : v13814.toInt * v13810.toInt ≤ v13811.toInt * v13810.toInt := Int.mul_le_mul_of_nonneg_right (by omega) (by omega)
                exact ⟨by omega, by omega, by omega⟩)⟩
      · refine WP_aload_n dX6_habit_55 rfl ?_
        refine WQ_getim dX6_habit_56 fX6_36 rfl (lyx_is hy 50 6 rfl) ev13784 ?_
        refine WP_iload dX6_habit_59 rfl ?_
        refine WQ_isub dX6_habit_61 (by omega) (by omega) (fun v13821 hv13821 => ?_)
        refine WP_aload_n dX6_habit_62 rfl ?_
        refine WP_iload_n dX6_habit_63 rfl ?_
        refine WP_callV1 (k := 6) dX6_habit_64 ⟨⟨⟨by decide, by decide⟩, zX6_mostFromStore⟩, lX6_70, by decide, rfl, vX6_mostFromStore.1, vX6_mostFromStore.2⟩ (lyx_is hy 50 6 rfl) (sx_mfs_50 hy hr hI st (by omega) (by omega)) (Nat.le_of_ble_eq_true rfl) ?_
        intro r Ia Ja Ra hq
        obtain ⟨⟨ea, eb, ec⟩, v13822, rfl, av13822, bv13822, cv13822⟩ := hq
        show WP _ _ _ _ (.int _ :: _) _ _ _ _
        rw [ea, eb, ec]
        clear ea eb ec Ia Ja Ra
        rw [ev13784] at cv13822
        refine WQ_min dX6_habit_67 lX6_78 ⟨by decide, Nat.le_of_ble_eq_true rfl⟩ (fun v13823 av13823 bv13823 cv13823 => ?_)
        refine WP_istore (ls' := [(0, _), (1, _), (2, _), (3, _), (4, _), (5, _)]) dX6_habit_70 (by decide) rfl ?_
        refine WQ_iconst (0) (0) dX6_habit_72 rfl rfl (fun v13824 hv13824 => ?_)
        refine WP_istore (ls' := [(0, _), (1, _), (2, _), (3, _), (4, _), (5, _), (6, _)]) dX6_habit_73 (by decide) rfl ?_
        refine WP_iload_n dX6_habit_75 rfl ?_
        refine WQ_if_eq 91 dX6_habit_76 rfl (fun c13824 => ?_) (fun c13824 => ?_)
        · refine WQ_iconst (5) (5) dX6_habit_91 rfl rfl (fun v13826 hv13826 => ?_)
          refine WP_iload_n dX6_habit_92 rfl ?_
          refine WQ_isub dX6_habit_93 (by omega) (by omega) (fun v13827 hv13827 => ?_)
          refine WP_iload dX6_habit_94 rfl ?_
          refine WQ_iadd dX6_habit_96 (by omega) (by omega) (fun v13828 hv13828 => ?_)
          refine WP_istore (ls' := [(0, _), (1, _), (2, _), (3, _), (4, _), (5, _), (6, _), (7, _)]) dX6_habit_97 (by decide) rfl ?_
          refine WP_iload_n dX6_habit_99 rfl ?_
          refine WP_iload dX6_habit_100 rfl ?_
          refine WP_aload_n dX6_habit_102 rfl ?_
          refine WQ_getim dX6_habit_103 fX6_48 rfl (lyx_is hy 50 6 rfl) ev13787 ?_
          refine WQ_imulb (3) (20) dX6_habit_106 ⟨by omega, by omega⟩ ⟨by omega, by omega⟩ (by decide) (fun v13829 pv13829 av13829 bv13829 cv13829 => ?_)
          have k0 : v13789.toInt * v13787.toInt ≤ v13788.toInt * v13787.toInt := Int.mul_le_mul_of_nonneg_right (by omega) (by omega)
          refine WQ_isub dX6_habit_107 (by omega) (by omega) (fun v13830 hv13830 => ?_)
          refine WP_aload_n dX6_habit_108 rfl ?_
          refine WQ_geti dX6_habit_109 fX6_51 rfl (lyx_is hy 50 6 rfl) (BT_get hI.1 50 4 5 (0) (0) (20) (by decide) 4 (by decide) (by decide)) (fun v13831 ev13831 av13831 bv13831 => ?_)
          refine WP_callN2 dX6_habit_112 ⟨⟨⟨by decide, by decide⟩, zX10_affordable⟩, lX6_83, tX10_affordable⟩ (sx_afford hy hr hI v13830 v13831 (by omega) (by omega) (by omega) (by omega)) (Nat.le_of_ble_eq_true rfl) ?_
          intro r Ia Ja Ra hq
          obtain ⟨⟨ea, eb, ec⟩, v13832, rfl, av13832, bv13832, cv13832⟩ := hq
          show WP _ _ _ _ (.int _ :: _) _ _ _ _
          rw [ea, eb, ec]
          clear ea eb ec Ia Ja Ra
          refine WP_istore (ls' := [(0, _), (1, _), (2, _), (3, _), (4, _), (5, _), (6, _), (7, _), (8, _)]) dX6_habit_115 (by decide) rfl ?_
          refine WP_aload_n dX6_habit_117 rfl ?_
          refine WQ_geti dX6_habit_118 fX6_57 rfl (lyx_is hy 50 6 rfl) (BT_get hI.1 50 6 7 (0) (0) (2) (by decide) 6 (by decide) (by decide)) (fun v13833 ev13833 av13833 bv13833 => ?_)
          refine WP_iload dX6_habit_121 rfl ?_
          refine WQ_min dX6_habit_123 lX6_78 ⟨by decide, Nat.le_of_ble_eq_true rfl⟩ (fun v13834 av13834 bv13834 cv13834 => ?_)
          refine WP_iload dX6_habit_126 rfl ?_
          refine WQ_min dX6_habit_128 lX6_78 ⟨by decide, Nat.le_of_ble_eq_true rfl⟩ (fun v13835 av13835 bv13835 cv13835 => ?_)
          refine WP_istore (ls' := [(0, _), (1, _), (2, _), (3, _), (4, _), (5, _), (6, _), (7, _), (8, _)]) dX6_habit_131 (by decide) rfl ?_
          refine WQ_bipush (16) (16) dX6_habit_133 rfl rfl (fun v13836 hv13836 => ?_)
          refine WP_iload dX6_habit_135 rfl ?_
          refine WQ_imulK (16) dX6_habit_137 hv13836 (by omega) (by omega) (fun v13837 hv13837 => ?_)
          refine WQ_iconst (4) (4) dX6_habit_138 rfl rfl (fun v13838 hv13838 => ?_)
          refine WP_iload dX6_habit_139 rfl ?_
          refine WQ_imulK (4) dX6_habit_141 hv13838 (by omega) (by omega) (fun v13839 hv13839 => ?_)
          refine WQ_iadd dX6_habit_142 (by omega) (by omega) (fun v13840 hv13840 => ?_)
          refine WP_iload dX6_habit_143 rfl ?_
          refine WQ_iadd dX6_habit_145 (by omega) (by omega) (fun v13841 hv13841 => ?_)
          exact WP_iret dX6_habit_146 rfl ⟨⟨rfl, rfl, rfl⟩, _, rfl, by omega, by omega, (by
                have ee : v13841.toInt % 4 = v13789.toInt := by omega
                have es : v13841.toInt / 16 = v13835.toInt := by omega
                have ef : v13841.toInt / 4 % 4 = v13823.toInt := by omega
                rw [ee, es, ef, ev13787, ev13831]
                have k1 : v13789.toInt * v13787.toInt ≤ v13788.toInt * v13787.toInt := Int.mul_le_mul_of_nonneg_right (by omega) (by omega)
                have k2 : v13835.toInt * v13831.toInt ≤ v13832.toInt * v13831.toInt := Int.mul_le_mul_of_nonneg_right (by omega) (by omega)
                exact ⟨by omega, by omega, by omega⟩)⟩
        · refine WP_iload_n dX6_habit_79 rfl ?_
          refine WQ_iconst (2) (2) dX6_habit_80 rfl rfl (fun v13842 hv13842 => ?_)
          refine WQ_icmp_ne 133 dX6_habit_81 rfl (fun c13842 => ?_) (fun c13842 => ?_)
          · refine WQ_bipush (16) (16) dX6_habit_133 rfl rfl (fun v13844 hv13844 => ?_)
            refine WP_iload dX6_habit_135 rfl ?_
            refine WQ_imulk (0) dX6_habit_137 hv13824 (by omega) (by omega) (fun v13845 hv13845 => ?_)
            refine WQ_iconst (4) (4) dX6_habit_138 rfl rfl (fun v13846 hv13846 => ?_)
            refine WP_iload dX6_habit_139 rfl ?_
            refine WQ_imulK (4) dX6_habit_141 hv13846 (by omega) (by omega) (fun v13847 hv13847 => ?_)
            refine WQ_iadd dX6_habit_142 (by omega) (by omega) (fun v13848 hv13848 => ?_)
            refine WP_iload dX6_habit_143 rfl ?_
            refine WQ_iadd dX6_habit_145 (by omega) (by omega) (fun v13849 hv13849 => ?_)
            obtain ⟨w13850, ew13850⟩ : ∃ w : Int32, I (ad g 50) 4 = w := ⟨_, rfl⟩
            have bw13850 := BT_get hI.1 50 4 5 (0) (0) (20) (by decide) 4 (by decide) (by decide)
            rw [ew13850] at bw13850
            exact WP_iret dX6_habit_146 rfl ⟨⟨rfl, rfl, rfl⟩, _, rfl, by omega, by omega, (by
                  have ee : v13849.toInt % 4 = v13789.toInt := by omega
                  have es : v13849.toInt / 16 = v13824.toInt := by omega
                  have ef : v13849.toInt / 4 % 4 = v13823.toInt := by omega
                  rw [ee, es, ef, ev13787, ew13850]
                  have k1 : v13789.toInt * v13787.toInt ≤ v13788.toInt * v13787.toInt := Int.mul_le_mul_of_nonneg_right (by omega) (by omega)
                  have k2 : v13824.toInt * w13850.toInt = 0 := by rw [show v13824.toInt = 0 by omega]; simp
                  exact ⟨by omega, by omega, by omega⟩)⟩
          · refine WP_aload_n dX6_habit_84 rfl ?_
            refine WQ_geti dX6_habit_85 fX6_67 rfl (lyx_is hy 50 6 rfl) (BT_get hI.1 50 8 9 (0) (0) (1) (by decide) 8 (by decide) (by decide)) (fun v13851 ev13851 av13851 bv13851 => ?_)
            refine WQ_if_eq 133 dX6_habit_88 rfl (fun c13851 => ?_) (fun c13851 => ?_)
            · refine WQ_bipush (16) (16) dX6_habit_133 rfl rfl (fun v13853 hv13853 => ?_)
              refine WP_iload dX6_habit_135 rfl ?_
              refine WQ_imulk (0) dX6_habit_137 hv13824 (by omega) (by omega) (fun v13854 hv13854 => ?_)
              refine WQ_iconst (4) (4) dX6_habit_138 rfl rfl (fun v13855 hv13855 => ?_)
              refine WP_iload dX6_habit_139 rfl ?_
              refine WQ_imulK (4) dX6_habit_141 hv13855 (by omega) (by omega) (fun v13856 hv13856 => ?_)
              refine WQ_iadd dX6_habit_142 (by omega) (by omega) (fun v13857 hv13857 => ?_)
              refine WP_iload dX6_habit_143 rfl ?_
              refine WQ_iadd dX6_habit_145 (by omega) (by omega) (fun v13858 hv13858 => ?_)
              obtain ⟨w13859, ew13859⟩ : ∃ w : Int32, I (ad g 50) 4 = w := ⟨_, rfl⟩
              have bw13859 := BT_get hI.1 50 4 5 (0) (0) (20) (by decide) 4 (by decide) (by decide)
              rw [ew13859] at bw13859
              exact WP_iret dX6_habit_146 rfl ⟨⟨rfl, rfl, rfl⟩, _, rfl, by omega, by omega, (by
                    have ee : v13858.toInt % 4 = v13789.toInt := by omega
                    have es : v13858.toInt / 16 = v13824.toInt := by omega
                    have ef : v13858.toInt / 4 % 4 = v13823.toInt := by omega
                    rw [ee, es, ef, ev13787, ew13859]
                    have k1 : v13789.toInt * v13787.toInt ≤ v13788.toInt * v13787.toInt := Int.mul_le_mul_of_nonneg_right (by omega) (by omega)
                    have k2 : v13824.toInt * w13859.toInt = 0 := by rw [show v13824.toInt = 0 by omega]; simp
                    exact ⟨by omega, by omega, by omega⟩)⟩
            · refine WQ_iconst (5) (5) dX6_habit_91 rfl rfl (fun v13860 hv13860 => ?_)
              refine WP_iload_n dX6_habit_92 rfl ?_
              refine WQ_isub dX6_habit_93 (by omega) (by omega) (fun v13861 hv13861 => ?_)
              refine WP_iload dX6_habit_94 rfl ?_
              refine WQ_iadd dX6_habit_96 (by omega) (by omega) (fun v13862 hv13862 => ?_)
              refine WP_istore (ls' := [(0, _), (1, _), (2, _), (3, _), (4, _), (5, _), (6, _), (7, _)]) dX6_habit_97 (by decide) rfl ?_
              refine WP_iload_n dX6_habit_99 rfl ?_
              refine WP_iload dX6_habit_100 rfl ?_
              refine WP_aload_n dX6_habit_102 rfl ?_
              refine WQ_getim dX6_habit_103 fX6_48 rfl (lyx_is hy 50 6 rfl) ev13787 ?_
              refine WQ_imulb (3) (20) dX6_habit_106 ⟨by omega, by omega⟩ ⟨by omega, by omega⟩ (by decide) (fun v13863 pv13863 av13863 bv13863 cv13863 => ?_)
              have k0 : v13789.toInt * v13787.toInt ≤ v13788.toInt * v13787.toInt := Int.mul_le_mul_of_nonneg_right (by omega) (by omega)
              refine WQ_isub dX6_habit_107 (by omega) (by omega) (fun v13864 hv13864 => ?_)
              refine WP_aload_n dX6_habit_108 rfl ?_
              refine WQ_geti dX6_habit_109 fX6_51 rfl (lyx_is hy 50 6 rfl) (BT_get hI.1 50 4 5 (0) (0) (20) (by decide) 4 (by decide) (by decide)) (fun v13865 ev13865 av13865 bv13865 => ?_)
              refine WP_callN2 dX6_habit_112 ⟨⟨⟨by decide, by decide⟩, zX10_affordable⟩, lX6_83, tX10_affordable⟩ (sx_afford hy hr hI v13864 v13865 (by omega) (by omega) (by omega) (by omega)) (Nat.le_of_ble_eq_true rfl) ?_
              intro r Ia Ja Ra hq
              obtain ⟨⟨ea, eb, ec⟩, v13866, rfl, av13866, bv13866, cv13866⟩ := hq
              show WP _ _ _ _ (.int _ :: _) _ _ _ _
              rw [ea, eb, ec]
              clear ea eb ec Ia Ja Ra
              refine WP_istore (ls' := [(0, _), (1, _), (2, _), (3, _), (4, _), (5, _), (6, _), (7, _), (8, _)]) dX6_habit_115 (by decide) rfl ?_
              refine WP_aload_n dX6_habit_117 rfl ?_
              refine WQ_geti dX6_habit_118 fX6_57 rfl (lyx_is hy 50 6 rfl) (BT_get hI.1 50 6 7 (0) (0) (2) (by decide) 6 (by decide) (by decide)) (fun v13867 ev13867 av13867 bv13867 => ?_)
              refine WP_iload dX6_habit_121 rfl ?_
              refine WQ_min dX6_habit_123 lX6_78 ⟨by decide, Nat.le_of_ble_eq_true rfl⟩ (fun v13868 av13868 bv13868 cv13868 => ?_)
              refine WP_iload dX6_habit_126 rfl ?_
              refine WQ_min dX6_habit_128 lX6_78 ⟨by decide, Nat.le_of_ble_eq_true rfl⟩ (fun v13869 av13869 bv13869 cv13869 => ?_)
              refine WP_istore (ls' := [(0, _), (1, _), (2, _), (3, _), (4, _), (5, _), (6, _), (7, _), (8, _)]) dX6_habit_131 (by decide) rfl ?_
              refine WQ_bipush (16) (16) dX6_habit_133 rfl rfl (fun v13870 hv13870 => ?_)
              refine WP_iload dX6_habit_135 rfl ?_
              refine WQ_imulK (16) dX6_habit_137 hv13870 (by omega) (by omega) (fun v13871 hv13871 => ?_)
              refine WQ_iconst (4) (4) dX6_habit_138 rfl rfl (fun v13872 hv13872 => ?_)
              refine WP_iload dX6_habit_139 rfl ?_
              refine WQ_imulK (4) dX6_habit_141 hv13872 (by omega) (by omega) (fun v13873 hv13873 => ?_)
              refine WQ_iadd dX6_habit_142 (by omega) (by omega) (fun v13874 hv13874 => ?_)
              refine WP_iload dX6_habit_143 rfl ?_
              refine WQ_iadd dX6_habit_145 (by omega) (by omega) (fun v13875 hv13875 => ?_)
              exact WP_iret dX6_habit_146 rfl ⟨⟨rfl, rfl, rfl⟩, _, rfl, by omega, by omega, (by
                    have ee : v13875.toInt % 4 = v13789.toInt := by omega
                    have es : v13875.toInt / 16 = v13869.toInt := by omega
                    have ef : v13875.toInt / 4 % 4 = v13823.toInt := by omega
                    rw [ee, es, ef, ev13787, ev13865]
                    have k1 : v13789.toInt * v13787.toInt ≤ v13788.toInt * v13787.toInt := Int.mul_le_mul_of_nonneg_right (by omega) (by omega)
                    have k2 : v13869.toInt * v13865.toInt ≤ v13866.toInt * v13865.toInt := Int.mul_le_mul_of_nonneg_right (by omega) (by omega)
                    exact ⟨by omega, by omega, by omega⟩)⟩
    · refine WP_aload_n dX6_habit_12 rfl ?_
      refine WP_iload_n dX6_habit_13 rfl ?_
      refine WP_callV1 (k := 6) dX6_habit_14 ⟨⟨⟨by decide, by decide⟩, zX6_mostFromStore⟩, lX6_70, by decide, rfl, vX6_mostFromStore.1, vX6_mostFromStore.2⟩ (lyx_is hy 50 6 rfl) (sx_mfs_50 hy hr hI st (by omega) (by omega)) (Nat.le_of_ble_eq_true rfl) ?_
      intro r Ia Ja Ra hq
      obtain ⟨⟨ea, eb, ec⟩, v13876, rfl, av13876, bv13876, cv13876⟩ := hq
      show WP _ _ _ _ (.int _ :: _) _ _ _ _
      rw [ea, eb, ec]
      clear ea eb ec Ia Ja Ra
      obtain ⟨w13877, ew13877⟩ : ∃ w : Int32, I (ad g 50) 1 = w := ⟨_, rfl⟩
      have bw13877 := BT_get hI.1 50 1 2 (0) (0) (3) (by decide) 1 (by decide) (by decide)
      rw [ew13877] at bw13877
      rw [ew13877] at cv13876
      refine WP_goto 21 dX6_habit_17 rfl ?_
      refine WP_istore (ls' := [(0, _), (1, _), (2, _), (3, _), (4, _)]) dX6_habit_21 (by decide) rfl ?_
      refine WP_aload_n dX6_habit_23 rfl ?_
      refine WQ_geti dX6_habit_24 fX6_54 rfl (lyx_is hy 50 6 rfl) (BT_get hI.1 50 5 6 (0) (0) (3) (by decide) 5 (by decide) (by decide)) (fun v13878 ev13878 av13878 bv13878 => ?_)
      refine WP_aload_n dX6_habit_27 rfl ?_
      refine WQ_getim dX6_habit_28 fX6_36 rfl (lyx_is hy 50 6 rfl) ew13877 ?_
      refine WP_iload dX6_habit_31 rfl ?_
      refine WQ_isub dX6_habit_33 (by omega) (by omega) (fun v13879 hv13879 => ?_)
      refine WQ_min dX6_habit_34 lX6_78 ⟨by decide, Nat.le_of_ble_eq_true rfl⟩ (fun v13880 av13880 bv13880 cv13880 => ?_)
      refine WP_iload_n dX6_habit_37 rfl ?_
      refine WP_aload_n dX6_habit_38 rfl ?_
      refine WQ_geti dX6_habit_39 fX6_48 rfl (lyx_is hy 50 6 rfl) (BT_get hI.1 50 3 4 (0) (0) (20) (by decide) 3 (by decide) (by decide)) (fun v13881 ev13881 av13881 bv13881 => ?_)
      refine WP_callN2 dX6_habit_42 ⟨⟨⟨by decide, by decide⟩, zX10_affordable⟩, lX6_83, tX10_affordable⟩ (sx_afford hy hr hI co v13881 (by omega) (by omega) (by omega) (by omega)) (Nat.le_of_ble_eq_true rfl) ?_
      intro r Ia Ja Ra hq
      obtain ⟨⟨ea, eb, ec⟩, v13882, rfl, av13882, bv13882, cv13882⟩ := hq
      show WP _ _ _ _ (.int _ :: _) _ _ _ _
      rw [ea, eb, ec]
      clear ea eb ec Ia Ja Ra
      refine WQ_min dX6_habit_45 lX6_78 ⟨by decide, Nat.le_of_ble_eq_true rfl⟩ (fun v13883 av13883 bv13883 cv13883 => ?_)
      refine WP_istore (ls' := [(0, _), (1, _), (2, _), (3, _), (4, _), (5, _)]) dX6_habit_48 (by decide) rfl ?_
      refine WP_iload_n dX6_habit_50 rfl ?_
      refine WQ_iconst (2) (2) dX6_habit_51 rfl rfl (fun v13884 hv13884 => ?_)
      refine WQ_icmp_eq 72 dX6_habit_52 rfl (fun c13884 => ?_) (fun c13884 => False.elim (by omega))
      refine WQ_iconst (0) (0) dX6_habit_72 rfl rfl (fun v13886 hv13886 => ?_)
      refine WP_istore (ls' := [(0, _), (1, _), (2, _), (3, _), (4, _), (5, _), (6, _)]) dX6_habit_73 (by decide) rfl ?_
      refine WP_iload_n dX6_habit_75 rfl ?_
      refine WQ_if_eq 91 dX6_habit_76 rfl (fun c13886 => False.elim (by omega)) (fun c13886 => ?_)
      refine WP_iload_n dX6_habit_79 rfl ?_
      refine WQ_iconst (2) (2) dX6_habit_80 rfl rfl (fun v13888 hv13888 => ?_)
      refine WQ_icmp_ne 133 dX6_habit_81 rfl (fun c13888 => False.elim (by omega)) (fun c13888 => ?_)
      refine WP_aload_n dX6_habit_84 rfl ?_
      refine WQ_geti dX6_habit_85 fX6_67 rfl (lyx_is hy 50 6 rfl) (BT_get hI.1 50 8 9 (0) (0) (1) (by decide) 8 (by decide) (by decide)) (fun v13890 ev13890 av13890 bv13890 => ?_)
      refine WQ_if_eq 133 dX6_habit_88 rfl (fun c13890 => ?_) (fun c13890 => ?_)
      · refine WQ_bipush (16) (16) dX6_habit_133 rfl rfl (fun v13892 hv13892 => ?_)
        refine WP_iload dX6_habit_135 rfl ?_
        refine WQ_imulk (0) dX6_habit_137 hv13886 (by omega) (by omega) (fun v13893 hv13893 => ?_)
        refine WQ_iconst (4) (4) dX6_habit_138 rfl rfl (fun v13894 hv13894 => ?_)
        refine WP_iload dX6_habit_139 rfl ?_
        refine WQ_imulK (4) dX6_habit_141 hv13894 (by omega) (by omega) (fun v13895 hv13895 => ?_)
        refine WQ_iadd dX6_habit_142 (by omega) (by omega) (fun v13896 hv13896 => ?_)
        refine WP_iload dX6_habit_143 rfl ?_
        refine WQ_iadd dX6_habit_145 (by omega) (by omega) (fun v13897 hv13897 => ?_)
        obtain ⟨w13898, ew13898⟩ : ∃ w : Int32, I (ad g 50) 4 = w := ⟨_, rfl⟩
        have bw13898 := BT_get hI.1 50 4 5 (0) (0) (20) (by decide) 4 (by decide) (by decide)
        rw [ew13898] at bw13898
        exact WP_iret dX6_habit_146 rfl ⟨⟨rfl, rfl, rfl⟩, _, rfl, by omega, by omega, (by
              have ee : v13897.toInt % 4 = v13883.toInt := by omega
              have es : v13897.toInt / 16 = v13886.toInt := by omega
              have ef : v13897.toInt / 4 % 4 = v13876.toInt := by omega
              rw [ee, es, ef, ev13881, ew13898]
              have k1 : v13883.toInt * v13881.toInt ≤ v13882.toInt * v13881.toInt := Int.mul_le_mul_of_nonneg_right (by omega) (by omega)
              have k2 : v13886.toInt * w13898.toInt = 0 := by rw [show v13886.toInt = 0 by omega]; simp
              exact ⟨by omega, by omega, by omega⟩)⟩
      · refine WQ_iconst (5) (5) dX6_habit_91 rfl rfl (fun v13899 hv13899 => ?_)
        refine WP_iload_n dX6_habit_92 rfl ?_
        refine WQ_isub dX6_habit_93 (by omega) (by omega) (fun v13900 hv13900 => ?_)
        refine WP_iload dX6_habit_94 rfl ?_
        refine WQ_iadd dX6_habit_96 (by omega) (by omega) (fun v13901 hv13901 => ?_)
        refine WP_istore (ls' := [(0, _), (1, _), (2, _), (3, _), (4, _), (5, _), (6, _), (7, _)]) dX6_habit_97 (by decide) rfl ?_
        refine WP_iload_n dX6_habit_99 rfl ?_
        refine WP_iload dX6_habit_100 rfl ?_
        refine WP_aload_n dX6_habit_102 rfl ?_
        refine WQ_getim dX6_habit_103 fX6_48 rfl (lyx_is hy 50 6 rfl) ev13881 ?_
        refine WQ_imulb (3) (20) dX6_habit_106 ⟨by omega, by omega⟩ ⟨by omega, by omega⟩ (by decide) (fun v13902 pv13902 av13902 bv13902 cv13902 => ?_)
        have k0 : v13883.toInt * v13881.toInt ≤ v13882.toInt * v13881.toInt := Int.mul_le_mul_of_nonneg_right (by omega) (by omega)
        refine WQ_isub dX6_habit_107 (by omega) (by omega) (fun v13903 hv13903 => ?_)
        refine WP_aload_n dX6_habit_108 rfl ?_
        refine WQ_geti dX6_habit_109 fX6_51 rfl (lyx_is hy 50 6 rfl) (BT_get hI.1 50 4 5 (0) (0) (20) (by decide) 4 (by decide) (by decide)) (fun v13904 ev13904 av13904 bv13904 => ?_)
        refine WP_callN2 dX6_habit_112 ⟨⟨⟨by decide, by decide⟩, zX10_affordable⟩, lX6_83, tX10_affordable⟩ (sx_afford hy hr hI v13903 v13904 (by omega) (by omega) (by omega) (by omega)) (Nat.le_of_ble_eq_true rfl) ?_
        intro r Ia Ja Ra hq
        obtain ⟨⟨ea, eb, ec⟩, v13905, rfl, av13905, bv13905, cv13905⟩ := hq
        show WP _ _ _ _ (.int _ :: _) _ _ _ _
        rw [ea, eb, ec]
        clear ea eb ec Ia Ja Ra
        refine WP_istore (ls' := [(0, _), (1, _), (2, _), (3, _), (4, _), (5, _), (6, _), (7, _), (8, _)]) dX6_habit_115 (by decide) rfl ?_
        refine WP_aload_n dX6_habit_117 rfl ?_
        refine WQ_geti dX6_habit_118 fX6_57 rfl (lyx_is hy 50 6 rfl) (BT_get hI.1 50 6 7 (0) (0) (2) (by decide) 6 (by decide) (by decide)) (fun v13906 ev13906 av13906 bv13906 => ?_)
        refine WP_iload dX6_habit_121 rfl ?_
        refine WQ_min dX6_habit_123 lX6_78 ⟨by decide, Nat.le_of_ble_eq_true rfl⟩ (fun v13907 av13907 bv13907 cv13907 => ?_)
        refine WP_iload dX6_habit_126 rfl ?_
        refine WQ_min dX6_habit_128 lX6_78 ⟨by decide, Nat.le_of_ble_eq_true rfl⟩ (fun v13908 av13908 bv13908 cv13908 => ?_)
        refine WP_istore (ls' := [(0, _), (1, _), (2, _), (3, _), (4, _), (5, _), (6, _), (7, _), (8, _)]) dX6_habit_131 (by decide) rfl ?_
        refine WQ_bipush (16) (16) dX6_habit_133 rfl rfl (fun v13909 hv13909 => ?_)
        refine WP_iload dX6_habit_135 rfl ?_
        refine WQ_imulK (16) dX6_habit_137 hv13909 (by omega) (by omega) (fun v13910 hv13910 => ?_)
        refine WQ_iconst (4) (4) dX6_habit_138 rfl rfl (fun v13911 hv13911 => ?_)
        refine WP_iload dX6_habit_139 rfl ?_
        refine WQ_imulK (4) dX6_habit_141 hv13911 (by omega) (by omega) (fun v13912 hv13912 => ?_)
        refine WQ_iadd dX6_habit_142 (by omega) (by omega) (fun v13913 hv13913 => ?_)
        refine WP_iload dX6_habit_143 rfl ?_
        refine WQ_iadd dX6_habit_145 (by omega) (by omega) (fun v13914 hv13914 => ?_)
        exact WP_iret dX6_habit_146 rfl ⟨⟨rfl, rfl, rfl⟩, _, rfl, by omega, by omega, (by
              have ee : v13914.toInt % 4 = v13883.toInt := by omega
              have es : v13914.toInt / 16 = v13908.toInt := by omega
              have ef : v13914.toInt / 4 % 4 = v13876.toInt := by omega
              rw [ee, es, ef, ev13881, ev13904]
              have k1 : v13883.toInt * v13881.toInt ≤ v13882.toInt * v13881.toInt := Int.mul_le_mul_of_nonneg_right (by omega) (by omega)
              have k2 : v13908.toInt * v13904.toInt ≤ v13905.toInt * v13904.toInt := Int.mul_le_mul_of_nonneg_right (by omega) (by omega)
              exact ⟨by omega, by omega, by omega⟩)⟩
  · refine WQ_iconst (0) (0) dX6_habit_5 rfl rfl (fun v13915 hv13915 => ?_)
    exact WP_iret dX6_habit_6 rfl ⟨⟨rfl, rfl, rfl⟩, _, rfl, by omega, by omega, (by have hz : v13915.toInt = 0 := (by omega); rw [hz]; refine ⟨by omega, by omega, ?_⟩; simp; omega)⟩
