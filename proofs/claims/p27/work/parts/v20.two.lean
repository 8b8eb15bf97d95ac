theorem SP_and {g : GG} {y : MD} {as : List Value} {I : pI} {J : pJ} {R : pR} {Q1 : Post} {f : Option Value → Prop} (h1 : SP g y as I J R Q1) (h2 : SP g y as I J R (fun r _ _ _ => f r)) : SP g y as I J R (fun r I' J' R' => Q1 r I' J' R' ∧ f r) := by
  intro p e ha hc hk s m args below hf happ hP hK
  obtain ⟨n, o, hw, hr, he, hq⟩ := h1 p e ha hc hk s m args below hf happ hP hK
  obtain ⟨n2, o2, hw2, hr2, he2, hq2⟩ := h2 p e ha hc hk s m args below hf happ hP hK
  obtain ⟨rfl, rfl⟩ := the_end_unique (f := fun k => stepsAlone p.tables e k s) hw he hw2 he2
  obtain ⟨⟨⟨r, I1, J1, R1, hv, hQ, hP1⟩, hF⟩, hL⟩ := hq
  obtain ⟨⟨⟨r2, I2, J2, R2, hv2, hQ2, hP2⟩, hF2⟩, hL2⟩ := hq2
  obtain rfl : r = r2 := by
    have e0 := hv.symm.trans hv2
    exact Outcome.returned.inj e0
  exact ⟨n, o, hw, hr, he, ⟨⟨r, I1, J1, R1, hv, ⟨hQ, hQ2⟩, hP1⟩, hF⟩, hL⟩
set_option maxHeartbeats 4000000 in
set_option maxRecDepth 100000 in
theorem am_two {g : GG} {I : pI} {J : pJ} {R : pR} (hy : Ly g) (hr : Rf g R) (xa xc xp xq xn xr xw : Int32) : SP g mX11_two [.ref (ad g P_o), .int xa, .int xc, .int xp, .int xq, .int xn, .int xr, .int xw] I J R (iq (twoA xa xc xp xq xn xr xw)) := by
  refine SP_of ⟨by decide, rfl⟩ (Nat.le_of_ble_eq_true rfl) ?_
  have c0 : True := trivial
  refine WP_iload_n dX11_two_0 rfl ?_
  refine WP_i2l dX11_two_1 ?_
  refine WP_lconst (0) dX11_two_2 rfl ?_
  refine WP_ldc2 (9) dX11_two_3 klX11_515 ?_
  refine WP_callS3p dX11_two_6 ⟨⟨⟨by decide, by decide⟩, zX11_in⟩, lX11_52, tX11_in⟩ (s_in _ _ _) (Nat.le_of_ble_eq_true rfl) ?_
  refine WP_ifb_eq 86 dX11_two_9 rfl (fun c9 => ?_) (fun c9 => ?_)
  · refine WP_bipush (-2) dX11_two_86 rfl ?_
    exact WP_iret dX11_two_88 rfl ⟨_, rfl, (by simp only [t64, Int64.reduceToInt] at c0 c9; unfold twoA; rw [if_neg (by omega)]; rfl)⟩
  · refine WP_iload_n dX11_two_12 rfl ?_
    refine WP_i2l dX11_two_13 ?_
    refine WP_lconst (0) dX11_two_14 rfl ?_
    refine WP_ldc2 (9) dX11_two_15 klX11_515 ?_
    refine WP_callS3p dX11_two_18 ⟨⟨⟨by decide, by decide⟩, zX11_in⟩, lX11_52, tX11_in⟩ (s_in _ _ _) (Nat.le_of_ble_eq_true rfl) ?_
    refine WP_ifb_eq 86 dX11_two_21 rfl (fun c21 => ?_) (fun c21 => ?_)
    · refine WP_bipush (-2) dX11_two_86 rfl ?_
      exact WP_iret dX11_two_88 rfl ⟨_, rfl, (by simp only [t64, Int64.reduceToInt] at c0 c9 c21; unfold twoA; rw [if_neg (by omega)]; rfl)⟩
    · refine WP_iload_n dX11_two_24 rfl ?_
      refine WP_i2l dX11_two_25 ?_
      refine WP_lconst (0) dX11_two_26 rfl ?_
      refine WP_ldc2 (100) dX11_two_27 klX11_517 ?_
      refine WP_callS3p dX11_two_30 ⟨⟨⟨by decide, by decide⟩, zX11_in⟩, lX11_52, tX11_in⟩ (s_in _ _ _) (Nat.le_of_ble_eq_true rfl) ?_
      refine WP_ifb_eq 86 dX11_two_33 rfl (fun c33 => ?_) (fun c33 => ?_)
      · refine WP_bipush (-2) dX11_two_86 rfl ?_
        exact WP_iret dX11_two_88 rfl ⟨_, rfl, (by simp only [t64, Int64.reduceToInt] at c0 c9 c21 c33; unfold twoA; rw [if_neg (by omega)]; rfl)⟩
      · refine WP_iload dX11_two_36 rfl ?_
        refine WP_i2l dX11_two_38 ?_
        refine WP_lconst (0) dX11_two_39 rfl ?_
        refine WP_ldc2 (100) dX11_two_40 klX11_517 ?_
        refine WP_callS3p dX11_two_43 ⟨⟨⟨by decide, by decide⟩, zX11_in⟩, lX11_52, tX11_in⟩ (s_in _ _ _) (Nat.le_of_ble_eq_true rfl) ?_
        refine WP_ifb_eq 86 dX11_two_46 rfl (fun c46 => ?_) (fun c46 => ?_)
        · refine WP_bipush (-2) dX11_two_86 rfl ?_
          exact WP_iret dX11_two_88 rfl ⟨_, rfl, (by simp only [t64, Int64.reduceToInt] at c0 c9 c21 c33 c46; unfold twoA; rw [if_neg (by omega)]; rfl)⟩
        · refine WP_iload dX11_two_49 rfl ?_
          refine WP_i2l dX11_two_51 ?_
          refine WP_lconst (0) dX11_two_52 rfl ?_
          refine WP_ldc2 (20) dX11_two_53 klX11_357 ?_
          refine WP_callS3p dX11_two_56 ⟨⟨⟨by decide, by decide⟩, zX11_in⟩, lX11_52, tX11_in⟩ (s_in _ _ _) (Nat.le_of_ble_eq_true rfl) ?_
          refine WP_ifb_eq 86 dX11_two_59 rfl (fun c59 => ?_) (fun c59 => ?_)
          · refine WP_bipush (-2) dX11_two_86 rfl ?_
            exact WP_iret dX11_two_88 rfl ⟨_, rfl, (by simp only [t64, Int64.reduceToInt] at c0 c9 c21 c33 c46 c59; unfold twoA; rw [if_neg (by omega)]; rfl)⟩
          · refine WP_iload dX11_two_62 rfl ?_
            refine WP_i2l dX11_two_64 ?_
            refine WP_lconst (1) dX11_two_65 rfl ?_
            refine WP_ldc2 (20) dX11_two_66 klX11_357 ?_
            refine WP_callS3p dX11_two_69 ⟨⟨⟨by decide, by decide⟩, zX11_in⟩, lX11_52, tX11_in⟩ (s_in _ _ _) (Nat.le_of_ble_eq_true rfl) ?_
            refine WP_ifb_eq 86 dX11_two_72 rfl (fun c72 => ?_) (fun c72 => ?_)
            · refine WP_bipush (-2) dX11_two_86 rfl ?_
              exact WP_iret dX11_two_88 rfl ⟨_, rfl, (by simp only [t64, Int64.reduceToInt] at c0 c9 c21 c33 c46 c59 c72; unfold twoA; rw [if_neg (by omega)]; rfl)⟩
            · refine WP_iload dX11_two_75 rfl ?_
              refine WP_i2l dX11_two_77 ?_
              refine WP_lconst (0) dX11_two_78 rfl ?_
              refine WP_lconst (1) dX11_two_79 rfl ?_
              refine WP_callS3p dX11_two_80 ⟨⟨⟨by decide, by decide⟩, zX11_in⟩, lX11_52, tX11_in⟩ (s_in _ _ _) (Nat.le_of_ble_eq_true rfl) ?_
              refine WP_ifb_ne 89 dX11_two_83 rfl (fun c83 => ?_) (fun c83 => ?_)
              · refine WP_iconst (0) dX11_two_89 rfl ?_
                refine WP_istore (ls' := [(0, _), (1, _), (2, _), (3, _), (4, _), (5, _), (6, _), (7, _), (8, _)]) dX11_two_90 (by decide) rfl ?_
                simp only [t64, Int64.reduceToInt] at c0 c9 c21 c33 c46 c59 c72 c83
                unfold twoA
                rw [if_pos (by omega)]
                refine WP_sub (ls' := [(0, .ref (ad g P_o)), (1, .int xa), (2, .int xc), (3, .int xp), (4, .int xq), (5, .int xn), (6, .int xr), (7, .int xw), (8, .int (nI 0))]) (fc rfl (fc rfl (fc rfl (fc rfl (fc rfl (fc rfl (fc rfl (fc rfl (fc rfl fn))))))))) (l_two92 (I := I) (J := J) hy hr xa.toInt.toNat xc.toInt.toNat xn.toInt.toNat xr.toInt.toNat xa xc xp xq xn xr xw (by omega) (by omega) (by omega) (by omega) (by omega) (by omega) (by omega) 100 0 _ (by omega) (fun i hi => absurd hi (by omega)))
              · refine WP_bipush (-2) dX11_two_86 rfl ?_
                exact WP_iret dX11_two_88 rfl ⟨_, rfl, (by simp only [t64, Int64.reduceToInt] at c0 c9 c21 c33 c46 c59 c72 c83; unfold twoA; rw [if_neg (by omega)]; rfl)⟩
set_option maxHeartbeats 4000000 in
set_option maxRecDepth 100000 in
theorem ax_two {g : GG} {I : pI} {J : pJ} {R : pR} (hy : LyX g) (hr : RfX g R) (xa xc xp xq xn xr xw : Int32) : SP g mX10_two [.ref (ad g P_x), .int xa, .int xc, .int xp, .int xq, .int xn, .int xr, .int xw] I J R (iq (twoA xa xc xp xq xn xr xw)) := by
  refine SP_of ⟨by decide, rfl⟩ (Nat.le_of_ble_eq_true rfl) ?_
  have c0 : True := trivial
  refine WP_iload_n dX10_two_0 rfl ?_
  refine WP_iconst (0) dX10_two_1 rfl ?_
  refine WP_bipush (9) dX10_two_2 rfl ?_
  refine WP_callS3p dX10_two_4 ⟨⟨⟨by decide, by decide⟩, zX10_within⟩, lX10_206, tX10_within⟩ (x_within hy hr _ _ _) (Nat.le_of_ble_eq_true rfl) ?_
  refine WP_ifb_eq 41 dX10_two_7 rfl (fun c7 => ?_) (fun c7 => ?_)
  · refine WP_bipush (-2) dX10_two_41 rfl ?_
    exact WP_iret dX10_two_43 rfl ⟨_, rfl, (by simp only [Int32.reduceToInt] at c0 c7; unfold twoA; rw [if_neg (by omega)]; rfl)⟩
  · refine WP_iload_n dX10_two_10 rfl ?_
    refine WP_iconst (0) dX10_two_11 rfl ?_
    refine WP_bipush (9) dX10_two_12 rfl ?_
    refine WP_callS3p dX10_two_14 ⟨⟨⟨by decide, by decide⟩, zX10_within⟩, lX10_206, tX10_within⟩ (x_within hy hr _ _ _) (Nat.le_of_ble_eq_true rfl) ?_
    refine WP_ifb_eq 41 dX10_two_17 rfl (fun c17 => ?_) (fun c17 => ?_)
    · refine WP_bipush (-2) dX10_two_41 rfl ?_
      exact WP_iret dX10_two_43 rfl ⟨_, rfl, (by simp only [Int32.reduceToInt] at c0 c7 c17; unfold twoA; rw [if_neg (by omega)]; rfl)⟩
    · refine WP_iload_n dX10_two_20 rfl ?_
      refine WP_iconst (0) dX10_two_21 rfl ?_
      refine WP_bipush (100) dX10_two_22 rfl ?_
      refine WP_callS3p dX10_two_24 ⟨⟨⟨by decide, by decide⟩, zX10_within⟩, lX10_206, tX10_within⟩ (x_within hy hr _ _ _) (Nat.le_of_ble_eq_true rfl) ?_
      refine WP_ifb_eq 41 dX10_two_27 rfl (fun c27 => ?_) (fun c27 => ?_)
      · refine WP_bipush (-2) dX10_two_41 rfl ?_
        exact WP_iret dX10_two_43 rfl ⟨_, rfl, (by simp only [Int32.reduceToInt] at c0 c7 c17 c27; unfold twoA; rw [if_neg (by omega)]; rfl)⟩
      · refine WP_iload dX10_two_30 rfl ?_
        refine WP_iconst (0) dX10_two_32 rfl ?_
        refine WP_bipush (100) dX10_two_33 rfl ?_
        refine WP_callS3p dX10_two_35 ⟨⟨⟨by decide, by decide⟩, zX10_within⟩, lX10_206, tX10_within⟩ (x_within hy hr _ _ _) (Nat.le_of_ble_eq_true rfl) ?_
        refine WP_ifb_ne 44 dX10_two_38 rfl (fun c38 => ?_) (fun c38 => ?_)
        · refine WP_iload dX10_two_44 rfl ?_
          refine WP_iconst (0) dX10_two_46 rfl ?_
          refine WP_bipush (20) dX10_two_47 rfl ?_
          refine WP_callS3p dX10_two_49 ⟨⟨⟨by decide, by decide⟩, zX10_within⟩, lX10_206, tX10_within⟩ (x_within hy hr _ _ _) (Nat.le_of_ble_eq_true rfl) ?_
          refine WP_ifb_eq 76 dX10_two_52 rfl (fun c52 => ?_) (fun c52 => ?_)
          · refine WP_bipush (-2) dX10_two_76 rfl ?_
            exact WP_iret dX10_two_78 rfl ⟨_, rfl, (by simp only [Int32.reduceToInt] at c0 c7 c17 c27 c38 c52; unfold twoA; rw [if_neg (by omega)]; rfl)⟩
          · refine WP_iload dX10_two_55 rfl ?_
            refine WP_iconst (1) dX10_two_57 rfl ?_
            refine WP_bipush (20) dX10_two_58 rfl ?_
            refine WP_callS3p dX10_two_60 ⟨⟨⟨by decide, by decide⟩, zX10_within⟩, lX10_206, tX10_within⟩ (x_within hy hr _ _ _) (Nat.le_of_ble_eq_true rfl) ?_
            refine WP_ifb_eq 76 dX10_two_63 rfl (fun c63 => ?_) (fun c63 => ?_)
            · refine WP_bipush (-2) dX10_two_76 rfl ?_
              exact WP_iret dX10_two_78 rfl ⟨_, rfl, (by simp only [Int32.reduceToInt] at c0 c7 c17 c27 c38 c52 c63; unfold twoA; rw [if_neg (by omega)]; rfl)⟩
            · refine WP_iload dX10_two_66 rfl ?_
              refine WP_iconst (0) dX10_two_68 rfl ?_
              refine WP_iconst (1) dX10_two_69 rfl ?_
              refine WP_callS3p dX10_two_70 ⟨⟨⟨by decide, by decide⟩, zX10_within⟩, lX10_206, tX10_within⟩ (x_within hy hr _ _ _) (Nat.le_of_ble_eq_true rfl) ?_
              refine WP_ifb_ne 79 dX10_two_73 rfl (fun c73 => ?_) (fun c73 => ?_)
              · refine WP_iload dX10_two_79 rfl ?_
                refine WP_if_eq 90 dX10_two_81 rfl (fun c81 => ?_) (fun c81 => ?_)
                · refine WP_iload dX10_two_90 rfl ?_
                  refine WP_if_ne 99 dX10_two_92 rfl (fun c92 => ?_) (fun c92 => ?_)
                  · refine WP_iconst (-1) dX10_two_99 rfl ?_
                    exact WP_iret dX10_two_100 rfl ⟨_, rfl, (by simp only [Int32.reduceToInt] at c7 c17 c27 c38 c52 c63 c73; have z0 : (0 : Int32).toInt = 0 := rfl; have hok : ((0 ≤ xa.toInt ∧ xa.toInt ≤ 9) ∧ (0 ≤ xc.toInt ∧ xc.toInt ≤ 9) ∧ (0 ≤ xp.toInt ∧ xp.toInt ≤ 100) ∧ (0 ≤ xq.toInt ∧ xq.toInt ≤ 100) ∧ (0 ≤ xn.toInt ∧ xn.toInt ≤ 20) ∧ (1 ≤ xr.toInt ∧ xr.toInt ≤ 20) ∧ (0 ≤ xw.toInt ∧ xw.toInt ≤ 1)) := (by omega); unfold twoA; rw [if_pos hok]; exact two_edge hok (by first | (left; rw [eq32, z0] at c81; omega) | (right; rw [eq32, ia (by omega) (by omega), z0] at c87; omega)) (by first | (left; exact ⟨(by rw [eq32, z0] at c92; omega), rfl⟩) | (right; exact ⟨(by rw [eq32, z0] at c92; omega), rfl⟩)))⟩
                  · refine WP_iconst (0) dX10_two_95 rfl ?_
                    refine WP_goto 100 dX10_two_96 rfl ?_
                    exact WP_iret dX10_two_100 rfl ⟨_, rfl, (by simp only [Int32.reduceToInt] at c7 c17 c27 c38 c52 c63 c73; have z0 : (0 : Int32).toInt = 0 := rfl; have hok : ((0 ≤ xa.toInt ∧ xa.toInt ≤ 9) ∧ (0 ≤ xc.toInt ∧ xc.toInt ≤ 9) ∧ (0 ≤ xp.toInt ∧ xp.toInt ≤ 100) ∧ (0 ≤ xq.toInt ∧ xq.toInt ≤ 100) ∧ (0 ≤ xn.toInt ∧ xn.toInt ≤ 20) ∧ (1 ≤ xr.toInt ∧ xr.toInt ≤ 20) ∧ (0 ≤ xw.toInt ∧ xw.toInt ≤ 1)) := (by omega); unfold twoA; rw [if_pos hok]; exact two_edge hok (by first | (left; rw [eq32, z0] at c81; omega) | (right; rw [eq32, ia (by omega) (by omega), z0] at c87; omega)) (by first | (left; exact ⟨(by rw [eq32, z0] at c92; omega), rfl⟩) | (right; exact ⟨(by rw [eq32, z0] at c92; omega), rfl⟩)))⟩
                · refine WP_iload_n dX10_two_84 rfl ?_
                  refine WP_iload_n dX10_two_85 rfl ?_
                  refine WP_iadd dX10_two_86 ?_
                  refine WP_if_ne 101 dX10_two_87 rfl (fun c87 => ?_) (fun c87 => ?_)
                  · simp only [Int32.reduceToInt] at c7 c17 c27 c38 c52 c63 c73
                    have hok : ((0 ≤ xa.toInt ∧ xa.toInt ≤ 9) ∧ (0 ≤ xc.toInt ∧ xc.toInt ≤ 9) ∧ (0 ≤ xp.toInt ∧ xp.toInt ≤ 100) ∧ (0 ≤ xq.toInt ∧ xq.toInt ≤ 100) ∧ (0 ≤ xn.toInt ∧ xn.toInt ≤ 20) ∧ (1 ≤ xr.toInt ∧ xr.toInt ≤ 20) ∧ (0 ≤ xw.toInt ∧ xw.toInt ≤ 1)) := by omega
                    have hnt : (xn.toInt.toNat : Int) = xn.toInt := by omega
                    have z0 : (0 : Int32).toInt = 0 := rfl
                    have e1 : (xa + xc).toInt = xa.toInt + xc.toInt := by rw [ia (by omega) (by omega)]
                    rw [eq32, z0] at c81
                    rw [eq32, e1, z0] at c87
                    refine WP_aload_n dX10_two_101 rfl ?_
                    refine WP_getr dX10_two_102 fX10_76 rfl (lyx_is hy _ _ rfl) (rfx hr 0 8 69 (by decide)) ?_
                    refine WP_iload_n dX10_two_105 rfl ?_
                    refine WP_iload dX10_two_106 rfl ?_
                    refine WP_callV2u (k := 8) dX10_two_108 ⟨⟨⟨by decide, by decide⟩, zX8_takenAt⟩, lX10_270, by decide, rfl, vX8_takenAt.1, vX8_takenAt.2⟩ (lyx_is hy _ _ rfl) (x_takenAt hy hr _ _) (Nat.le_of_ble_eq_true rfl) ?_
                    refine WP_aload_n dX10_two_111 rfl ?_
                    refine WP_getr dX10_two_112 fX10_76 rfl (lyx_is hy _ _ rfl) (rfx hr 0 8 69 (by decide)) ?_
                    refine WP_iload_n dX10_two_115 rfl ?_
                    refine WP_iload_n dX10_two_116 rfl ?_
                    refine WP_iload dX10_two_117 rfl ?_
                    refine WP_iload dX10_two_119 rfl ?_
                    refine WP_callV4 (k := 8) dX10_two_121 ⟨⟨⟨by decide, by decide⟩, zX8_lookBack⟩, lX10_274, by decide, rfl, vX8_lookBack.1, vX8_lookBack.2⟩ (lyx_is hy _ _ rfl) (x_lookBack hy hr xa.toInt.toNat xc.toInt.toNat xn.toInt.toNat xr.toInt.toNat _ _ _ _ xp xq ⟨by omega, by omega⟩ ⟨by omega, by omega⟩ ⟨by omega, by omega, by omega⟩ ⟨by omega, by omega, by omega⟩ (by omega) (by omega) (by rw [pp_ne _ _ (Or.inr (by decide)), pp_self]) (by rw [pp_self])) (Nat.le_of_ble_eq_true rfl) ?_
                    rintro r0 I4 J4 R4 ⟨rfl, hrw, hkc, eJ4, eR4⟩
                    rw [eJ4, eR4]
                    simp only [Option.toList, List.cons_append, List.nil_append]
                    refine WP_aload_n dX10_two_124 rfl ?_
                    refine WP_getr dX10_two_125 fX10_76 rfl (lyx_is hy _ _ rfl) (rfx hr 0 8 69 (by decide)) ?_
                    refine WP_iload_n dX10_two_128 rfl ?_
                    refine WP_iload_n dX10_two_129 rfl ?_
                    refine WP_callV2 (k := 8) dX10_two_130 ⟨⟨⟨by decide, by decide⟩, zX8_offeringNote⟩, lX10_278, by decide, rfl, vX8_offeringNote.1, vX8_offeringNote.2⟩ (lyx_is hy _ _ rfl) (x_offNote hy hr xr.toInt.toNat (xn.toInt.toNat : Int) xa.toInt.toNat xc.toInt.toNat _ _ ⟨by omega, by omega⟩ ⟨by omega, by omega⟩ hkc.2.2 (VV xp.toInt xq.toInt xr.toInt.toNat (xn.toInt.toNat - 1)) (fun a2 c2 h1 h2 => by have b := VV_b (r := xr.toInt.toNat) (show 0 ≤ xp.toInt ∧ xp.toInt ≤ 100 by omega) (show 0 ≤ xq.toInt ∧ xq.toInt ≤ 100 by omega) (xn.toInt.toNat - 1) a2 c2; exact ⟨hrw a2 c2 h1 h2, b.1, by omega⟩) (by rw [hkc.1]; omega)) (Nat.le_of_ble_eq_true rfl) ?_
                    rintro r0 I5 J5 R5 ⟨xoffNote, rfl, hoffNote, eI5, eJ5, eR5⟩
                    rw [eI5, eJ5, eR5]
                    simp only [Option.toList, List.cons_append, List.nil_append]
                    refine WP_istore (ls' := [(0, _), (1, _), (2, _), (3, _), (4, _), (5, _), (6, _), (7, _), (8, _)]) dX10_two_133 (by decide) rfl ?_
                    refine WP_aload_n dX10_two_135 rfl ?_
                    refine WP_getr dX10_two_136 fX10_76 rfl (lyx_is hy _ _ rfl) (rfx hr 0 8 69 (by decide)) ?_
                    refine WP_iload_n dX10_two_139 rfl ?_
                    refine WP_iload_n dX10_two_140 rfl ?_
                    refine WP_callV2 (k := 8) dX10_two_141 ⟨⟨⟨by decide, by decide⟩, zX8_offeringOther⟩, lX10_281, by decide, rfl, vX8_offeringOther.1, vX8_offeringOther.2⟩ (lyx_is hy _ _ rfl) (x_offOther hy hr xr.toInt.toNat (xn.toInt.toNat : Int) xa.toInt.toNat xc.toInt.toNat _ _ ⟨by omega, by omega⟩ ⟨by omega, by omega⟩ hkc.2.2 (VV xp.toInt xq.toInt xr.toInt.toNat (xn.toInt.toNat - 1)) (fun a2 c2 h1 h2 => by have b := VV_b (r := xr.toInt.toNat) (show 0 ≤ xp.toInt ∧ xp.toInt ≤ 100 by omega) (show 0 ≤ xq.toInt ∧ xq.toInt ≤ 100 by omega) (xn.toInt.toNat - 1) a2 c2; exact ⟨hrw a2 c2 h1 h2, b.1, by omega⟩) (by rw [hkc.2.1]; omega)) (Nat.le_of_ble_eq_true rfl) ?_
                    rintro r0 I5 J5 R5 ⟨xoffOther, rfl, hoffOther, eI5, eJ5, eR5⟩
                    rw [eI5, eJ5, eR5]
                    simp only [Option.toList, List.cons_append, List.nil_append]
                    refine WP_istore (ls' := [(0, _), (1, _), (2, _), (3, _), (4, _), (5, _), (6, _), (7, _), (8, _), (9, _)]) dX10_two_144 (by decide) rfl ?_
                    refine WP_iload dX10_two_146 rfl ?_
                    refine WP_if_ne 159 dX10_two_148 rfl (fun c148 => ?_) (fun c148 => ?_)
                    · refine WP_iload dX10_two_159 rfl ?_
                      refine WP_iload dX10_two_161 rfl ?_
                      refine WP_icmp_lt 170 dX10_two_163 rfl (fun c163 => ?_) (fun c163 => ?_)
                      · refine WP_iconst (1) dX10_two_170 rfl ?_
                        exact WP_iret dX10_two_171 rfl ⟨_, rfl, (by rw [eq32, z0] at c148; rw [lt32] at c163; unfold twoA; rw [if_pos hok]; unfold twoR; rw [hkc.1] at hoffNote; rw [hkc.2.1] at hoffOther; rw [if_neg (by omega), if_neg (by omega), ← hoffNote, ← hoffOther]; first | (rw [if_pos (by omega)]; rfl) | (rw [if_neg (by omega)]; rfl))⟩
                      · refine WP_iconst (0) dX10_two_166 rfl ?_
                        refine WP_goto 171 dX10_two_167 rfl ?_
                        exact WP_iret dX10_two_171 rfl ⟨_, rfl, (by rw [eq32, z0] at c148; rw [lt32] at c163; unfold twoA; rw [if_pos hok]; unfold twoR; rw [hkc.1] at hoffNote; rw [hkc.2.1] at hoffOther; rw [if_neg (by omega), if_neg (by omega), ← hoffNote, ← hoffOther]; first | (rw [if_pos (by omega)]; rfl) | (rw [if_neg (by omega)]; rfl))⟩
                    · refine WP_iload dX10_two_151 rfl ?_
                      refine WP_iload dX10_two_153 rfl ?_
                      refine WP_max dX10_two_155 lX10_284 ⟨by decide, Nat.le_of_ble_eq_true rfl⟩ ?_
                      exact WP_iret dX10_two_158 rfl ⟨_, rfl, (by rw [eq32, z0] at c148; rw [hkc.1] at hoffNote; rw [hkc.2.1] at hoffOther; unfold twoA; rw [if_pos hok]; have hR : twoR xa.toInt.toNat xc.toInt.toNat xp.toInt xq.toInt xn.toInt.toNat xr.toInt.toNat xw.toInt = max xoffNote.toInt xoffOther.toInt := (by unfold twoR; rw [if_pos c148, VV_s _ _ _ (by omega), most_nn (by omega) (by omega) (fun a c => VV_b (r := xr.toInt.toNat) ⟨by omega, by omega⟩ ⟨by omega, by omega⟩ (xn.toInt.toNat - 1) a c) (by omega), ← hoffNote, ← hoffOther]); rw [hR]; split <;> (rename_i q; rw [lt32] at q; omega))⟩
                  · refine WP_iload dX10_two_90 rfl ?_
                    refine WP_if_ne 99 dX10_two_92 rfl (fun c92 => ?_) (fun c92 => ?_)
                    · refine WP_iconst (-1) dX10_two_99 rfl ?_
                      exact WP_iret dX10_two_100 rfl ⟨_, rfl, (by simp only [Int32.reduceToInt] at c7 c17 c27 c38 c52 c63 c73; have z0 : (0 : Int32).toInt = 0 := rfl; have hok : ((0 ≤ xa.toInt ∧ xa.toInt ≤ 9) ∧ (0 ≤ xc.toInt ∧ xc.toInt ≤ 9) ∧ (0 ≤ xp.toInt ∧ xp.toInt ≤ 100) ∧ (0 ≤ xq.toInt ∧ xq.toInt ≤ 100) ∧ (0 ≤ xn.toInt ∧ xn.toInt ≤ 20) ∧ (1 ≤ xr.toInt ∧ xr.toInt ≤ 20) ∧ (0 ≤ xw.toInt ∧ xw.toInt ≤ 1)) := (by omega); unfold twoA; rw [if_pos hok]; exact two_edge hok (by first | (left; rw [eq32, z0] at c81; omega) | (right; rw [eq32, ia (by omega) (by omega), z0] at c87; omega)) (by first | (left; exact ⟨(by rw [eq32, z0] at c92; omega), rfl⟩) | (right; exact ⟨(by rw [eq32, z0] at c92; omega), rfl⟩)))⟩
                    · refine WP_iconst (0) dX10_two_95 rfl ?_
                      refine WP_goto 100 dX10_two_96 rfl ?_
                      exact WP_iret dX10_two_100 rfl ⟨_, rfl, (by simp only [Int32.reduceToInt] at c7 c17 c27 c38 c52 c63 c73; have z0 : (0 : Int32).toInt = 0 := rfl; have hok : ((0 ≤ xa.toInt ∧ xa.toInt ≤ 9) ∧ (0 ≤ xc.toInt ∧ xc.toInt ≤ 9) ∧ (0 ≤ xp.toInt ∧ xp.toInt ≤ 100) ∧ (0 ≤ xq.toInt ∧ xq.toInt ≤ 100) ∧ (0 ≤ xn.toInt ∧ xn.toInt ≤ 20) ∧ (1 ≤ xr.toInt ∧ xr.toInt ≤ 20) ∧ (0 ≤ xw.toInt ∧ xw.toInt ≤ 1)) := (by omega); unfold twoA; rw [if_pos hok]; exact two_edge hok (by first | (left; rw [eq32, z0] at c81; omega) | (right; rw [eq32, ia (by omega) (by omega), z0] at c87; omega)) (by first | (left; exact ⟨(by rw [eq32, z0] at c92; omega), rfl⟩) | (right; exact ⟨(by rw [eq32, z0] at c92; omega), rfl⟩)))⟩
              · refine WP_bipush (-2) dX10_two_76 rfl ?_
                exact WP_iret dX10_two_78 rfl ⟨_, rfl, (by simp only [Int32.reduceToInt] at c0 c7 c17 c27 c38 c52 c63 c73; unfold twoA; rw [if_neg (by omega)]; rfl)⟩
        · refine WP_bipush (-2) dX10_two_41 rfl ?_
          exact WP_iret dX10_two_43 rfl ⟨_, rfl, (by simp only [Int32.reduceToInt] at c0 c7 c17 c27 c38; unfold twoA; rw [if_neg (by omega)]; rfl)⟩
