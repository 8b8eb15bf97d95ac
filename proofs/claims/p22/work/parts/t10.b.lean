set_option maxHeartbeats 4000000 in
set_option maxRecDepth 100000 in
theorem sx_rewindf {g : GG} {n : Int} {L : Int32} (hy : LyX g)  {I : pI} {J : pJ} {R : pR} (hr : RfX g R) (hI : XI g n L I)   : SP g mX5_rewind [.ref (ad g 1)] I J R (fun r I' J' R' => (XI g n L I' ∧ R' = R ∧ fz 74 g [1] I I' ∧ fz 74 g [] J J') ∧ r = none) := by
  refine SP_of ⟨by decide, rfl⟩ (Nat.le_of_ble_eq_true rfl) ?_
  have e16118 : I (ad g 1) 1 = L := hI.2
  have b16119 := BT_get hI.1 1 1 2 (0) (0) (900) (by decide) 1 (by decide) (by decide)
  rw [e16118] at b16119
  have fr0 : fz 74 g [1] I I := fz_rf
  have frj0 : fz 74 g [] J J := fz_rf
  refine WP_aload_n dX5_rewind_0 rfl ?_
  refine WQ_iconst (0) (0) dX5_rewind_1 rfl rfl (fun v16120 hv16120 => ?_)
  refine WQ_puti dX5_rewind_2 fX5_19 rfl rfl (lyx_is hy 1 5 rfl) (fun I16121 eI16121 => ?_)
  have hI16121 : XI g n L I16121 := by rw [eI16121]; exact (xi_f hy hI (c := 1) (0) (0) (900) (by decide) (Or.inr (by decide)) (by decide) (by omega) (by omega))
  have e16122 : I16121 (ad g 1) 1 = L := by rw [eI16121, pp_ne _ _ (Or.inr (by decide))]; exact e16118
  have e16123 : I16121 (ad g 1) 6 = v16120 := by rw [eI16121, pp_self]
  have fr16124 : fz 74 g [1] I I16121 := by rw [eI16121]; exact fzx_pp hy fr0 (by decide) (by decide)
  clear eI16121
  exact WP_vret dX5_rewind_5 rfl ⟨⟨hI16121, rfl, fr16124, frj0⟩, rfl⟩
set_option maxHeartbeats 4000000 in
set_option maxRecDepth 100000 in
theorem sx_readWordf {g : GG} {n : Int} {L : Int32} (hy : LyX g)  {I : pI} {J : pJ} {R : pR} (hr : RfX g R) (hI : XI g n L I)   : SP g mX5_readWord [.ref (ad g 1)] I J R (fun r I' J' R' => (XI g n L I' ∧ R' = R ∧ fz 74 g [1] I I' ∧ fz 74 g [1] J J') ∧ r = none) := by
  refine SP_of ⟨by decide, rfl⟩ (Nat.le_of_ble_eq_true rfl) ?_
  have e16125 : I (ad g 1) 1 = L := hI.2
  have b16126 := BT_get hI.1 1 1 2 (0) (0) (900) (by decide) 1 (by decide) (by decide)
  rw [e16125] at b16126
  have fr0 : fz 74 g [1] I I := fz_rf
  have frj0 : fz 74 g [1] J J := fz_rf
  refine WP_aload_n dX5_readWord_0 rfl ?_
  refine WP_lconst (0) dX5_readWord_1 rfl ?_
  obtain ⟨l16127, hl16127, el16127⟩ : ∃ v : Int64, v.toInt = 0 ∧ (0 : Int64) = v := ⟨_, rfl, rfl⟩
  rw [el16127]; clear el16127
  refine WQ_putl dX5_readWord_2 fX5_41 rfl rfl (lyx_is hy 1 5 rfl) (fun J16128 eJ16128 => ?_)
  have fr16129 : fz 74 g [1] J J16128 := by rw [eJ16128]; exact fzx_pp hy frj0 (by decide) (by decide)
  clear eJ16128
  have lp5_16132 : ∀ (mz : Nat)  (I16130 : pI) (J16131 : pJ), XI g n L I16130 → fz 74 g [1] I I16130 → fz 74 g [1] J J16131 → ∀ (w16132 : Int32), I16130 (ad g 1) 6 = w16132 → (901 - w16132.toInt).toNat < mz → WP g mX5_readWord 5 [(0, .ref (ad g 1))] [] I16130 J16131 R (fun r I' J' R' => (XI g n L I' ∧ R' = R ∧ fz 74 g [1] I I' ∧ fz 74 g [1] J J') ∧ r = none) := by
    intro mz
    induction mz with
    | zero =>
      intro  I16130 J16131 hI16130 fiI16130 fjJ16131 w16132 ew16132  hmlp5_16132
      exact absurd hmlp5_16132 (Nat.not_lt_zero _)
    | succ mz ihlp5_16132 =>
      intro  I16130 J16131 hI16130 fiI16130 fjJ16131 w16132 ew16132  hmlp5_16132
      have bw16132 := BT_get hI16130.1 1 6 7 (0) (0) (900) (by decide) 6 (by decide) (by decide)
      rw [ew16132] at bw16132
      have e16134 : I16130 (ad g 1) 1 = L := hI16130.2
      have b16135 := BT_get hI16130.1 1 1 2 (0) (0) (900) (by decide) 1 (by decide) (by decide)
      rw [e16134] at b16135
      refine WP_aload_n dX5_readWord_5 rfl ?_
      refine WQ_getim dX5_readWord_6 fX5_19 rfl (lyx_is hy 1 5 rfl) ew16132 ?_
      refine WP_aload_n dX5_readWord_9 rfl ?_
      refine WQ_getim dX5_readWord_10 fX5_15 rfl (lyx_is hy 1 5 rfl) e16134 ?_
      refine WQ_icmp_ge 66 dX5_readWord_13 rfl (fun c16135 => ?_) (fun c16135 => ?_)
      · refine WP_aload_n dX5_readWord_66 rfl ?_
        refine WP_aload_n dX5_readWord_67 rfl ?_
        refine WQ_getim dX5_readWord_68 fX5_19 rfl (lyx_is hy 1 5 rfl) ew16132 ?_
        refine WP_aload_n dX5_readWord_71 rfl ?_
        refine WQ_geti dX5_readWord_72 fX5_22 rfl (lyx_is hy 1 5 rfl) (BT_get hI16130.1 1 3 4 (0) (0) (900) (by decide) 3 (by decide) (by decide)) (fun v16137 ev16137 av16137 bv16137 => ?_)
        refine WQ_isub dX5_readWord_75 (by omega) (by omega) (fun v16138 hv16138 => ?_)
        refine WQ_bipush (8) (8) dX5_readWord_76 rfl rfl (fun v16139 hv16139 => ?_)
        have jn86_16142 : ∀ (v16142 : Int32), 1 ≤ v16142.toInt → v16142.toInt ≤ 4 → WP g mX5_readWord 86 [(0, .ref (ad g 1))] [.int v16142, .ref (ad g 1)] I16130 J16131 R (fun r I' J' R' => (XI g n L I' ∧ R' = R ∧ fz 74 g [1] I I' ∧ fz 74 g [1] J J') ∧ r = none) := by
          intro v16142 av16142 bv16142
          refine WQ_puti dX5_readWord_86 fX5_25 rfl rfl (lyx_is hy 1 5 rfl) (fun I16144 eI16144 => ?_)
          have hI16144 : XI g n L I16144 := by rw [eI16144]; exact (xi_f hy hI16130 (c := 1) (0) (0) (4) (by decide) (Or.inr (by decide)) (by decide) (by omega) (by omega))
          have e16145 : I16144 (ad g 1) 6 = w16132 := by rw [eI16144, pp_ne _ _ (Or.inr (by decide))]; exact ew16132
          have e16146 : I16144 (ad g 1) 1 = L := by rw [eI16144, pp_ne _ _ (Or.inr (by decide))]; exact e16134
          have e16147 : I16144 (ad g 1) 3 = v16137 := by rw [eI16144, pp_ne _ _ (Or.inr (by decide))]; exact ev16137
          have e16148 : I16144 (ad g 1) 2 = v16142 := by rw [eI16144, pp_self]
          have fr16149 : fz 74 g [1] I I16144 := by rw [eI16144]; exact fzx_pp hy fiI16130 (by decide) (by decide)
          clear eI16144
          exact WP_vret dX5_readWord_89 rfl ⟨⟨hI16144, rfl, fr16149, fjJ16131⟩, rfl⟩
        refine WQ_icmp_le 85 dX5_readWord_78 rfl (fun c16149 => ?_) (fun c16149 => ?_)
        · refine WQ_iconst (1) (1) dX5_readWord_85 rfl rfl (fun v16151 hv16151 => ?_)
          exact WP_sub (fc rfl fn) (jn86_16142 v16151 (by omega) (by omega))
        · refine WQ_iconst (4) (4) dX5_readWord_81 rfl rfl (fun v16152 hv16152 => ?_)
          refine WP_goto 86 dX5_readWord_82 rfl ?_
          exact WP_sub (fc rfl fn) (jn86_16142 v16152 (by omega) (by omega))
      · refine WP_aload_n dX5_readWord_16 rfl ?_
        refine WP_getr dX5_readWord_17 fX5_9 rfl (lyx_is hy 1 5 rfl) (rfx hr 1 0 2 (by decide)) ?_
        refine WP_aload_n dX5_readWord_20 rfl ?_
        refine WQ_getim dX5_readWord_21 fX5_19 rfl (lyx_is hy 1 5 rfl) ew16132 ?_
        refine WQ_baldu dX5_readWord_24 (lyx_is hy 2 12 rfl) (lyx_n hy 2 900 rfl) (by omega) (by omega) (fun v16153 => ?_)
        refine WP_callS1 dX5_readWord_25 ⟨⟨⟨by decide, by decide⟩, zX5_isLetter⟩, lX5_28, tX5_isLetter⟩ (sx_isLetter hy hr hI16130 v16153 ) (Nat.le_of_ble_eq_true rfl) ?_
        intro r Ia Ja Ra hq
        obtain ⟨⟨ea, eb, ec⟩, v16154, rfl, av16154, bv16154⟩ := hq
        show WP _ _ _ _ (.int _ :: _) _ _ _ _
        rw [ea, eb, ec]
        clear ea eb ec Ia Ja Ra
        refine WQ_if_eq 66 dX5_readWord_28 rfl (fun c16154 => ?_) (fun c16154 => ?_)
        · refine WP_aload_n dX5_readWord_66 rfl ?_
          refine WP_aload_n dX5_readWord_67 rfl ?_
          refine WQ_getim dX5_readWord_68 fX5_19 rfl (lyx_is hy 1 5 rfl) ew16132 ?_
          refine WP_aload_n dX5_readWord_71 rfl ?_
          refine WQ_geti dX5_readWord_72 fX5_22 rfl (lyx_is hy 1 5 rfl) (BT_get hI16130.1 1 3 4 (0) (0) (900) (by decide) 3 (by decide) (by decide)) (fun v16156 ev16156 av16156 bv16156 => ?_)
          refine WQ_isub dX5_readWord_75 (by omega) (by omega) (fun v16157 hv16157 => ?_)
          refine WQ_bipush (8) (8) dX5_readWord_76 rfl rfl (fun v16158 hv16158 => ?_)
          have jn86_16161 : ∀ (v16161 : Int32), 1 ≤ v16161.toInt → v16161.toInt ≤ 4 → WP g mX5_readWord 86 [(0, .ref (ad g 1))] [.int v16161, .ref (ad g 1)] I16130 J16131 R (fun r I' J' R' => (XI g n L I' ∧ R' = R ∧ fz 74 g [1] I I' ∧ fz 74 g [1] J J') ∧ r = none) := by
            intro v16161 av16161 bv16161
            refine WQ_puti dX5_readWord_86 fX5_25 rfl rfl (lyx_is hy 1 5 rfl) (fun I16163 eI16163 => ?_)
            have hI16163 : XI g n L I16163 := by rw [eI16163]; exact (xi_f hy hI16130 (c := 1) (0) (0) (4) (by decide) (Or.inr (by decide)) (by decide) (by omega) (by omega))
            have e16164 : I16163 (ad g 1) 6 = w16132 := by rw [eI16163, pp_ne _ _ (Or.inr (by decide))]; exact ew16132
            have e16165 : I16163 (ad g 1) 1 = L := by rw [eI16163, pp_ne _ _ (Or.inr (by decide))]; exact e16134
            have e16166 : I16163 (ad g 1) 3 = v16156 := by rw [eI16163, pp_ne _ _ (Or.inr (by decide))]; exact ev16156
            have e16167 : I16163 (ad g 1) 2 = v16161 := by rw [eI16163, pp_self]
            have fr16168 : fz 74 g [1] I I16163 := by rw [eI16163]; exact fzx_pp hy fiI16130 (by decide) (by decide)
            clear eI16163
            exact WP_vret dX5_readWord_89 rfl ⟨⟨hI16163, rfl, fr16168, fjJ16131⟩, rfl⟩
          refine WQ_icmp_le 85 dX5_readWord_78 rfl (fun c16168 => ?_) (fun c16168 => ?_)
          · refine WQ_iconst (1) (1) dX5_readWord_85 rfl rfl (fun v16170 hv16170 => ?_)
            exact WP_sub (fc rfl fn) (jn86_16161 v16170 (by omega) (by omega))
          · refine WQ_iconst (4) (4) dX5_readWord_81 rfl rfl (fun v16171 hv16171 => ?_)
            refine WP_goto 86 dX5_readWord_82 rfl ?_
            exact WP_sub (fc rfl fn) (jn86_16161 v16171 (by omega) (by omega))
        · refine WP_aload_n dX5_readWord_31 rfl ?_
          refine WP_aload_n dX5_readWord_32 rfl ?_
          refine WQ_getl dX5_readWord_33 fX5_41 rfl (lyx_is hy 1 5 rfl) (fun l16172 el16172 => ?_)
          refine WQ_bipush (8) (8) dX5_readWord_36 rfl rfl (fun v16173 hv16173 => ?_)
          refine WQ_lshl dX5_readWord_38 (fun l16174 => ?_)
          refine WP_aload_n dX5_readWord_39 rfl ?_
          refine WP_getr dX5_readWord_40 fX5_9 rfl (lyx_is hy 1 5 rfl) (rfx hr 1 0 2 (by decide)) ?_
          refine WP_aload_n dX5_readWord_43 rfl ?_
          refine WQ_getim dX5_readWord_44 fX5_19 rfl (lyx_is hy 1 5 rfl) ew16132 ?_
          refine WQ_baldu dX5_readWord_47 (lyx_is hy 2 12 rfl) (lyx_n hy 2 900 rfl) (by omega) (by omega) (fun v16175 => ?_)
          refine WQ_i2l dX5_readWord_48 (fun l16176 hl16176 => ?_)
          refine WQ_lor dX5_readWord_49 (fun l16177 => ?_)
          refine WQ_putl dX5_readWord_50 fX5_41 rfl rfl (lyx_is hy 1 5 rfl) (fun J16178 eJ16178 => ?_)
          have fr16179 : fz 74 g [1] J J16178 := by rw [eJ16178]; exact fzx_pp hy fjJ16131 (by decide) (by decide)
          clear eJ16178
          refine WP_aload_n dX5_readWord_53 rfl ?_
          refine WP_dup dX5_readWord_54 rfl ?_
          refine WQ_getim dX5_readWord_55 fX5_19 rfl (lyx_is hy 1 5 rfl) ew16132 ?_
          refine WQ_iconst (1) (1) dX5_readWord_58 rfl rfl (fun v16180 hv16180 => ?_)
          refine WQ_iadd dX5_readWord_59 (by omega) (by omega) (fun v16181 hv16181 => ?_)
          refine WQ_puti dX5_readWord_60 fX5_19 rfl rfl (lyx_is hy 1 5 rfl) (fun I16182 eI16182 => ?_)
          have hI16182 : XI g n L I16182 := by rw [eI16182]; exact (xi_f hy hI16130 (c := 1) (0) (0) (900) (by decide) (Or.inr (by decide)) (by decide) (by omega) (by omega))
          have e16183 : I16182 (ad g 1) 1 = L := by rw [eI16182, pp_ne _ _ (Or.inr (by decide))]; exact e16134
          have e16184 : I16182 (ad g 1) 6 = v16181 := by rw [eI16182, pp_self]
          have fr16185 : fz 74 g [1] I I16182 := by rw [eI16182]; exact fzx_pp hy fiI16130 (by decide) (by decide)
          clear eI16182
          refine WP_goto 5 dX5_readWord_63 rfl ?_
          exact WP_sub (fc rfl fn) (ihlp5_16132 I16182 J16178 hI16182 fr16185 fr16179 v16181 e16184 (by omega))
  obtain ⟨w16186, ew16186⟩ : ∃ w : Int32, I (ad g 1) 6 = w := ⟨_, rfl⟩
  have bw16186 := BT_get hI.1 1 6 7 (0) (0) (900) (by decide) 6 (by decide) (by decide)
  rw [ew16186] at bw16186
  exact WP_sub (fc rfl fn) (lp5_16132 _ I J16128 hI fr0 fr16129 w16186 ew16186 (Nat.lt_succ_self _))
set_option maxHeartbeats 4000000 in
set_option maxRecDepth 100000 in
theorem sx_readNumberf {g : GG} {n : Int} {L : Int32} (hy : LyX g)  {I : pI} {J : pJ} {R : pR} (hr : RfX g R) (hI : XI g n L I)   : SP g mX5_readNumber [.ref (ad g 1)] I J R (fun r I' J' R' => (XI g n L I' ∧ R' = R ∧ fz 74 g [1] I I' ∧ fz 74 g [] J J') ∧ r = none) := by
  refine SP_of ⟨by decide, rfl⟩ (Nat.le_of_ble_eq_true rfl) ?_
  have e16187 : I (ad g 1) 1 = L := hI.2
  have b16188 := BT_get hI.1 1 1 2 (0) (0) (900) (by decide) 1 (by decide) (by decide)
  rw [e16187] at b16188
  have fr0 : fz 74 g [1] I I := fz_rf
  have frj0 : fz 74 g [] J J := fz_rf
  refine WP_aload_n dX5_readNumber_0 rfl ?_
  refine WQ_iconst (0) (0) dX5_readNumber_1 rfl rfl (fun v16189 hv16189 => ?_)
  refine WQ_puti dX5_readNumber_2 fX5_45 rfl rfl (lyx_is hy 1 5 rfl) (fun I16190 eI16190 => ?_)
  have hI16190 : XI g n L I16190 := by rw [eI16190]; exact (xi_f0 hy hI (c := 1) (by decide) (Or.inr (by decide)) (by decide))
  have e16191 : I16190 (ad g 1) 1 = L := by rw [eI16190, pp_ne _ _ (Or.inr (by decide))]; exact e16187
  have e16192 : I16190 (ad g 1) 4 = v16189 := by rw [eI16190, pp_self]
  have fr16193 : fz 74 g [1] I I16190 := by rw [eI16190]; exact fzx_pp hy fr0 (by decide) (by decide)
  clear eI16190
  have lp5_16196 : ∀ (mz : Nat)  (I16194 : pI) (J16195 : pJ), XI g n L I16194 → fz 74 g [1] I I16194 → fz 74 g [] J J16195 → ∀ (w16196 : Int32), I16194 (ad g 1) 6 = w16196 → (901 - w16196.toInt).toNat < mz → WP g mX5_readNumber 5 [(0, .ref (ad g 1))] [] I16194 J16195 R (fun r I' J' R' => (XI g n L I' ∧ R' = R ∧ fz 74 g [1] I I' ∧ fz 74 g [] J J') ∧ r = none) := by
    intro mz
    induction mz with
    | zero =>
      intro  I16194 J16195 hI16194 fiI16194 fjJ16195 w16196 ew16196  hmlp5_16196
      exact absurd hmlp5_16196 (Nat.not_lt_zero _)
    | succ mz ihlp5_16196 =>
      intro  I16194 J16195 hI16194 fiI16194 fjJ16195 w16196 ew16196  hmlp5_16196
      have bw16196 := BT_get hI16194.1 1 6 7 (0) (0) (900) (by decide) 6 (by decide) (by decide)
      rw [ew16196] at bw16196
      have e16198 : I16194 (ad g 1) 1 = L := hI16194.2
      have b16199 := BT_get hI16194.1 1 1 2 (0) (0) (900) (by decide) 1 (by decide) (by decide)
      rw [e16198] at b16199
      refine WP_aload_n dX5_readNumber_5 rfl ?_
      refine WQ_getim dX5_readNumber_6 fX5_19 rfl (lyx_is hy 1 5 rfl) ew16196 ?_
      refine WP_aload_n dX5_readNumber_9 rfl ?_
      refine WQ_getim dX5_readNumber_10 fX5_15 rfl (lyx_is hy 1 5 rfl) e16198 ?_
      refine WQ_icmp_ge 68 dX5_readNumber_13 rfl (fun c16199 => ?_) (fun c16199 => ?_)
      · refine WP_aload_n dX5_readNumber_68 rfl ?_
        refine WP_aload_n dX5_readNumber_69 rfl ?_
        refine WQ_getim dX5_readNumber_70 fX5_19 rfl (lyx_is hy 1 5 rfl) ew16196 ?_
        refine WP_aload_n dX5_readNumber_73 rfl ?_
        refine WQ_geti dX5_readNumber_74 fX5_22 rfl (lyx_is hy 1 5 rfl) (BT_get hI16194.1 1 3 4 (0) (0) (900) (by decide) 3 (by decide) (by decide)) (fun v16201 ev16201 av16201 bv16201 => ?_)
        refine WQ_isub dX5_readNumber_77 (by omega) (by omega) (fun v16202 hv16202 => ?_)
        refine WQ_iconst (4) (4) dX5_readNumber_78 rfl rfl (fun v16203 hv16203 => ?_)
        have jn87_16206 : ∀ (v16206 : Int32), 2 ≤ v16206.toInt → v16206.toInt ≤ 4 → WP g mX5_readNumber 87 [(0, .ref (ad g 1))] [.int v16206, .ref (ad g 1)] I16194 J16195 R (fun r I' J' R' => (XI g n L I' ∧ R' = R ∧ fz 74 g [1] I I' ∧ fz 74 g [] J J') ∧ r = none) := by
          intro v16206 av16206 bv16206
          refine WQ_puti dX5_readNumber_87 fX5_25 rfl rfl (lyx_is hy 1 5 rfl) (fun I16208 eI16208 => ?_)
          have hI16208 : XI g n L I16208 := by rw [eI16208]; exact (xi_f hy hI16194 (c := 1) (0) (0) (4) (by decide) (Or.inr (by decide)) (by decide) (by omega) (by omega))
          have e16209 : I16208 (ad g 1) 6 = w16196 := by rw [eI16208, pp_ne _ _ (Or.inr (by decide))]; exact ew16196
          have e16210 : I16208 (ad g 1) 1 = L := by rw [eI16208, pp_ne _ _ (Or.inr (by decide))]; exact e16198
          have e16211 : I16208 (ad g 1) 3 = v16201 := by rw [eI16208, pp_ne _ _ (Or.inr (by decide))]; exact ev16201
          have e16212 : I16208 (ad g 1) 2 = v16206 := by rw [eI16208, pp_self]
          have fr16213 : fz 74 g [1] I I16208 := by rw [eI16208]; exact fzx_pp hy fiI16194 (by decide) (by decide)
          clear eI16208
          exact WP_vret dX5_readNumber_90 rfl ⟨⟨hI16208, rfl, fr16213, fjJ16195⟩, rfl⟩
        refine WQ_icmp_le 86 dX5_readNumber_79 rfl (fun c16213 => ?_) (fun c16213 => ?_)
        · refine WQ_iconst (2) (2) dX5_readNumber_86 rfl rfl (fun v16215 hv16215 => ?_)
          exact WP_sub (fc rfl fn) (jn87_16206 v16215 (by omega) (by omega))
        · refine WQ_iconst (4) (4) dX5_readNumber_82 rfl rfl (fun v16216 hv16216 => ?_)
          refine WP_goto 87 dX5_readNumber_83 rfl ?_
          exact WP_sub (fc rfl fn) (jn87_16206 v16216 (by omega) (by omega))
      · refine WP_aload_n dX5_readNumber_16 rfl ?_
        refine WP_getr dX5_readNumber_17 fX5_9 rfl (lyx_is hy 1 5 rfl) (rfx hr 1 0 2 (by decide)) ?_
        refine WP_aload_n dX5_readNumber_20 rfl ?_
        refine WQ_getim dX5_readNumber_21 fX5_19 rfl (lyx_is hy 1 5 rfl) ew16196 ?_
        refine WQ_baldu dX5_readNumber_24 (lyx_is hy 2 12 rfl) (lyx_n hy 2 900 rfl) (by omega) (by omega) (fun v16217 => ?_)
        refine WP_callS1 dX5_readNumber_25 ⟨⟨⟨by decide, by decide⟩, zX5_isDigit⟩, lX5_35, tX5_isDigit⟩ (sx_isDigit hy hr hI16194 v16217 ) (Nat.le_of_ble_eq_true rfl) ?_
        intro r Ia Ja Ra hq
        obtain ⟨⟨ea, eb, ec⟩, v16218, rfl, av16218, bv16218⟩ := hq
        show WP _ _ _ _ (.int _ :: _) _ _ _ _
        rw [ea, eb, ec]
        clear ea eb ec Ia Ja Ra
        refine WQ_if_eq 68 dX5_readNumber_28 rfl (fun c16218 => ?_) (fun c16218 => ?_)
        · refine WP_aload_n dX5_readNumber_68 rfl ?_
          refine WP_aload_n dX5_readNumber_69 rfl ?_
          refine WQ_getim dX5_readNumber_70 fX5_19 rfl (lyx_is hy 1 5 rfl) ew16196 ?_
          refine WP_aload_n dX5_readNumber_73 rfl ?_
          refine WQ_geti dX5_readNumber_74 fX5_22 rfl (lyx_is hy 1 5 rfl) (BT_get hI16194.1 1 3 4 (0) (0) (900) (by decide) 3 (by decide) (by decide)) (fun v16220 ev16220 av16220 bv16220 => ?_)
          refine WQ_isub dX5_readNumber_77 (by omega) (by omega) (fun v16221 hv16221 => ?_)
          refine WQ_iconst (4) (4) dX5_readNumber_78 rfl rfl (fun v16222 hv16222 => ?_)
          have jn87_16225 : ∀ (v16225 : Int32), 2 ≤ v16225.toInt → v16225.toInt ≤ 4 → WP g mX5_readNumber 87 [(0, .ref (ad g 1))] [.int v16225, .ref (ad g 1)] I16194 J16195 R (fun r I' J' R' => (XI g n L I' ∧ R' = R ∧ fz 74 g [1] I I' ∧ fz 74 g [] J J') ∧ r = none) := by
            intro v16225 av16225 bv16225
            refine WQ_puti dX5_readNumber_87 fX5_25 rfl rfl (lyx_is hy 1 5 rfl) (fun I16227 eI16227 => ?_)
            have hI16227 : XI g n L I16227 := by rw [eI16227]; exact (xi_f hy hI16194 (c := 1) (0) (0) (4) (by decide) (Or.inr (by decide)) (by decide) (by omega) (by omega))
            have e16228 : I16227 (ad g 1) 6 = w16196 := by rw [eI16227, pp_ne _ _ (Or.inr (by decide))]; exact ew16196
            have e16229 : I16227 (ad g 1) 1 = L := by rw [eI16227, pp_ne _ _ (Or.inr (by decide))]; exact e16198
            have e16230 : I16227 (ad g 1) 3 = v16220 := by rw [eI16227, pp_ne _ _ (Or.inr (by decide))]; exact ev16220
            have e16231 : I16227 (ad g 1) 2 = v16225 := by rw [eI16227, pp_self]
            have fr16232 : fz 74 g [1] I I16227 := by rw [eI16227]; exact fzx_pp hy fiI16194 (by decide) (by decide)
            clear eI16227
            exact WP_vret dX5_readNumber_90 rfl ⟨⟨hI16227, rfl, fr16232, fjJ16195⟩, rfl⟩
          refine WQ_icmp_le 86 dX5_readNumber_79 rfl (fun c16232 => ?_) (fun c16232 => ?_)
          · refine WQ_iconst (2) (2) dX5_readNumber_86 rfl rfl (fun v16234 hv16234 => ?_)
            exact WP_sub (fc rfl fn) (jn87_16225 v16234 (by omega) (by omega))
          · refine WQ_iconst (4) (4) dX5_readNumber_82 rfl rfl (fun v16235 hv16235 => ?_)
            refine WP_goto 87 dX5_readNumber_83 rfl ?_
            exact WP_sub (fc rfl fn) (jn87_16225 v16235 (by omega) (by omega))
        · refine WP_aload_n dX5_readNumber_31 rfl ?_
          refine WP_aload_n dX5_readNumber_32 rfl ?_
          refine WQ_getiu dX5_readNumber_33 fX5_45 rfl (lyx_is hy 1 5 rfl) (fun v16236 ev16236 => ?_)
          refine WQ_bipush (10) (10) dX5_readNumber_36 rfl rfl (fun v16237 hv16237 => ?_)
          refine WQ_imulu dX5_readNumber_38 (fun v16238 => ?_)
          refine WP_aload_n dX5_readNumber_39 rfl ?_
          refine WP_getr dX5_readNumber_40 fX5_9 rfl (lyx_is hy 1 5 rfl) (rfx hr 1 0 2 (by decide)) ?_
          refine WP_aload_n dX5_readNumber_43 rfl ?_
          refine WQ_getim dX5_readNumber_44 fX5_19 rfl (lyx_is hy 1 5 rfl) ew16196 ?_
          refine WQ_baldu dX5_readNumber_47 (lyx_is hy 2 12 rfl) (lyx_n hy 2 900 rfl) (by omega) (by omega) (fun v16239 => ?_)
          refine WQ_iaddu dX5_readNumber_48 (fun v16240 => ?_)
          refine WQ_bipush (48) (48) dX5_readNumber_49 rfl rfl (fun v16241 hv16241 => ?_)
          refine WQ_isubu dX5_readNumber_51 (fun v16242 => ?_)
          refine WQ_puti dX5_readNumber_52 fX5_45 rfl rfl (lyx_is hy 1 5 rfl) (fun I16243 eI16243 => ?_)
          have hI16243 : XI g n L I16243 := by rw [eI16243]; exact (xi_f0 hy hI16194 (c := 1) (by decide) (Or.inr (by decide)) (by decide))
          have e16244 : I16243 (ad g 1) 6 = w16196 := by rw [eI16243, pp_ne _ _ (Or.inr (by decide))]; exact ew16196
          have e16245 : I16243 (ad g 1) 1 = L := by rw [eI16243, pp_ne _ _ (Or.inr (by decide))]; exact e16198
          have e16246 : I16243 (ad g 1) 4 = v16242 := by rw [eI16243, pp_self]
          have fr16247 : fz 74 g [1] I I16243 := by rw [eI16243]; exact fzx_pp hy fiI16194 (by decide) (by decide)
          clear eI16243
          refine WP_aload_n dX5_readNumber_55 rfl ?_
          refine WP_dup dX5_readNumber_56 rfl ?_
          refine WQ_getim dX5_readNumber_57 fX5_19 rfl (lyx_is hy 1 5 rfl) e16244 ?_
          refine WQ_iconst (1) (1) dX5_readNumber_60 rfl rfl (fun v16248 hv16248 => ?_)
          refine WQ_iadd dX5_readNumber_61 (by omega) (by omega) (fun v16249 hv16249 => ?_)
          refine WQ_puti dX5_readNumber_62 fX5_19 rfl rfl (lyx_is hy 1 5 rfl) (fun I16250 eI16250 => ?_)
          have hI16250 : XI g n L I16250 := by rw [eI16250]; exact (xi_f hy hI16243 (c := 1) (0) (0) (900) (by decide) (Or.inr (by decide)) (by decide) (by omega) (by omega))
          have e16251 : I16250 (ad g 1) 1 = L := by rw [eI16250, pp_ne _ _ (Or.inr (by decide))]; exact e16245
          have e16252 : I16250 (ad g 1) 4 = v16242 := by rw [eI16250, pp_ne _ _ (Or.inr (by decide))]; exact e16246
          have e16253 : I16250 (ad g 1) 6 = v16249 := by rw [eI16250, pp_self]
          have fr16254 : fz 74 g [1] I I16250 := by rw [eI16250]; exact fzx_pp hy fr16247 (by decide) (by decide)
          clear eI16250
          refine WP_goto 5 dX5_readNumber_65 rfl ?_
          exact WP_sub (fc rfl fn) (ihlp5_16196 I16250 J16195 hI16250 fr16254 fjJ16195 v16249 e16253 (by omega))
  obtain ⟨w16255, ew16255⟩ : ∃ w : Int32, I16190 (ad g 1) 6 = w := ⟨_, rfl⟩
  have bw16255 := BT_get hI16190.1 1 6 7 (0) (0) (900) (by decide) 6 (by decide) (by decide)
  rw [ew16255] at bw16255
  exact WP_sub (fc rfl fn) (lp5_16196 _ I16190 J hI16190 fr16193 frj0 w16255 ew16255 (Nat.lt_succ_self _))
set_option maxHeartbeats 4000000 in
set_option maxRecDepth 100000 in
theorem sx_nextf {g : GG} {n : Int} {L : Int32} (hy : LyX g)  {I : pI} {J : pJ} {R : pR} (hr : RfX g R) (hI : XI g n L I)   : SP g mX5_next [.ref (ad g 1)] I J R (fun r I' J' R' => (XI g n L I' ∧ R' = R ∧ fz 74 g [1] I I' ∧ fz 74 g [1] J J') ∧ r = none) := by
  refine SP_of ⟨by decide, rfl⟩ (Nat.le_of_ble_eq_true rfl) ?_
  have e16256 : I (ad g 1) 1 = L := hI.2
  have b16257 := BT_get hI.1 1 1 2 (0) (0) (900) (by decide) 1 (by decide) (by decide)
  rw [e16256] at b16257
  have fr0 : fz 74 g [1] I I := fz_rf
  have frj0 : fz 74 g [1] J J := fz_rf
  have lp0_16260 : ∀ (mz : Nat)  (I16258 : pI) (J16259 : pJ), XI g n L I16258 → fz 74 g [1] I I16258 → fz 74 g [1] J J16259 → ∀ (w16260 : Int32), I16258 (ad g 1) 6 = w16260 → (901 - w16260.toInt).toNat < mz → WP g mX5_next 0 [(0, .ref (ad g 1))] [] I16258 J16259 R (fun r I' J' R' => (XI g n L I' ∧ R' = R ∧ fz 74 g [1] I I' ∧ fz 74 g [1] J J') ∧ r = none) := by
    intro mz
    induction mz with
    | zero =>
      intro  I16258 J16259 hI16258 fiI16258 fjJ16259 w16260 ew16260  hmlp0_16260
      exact absurd hmlp0_16260 (Nat.not_lt_zero _)
    | succ mz ihlp0_16260 =>
      intro  I16258 J16259 hI16258 fiI16258 fjJ16259 w16260 ew16260  hmlp0_16260
      have bw16260 := BT_get hI16258.1 1 6 7 (0) (0) (900) (by decide) 6 (by decide) (by decide)
      rw [ew16260] at bw16260
      have e16262 : I16258 (ad g 1) 1 = L := hI16258.2
      have b16263 := BT_get hI16258.1 1 1 2 (0) (0) (900) (by decide) 1 (by decide) (by decide)
      rw [e16262] at b16263
      refine WP_aload_n dX5_next_0 rfl ?_
      refine WQ_getim dX5_next_1 fX5_19 rfl (lyx_is hy 1 5 rfl) ew16260 ?_
      refine WP_aload_n dX5_next_4 rfl ?_
      refine WQ_getim dX5_next_5 fX5_15 rfl (lyx_is hy 1 5 rfl) e16262 ?_
      refine WQ_icmp_ge 52 dX5_next_8 rfl (fun c16263 => ?_) (fun c16263 => ?_)
      · refine WP_aload_n dX5_next_52 rfl ?_
        refine WP_aload_n dX5_next_53 rfl ?_
        refine WQ_getim dX5_next_54 fX5_19 rfl (lyx_is hy 1 5 rfl) ew16260 ?_
        refine WQ_puti dX5_next_57 fX5_22 rfl rfl (lyx_is hy 1 5 rfl) (fun I16265 eI16265 => ?_)
        have hI16265 : XI g n L I16265 := by rw [eI16265]; exact (xi_f hy hI16258 (c := 1) (0) (0) (900) (by decide) (Or.inr (by decide)) (by decide) (by omega) (by omega))
        have e16266 : I16265 (ad g 1) 6 = w16260 := by rw [eI16265, pp_ne _ _ (Or.inr (by decide))]; exact ew16260
        have e16267 : I16265 (ad g 1) 1 = L := by rw [eI16265, pp_ne _ _ (Or.inr (by decide))]; exact e16262
        have e16268 : I16265 (ad g 1) 3 = w16260 := by rw [eI16265, pp_self]
        have fr16269 : fz 74 g [1] I I16265 := by rw [eI16265]; exact fzx_pp hy fiI16258 (by decide) (by decide)
        clear eI16265
        refine WP_aload_n dX5_next_60 rfl ?_
        refine WQ_getim dX5_next_61 fX5_19 rfl (lyx_is hy 1 5 rfl) e16266 ?_
        refine WP_aload_n dX5_next_64 rfl ?_
        refine WQ_getim dX5_next_65 fX5_15 rfl (lyx_is hy 1 5 rfl) e16267 ?_
        refine WQ_icmp_lt 79 dX5_next_68 rfl (fun c16269 => ?_) (fun c16269 => ?_)
        · refine WP_aload_n dX5_next_79 rfl ?_
          refine WP_getr dX5_next_80 fX5_9 rfl (lyx_is hy 1 5 rfl) (rfx hr 1 0 2 (by decide)) ?_
          refine WP_aload_n dX5_next_83 rfl ?_
          refine WQ_getim dX5_next_84 fX5_19 rfl (lyx_is hy 1 5 rfl) e16266 ?_
          refine WQ_baldu dX5_next_87 (lyx_is hy 2 12 rfl) (lyx_n hy 2 900 rfl) (by omega) (by omega) (fun v16271 => ?_)
          refine WP_callS1 dX5_next_88 ⟨⟨⟨by decide, by decide⟩, zX5_isLetter⟩, lX5_28, tX5_isLetter⟩ (sx_isLetter hy hr hI16265 v16271 ) (Nat.le_of_ble_eq_true rfl) ?_
          intro r Ia Ja Ra hq
          obtain ⟨⟨ea, eb, ec⟩, v16272, rfl, av16272, bv16272⟩ := hq
          show WP _ _ _ _ (.int _ :: _) _ _ _ _
          rw [ea, eb, ec]
          clear ea eb ec Ia Ja Ra
          refine WQ_if_eq 101 dX5_next_91 rfl (fun c16272 => ?_) (fun c16272 => ?_)
          · refine WP_aload_n dX5_next_101 rfl ?_
            refine WP_getr dX5_next_102 fX5_9 rfl (lyx_is hy 1 5 rfl) (rfx hr 1 0 2 (by decide)) ?_
            refine WP_aload_n dX5_next_105 rfl ?_
            refine WQ_getim dX5_next_106 fX5_19 rfl (lyx_is hy 1 5 rfl) e16266 ?_
            refine WQ_baldu dX5_next_109 (lyx_is hy 2 12 rfl) (lyx_n hy 2 900 rfl) (by omega) (by omega) (fun v16274 => ?_)
            refine WP_callS1 dX5_next_110 ⟨⟨⟨by decide, by decide⟩, zX5_isDigit⟩, lX5_35, tX5_isDigit⟩ (sx_isDigit hy hr hI16265 v16274 ) (Nat.le_of_ble_eq_true rfl) ?_
            intro r Ia Ja Ra hq
            obtain ⟨⟨ea, eb, ec⟩, v16275, rfl, av16275, bv16275⟩ := hq
            show WP _ _ _ _ (.int _ :: _) _ _ _ _
            rw [ea, eb, ec]
            clear ea eb ec Ia Ja Ra
            refine WQ_if_eq 123 dX5_next_113 rfl (fun c16275 => ?_) (fun c16275 => ?_)
            · refine WP_aload_n dX5_next_123 rfl ?_
              refine WP_aload_n dX5_next_124 rfl ?_
              refine WP_getr dX5_next_125 fX5_9 rfl (lyx_is hy 1 5 rfl) (rfx hr 1 0 2 (by decide)) ?_
              refine WP_aload_n dX5_next_128 rfl ?_
              refine WQ_getim dX5_next_129 fX5_19 rfl (lyx_is hy 1 5 rfl) e16266 ?_
              refine WQ_baldu dX5_next_132 (lyx_is hy 2 12 rfl) (lyx_n hy 2 900 rfl) (by omega) (by omega) (fun v16277 => ?_)
              refine WQ_bipush (59) (59) dX5_next_133 rfl rfl (fun v16278 hv16278 => ?_)
              have jn143_16281 : ∀ (v16281 : Int32), 3 ≤ v16281.toInt → v16281.toInt ≤ 4 → WP g mX5_next 143 [(0, .ref (ad g 1))] [.int v16281, .ref (ad g 1)] I16265 J16259 R (fun r I' J' R' => (XI g n L I' ∧ R' = R ∧ fz 74 g [1] I I' ∧ fz 74 g [1] J J') ∧ r = none) := by
                intro v16281 av16281 bv16281
                refine WQ_puti dX5_next_143 fX5_25 rfl rfl (lyx_is hy 1 5 rfl) (fun I16283 eI16283 => ?_)
                have hI16283 : XI g n L I16283 := by rw [eI16283]; exact (xi_f hy hI16265 (c := 1) (0) (0) (4) (by decide) (Or.inr (by decide)) (by decide) (by omega) (by omega))
                have e16284 : I16283 (ad g 1) 6 = w16260 := by rw [eI16283, pp_ne _ _ (Or.inr (by decide))]; exact e16266
                have e16285 : I16283 (ad g 1) 1 = L := by rw [eI16283, pp_ne _ _ (Or.inr (by decide))]; exact e16267
                have e16286 : I16283 (ad g 1) 3 = w16260 := by rw [eI16283, pp_ne _ _ (Or.inr (by decide))]; exact e16268
                have e16287 : I16283 (ad g 1) 2 = v16281 := by rw [eI16283, pp_self]
                have fr16288 : fz 74 g [1] I I16283 := by rw [eI16283]; exact fzx_pp hy fr16269 (by decide) (by decide)
                clear eI16283
                refine WP_aload_n dX5_next_146 rfl ?_
                refine WP_dup dX5_next_147 rfl ?_
                refine WQ_getim dX5_next_148 fX5_19 rfl (lyx_is hy 1 5 rfl) e16284 ?_
                refine WQ_iconst (1) (1) dX5_next_151 rfl rfl (fun v16289 hv16289 => ?_)
                refine WQ_iadd dX5_next_152 (by omega) (by omega) (fun v16290 hv16290 => ?_)
                refine WQ_puti dX5_next_153 fX5_19 rfl rfl (lyx_is hy 1 5 rfl) (fun I16291 eI16291 => ?_)
                have hI16291 : XI g n L I16291 := by rw [eI16291]; exact (xi_f hy hI16283 (c := 1) (0) (0) (900) (by decide) (Or.inr (by decide)) (by decide) (by omega) (by omega))
                have e16292 : I16291 (ad g 1) 1 = L := by rw [eI16291, pp_ne _ _ (Or.inr (by decide))]; exact e16285
                have e16293 : I16291 (ad g 1) 3 = w16260 := by rw [eI16291, pp_ne _ _ (Or.inr (by decide))]; exact e16286
                have e16294 : I16291 (ad g 1) 2 = v16281 := by rw [eI16291, pp_ne _ _ (Or.inr (by decide))]; exact e16287
                have e16295 : I16291 (ad g 1) 6 = v16290 := by rw [eI16291, pp_self]
                have fr16296 : fz 74 g [1] I I16291 := by rw [eI16291]; exact fzx_pp hy fr16288 (by decide) (by decide)
                clear eI16291
                exact WP_vret dX5_next_156 rfl ⟨⟨hI16291, rfl, fr16296, fjJ16259⟩, rfl⟩
              refine WX_icmp_ne 142 dX5_next_135 rfl ?_ ?_
              · refine WQ_iconst (4) (4) dX5_next_142 rfl rfl (fun v16297 hv16297 => ?_)
                exact WP_sub (fc rfl fn) (jn143_16281 v16297 (by omega) (by omega))
              · refine WQ_iconst (3) (3) dX5_next_138 rfl rfl (fun v16298 hv16298 => ?_)
                refine WP_goto 143 dX5_next_139 rfl ?_
                exact WP_sub (fc rfl fn) (jn143_16281 v16298 (by omega) (by omega))
            · refine WP_aload_n dX5_next_116 rfl ?_
              refine WP_callV0 (k := 5) dX5_next_117 ⟨⟨⟨by decide, by decide⟩, zX5_readNumber⟩, lX5_38, by decide, rfl, vX5_readNumber.1, vX5_readNumber.2⟩ (lyx_is hy 1 5 rfl) (sx_readNumberf hy hr hI16265  ) (Nat.le_of_ble_eq_true rfl) ?_
              intro r I16299 J16300 Ra hq
              obtain ⟨⟨hI16299, ec, fiI16299, fjI16299⟩, rfl⟩ := hq
              rw [ec]
              clear ec Ra
              have fr16301 : fz 74 g [1] I I16299 := fz_tr fr16269 (fz_mono fiI16299 (by decide))
              have fr16302 : fz 74 g [1] J J16300 := fz_tr fjJ16259 (fz_mono fjI16299 (by decide))
              have e16303 : I16299 (ad g 1) 1 = L := hI16299.2
              have b16304 := BT_get hI16299.1 1 1 2 (0) (0) (900) (by decide) 1 (by decide) (by decide)
              rw [e16303] at b16304
              refine WP_goto 156 dX5_next_120 rfl ?_
              exact WP_vret dX5_next_156 rfl ⟨⟨hI16299, rfl, fr16301, fr16302⟩, rfl⟩
          · refine WP_aload_n dX5_next_94 rfl ?_
            refine WP_callV0 (k := 5) dX5_next_95 ⟨⟨⟨by decide, by decide⟩, zX5_readWord⟩, lX5_32, by decide, rfl, vX5_readWord.1, vX5_readWord.2⟩ (lyx_is hy 1 5 rfl) (sx_readWordf hy hr hI16265  ) (Nat.le_of_ble_eq_true rfl) ?_
            intro r I16305 J16306 Ra hq
            obtain ⟨⟨hI16305, ec, fiI16305, fjI16305⟩, rfl⟩ := hq
            rw [ec]
            clear ec Ra
            have fr16307 : fz 74 g [1] I I16305 := fz_tr fr16269 (fz_mono fiI16305 (by decide))
            have fr16308 : fz 74 g [1] J J16306 := fz_tr fjJ16259 (fz_mono fjI16305 (by decide))
            have e16309 : I16305 (ad g 1) 1 = L := hI16305.2
            have b16310 := BT_get hI16305.1 1 1 2 (0) (0) (900) (by decide) 1 (by decide) (by decide)
            rw [e16309] at b16310
            refine WP_goto 156 dX5_next_98 rfl ?_
            exact WP_vret dX5_next_156 rfl ⟨⟨hI16305, rfl, fr16307, fr16308⟩, rfl⟩
        · refine WP_aload_n dX5_next_71 rfl ?_
          refine WQ_iconst (0) (0) dX5_next_72 rfl rfl (fun v16311 hv16311 => ?_)
          refine WQ_puti dX5_next_73 fX5_25 rfl rfl (lyx_is hy 1 5 rfl) (fun I16312 eI16312 => ?_)
          have hI16312 : XI g n L I16312 := by rw [eI16312]; exact (xi_f hy hI16265 (c := 1) (0) (0) (4) (by decide) (Or.inr (by decide)) (by decide) (by omega) (by omega))
          have e16313 : I16312 (ad g 1) 6 = w16260 := by rw [eI16312, pp_ne _ _ (Or.inr (by decide))]; exact e16266
          have e16314 : I16312 (ad g 1) 1 = L := by rw [eI16312, pp_ne _ _ (Or.inr (by decide))]; exact e16267
          have e16315 : I16312 (ad g 1) 3 = w16260 := by rw [eI16312, pp_ne _ _ (Or.inr (by decide))]; exact e16268
          have e16316 : I16312 (ad g 1) 2 = v16311 := by rw [eI16312, pp_self]
          have fr16317 : fz 74 g [1] I I16312 := by rw [eI16312]; exact fzx_pp hy fr16269 (by decide) (by decide)
          clear eI16312
          refine WP_goto 156 dX5_next_76 rfl ?_
          exact WP_vret dX5_next_156 rfl ⟨⟨hI16312, rfl, fr16317, fjJ16259⟩, rfl⟩
      · refine WP_aload_n dX5_next_11 rfl ?_
        refine WP_getr dX5_next_12 fX5_9 rfl (lyx_is hy 1 5 rfl) (rfx hr 1 0 2 (by decide)) ?_
        refine WP_aload_n dX5_next_15 rfl ?_
        refine WQ_getim dX5_next_16 fX5_19 rfl (lyx_is hy 1 5 rfl) ew16260 ?_
        refine WQ_baldu dX5_next_19 (lyx_is hy 2 12 rfl) (lyx_n hy 2 900 rfl) (by omega) (by omega) (fun v16318 => ?_)
        refine WQ_bipush (32) (32) dX5_next_20 rfl rfl (fun v16319 hv16319 => ?_)
        refine WX_icmp_eq 39 dX5_next_22 rfl ?_ ?_
        · refine WP_aload_n dX5_next_39 rfl ?_
          refine WP_dup dX5_next_40 rfl ?_
          refine WQ_getim dX5_next_41 fX5_19 rfl (lyx_is hy 1 5 rfl) ew16260 ?_
          refine WQ_iconst (1) (1) dX5_next_44 rfl rfl (fun v16320 hv16320 => ?_)
          refine WQ_iadd dX5_next_45 (by omega) (by omega) (fun v16321 hv16321 => ?_)
          refine WQ_puti dX5_next_46 fX5_19 rfl rfl (lyx_is hy 1 5 rfl) (fun I16322 eI16322 => ?_)
          have hI16322 : XI g n L I16322 := by rw [eI16322]; exact (xi_f hy hI16258 (c := 1) (0) (0) (900) (by decide) (Or.inr (by decide)) (by decide) (by omega) (by omega))
          have e16323 : I16322 (ad g 1) 1 = L := by rw [eI16322, pp_ne _ _ (Or.inr (by decide))]; exact e16262
          have e16324 : I16322 (ad g 1) 6 = v16321 := by rw [eI16322, pp_self]
          have fr16325 : fz 74 g [1] I I16322 := by rw [eI16322]; exact fzx_pp hy fiI16258 (by decide) (by decide)
          clear eI16322
          refine WP_goto 0 dX5_next_49 rfl ?_
          exact WP_sub (fc rfl fn) (ihlp0_16260 I16322 J16259 hI16322 fr16325 fjJ16259 v16321 e16324 (by omega))
        · refine WP_aload_n dX5_next_25 rfl ?_
          refine WP_getr dX5_next_26 fX5_9 rfl (lyx_is hy 1 5 rfl) (rfx hr 1 0 2 (by decide)) ?_
          refine WP_aload_n dX5_next_29 rfl ?_
          refine WQ_getim dX5_next_30 fX5_19 rfl (lyx_is hy 1 5 rfl) ew16260 ?_
          refine WQ_baldu dX5_next_33 (lyx_is hy 2 12 rfl) (lyx_n hy 2 900 rfl) (by omega) (by omega) (fun v16326 => ?_)
          refine WQ_bipush (10) (10) dX5_next_34 rfl rfl (fun v16327 hv16327 => ?_)
          refine WX_icmp_ne 52 dX5_next_36 rfl ?_ ?_
          · refine WP_aload_n dX5_next_52 rfl ?_
            refine WP_aload_n dX5_next_53 rfl ?_
            refine WQ_getim dX5_next_54 fX5_19 rfl (lyx_is hy 1 5 rfl) ew16260 ?_
            refine WQ_puti dX5_next_57 fX5_22 rfl rfl (lyx_is hy 1 5 rfl) (fun I16328 eI16328 => ?_)
            have hI16328 : XI g n L I16328 := by rw [eI16328]; exact (xi_f hy hI16258 (c := 1) (0) (0) (900) (by decide) (Or.inr (by decide)) (by decide) (by omega) (by omega))
            have e16329 : I16328 (ad g 1) 6 = w16260 := by rw [eI16328, pp_ne _ _ (Or.inr (by decide))]; exact ew16260
            have e16330 : I16328 (ad g 1) 1 = L := by rw [eI16328, pp_ne _ _ (Or.inr (by decide))]; exact e16262
            have e16331 : I16328 (ad g 1) 3 = w16260 := by rw [eI16328, pp_self]
            have fr16332 : fz 74 g [1] I I16328 := by rw [eI16328]; exact fzx_pp hy fiI16258 (by decide) (by decide)
            clear eI16328
            refine WP_aload_n dX5_next_60 rfl ?_
            refine WQ_getim dX5_next_61 fX5_19 rfl (lyx_is hy 1 5 rfl) e16329 ?_
            refine WP_aload_n dX5_next_64 rfl ?_
            refine WQ_getim dX5_next_65 fX5_15 rfl (lyx_is hy 1 5 rfl) e16330 ?_
            refine WQ_icmp_lt 79 dX5_next_68 rfl (fun c16332 => ?_) (fun c16332 => ?_)
            · refine WP_aload_n dX5_next_79 rfl ?_
              refine WP_getr dX5_next_80 fX5_9 rfl (lyx_is hy 1 5 rfl) (rfx hr 1 0 2 (by decide)) ?_
              refine WP_aload_n dX5_next_83 rfl ?_
              refine WQ_getim dX5_next_84 fX5_19 rfl (lyx_is hy 1 5 rfl) e16329 ?_
              refine WQ_baldu dX5_next_87 (lyx_is hy 2 12 rfl) (lyx_n hy 2 900 rfl) (by omega) (by omega) (fun v16334 => ?_)
              refine WP_callS1 dX5_next_88 ⟨⟨⟨by decide, by decide⟩, zX5_isLetter⟩, lX5_28, tX5_isLetter⟩ (sx_isLetter hy hr hI16328 v16334 ) (Nat.le_of_ble_eq_true rfl) ?_
              intro r Ia Ja Ra hq
              obtain ⟨⟨ea, eb, ec⟩, v16335, rfl, av16335, bv16335⟩ := hq
              show WP _ _ _ _ (.int _ :: _) _ _ _ _
              rw [ea, eb, ec]
              clear ea eb ec Ia Ja Ra
              refine WQ_if_eq 101 dX5_next_91 rfl (fun c16335 => ?_) (fun c16335 => ?_)
              · refine WP_aload_n dX5_next_101 rfl ?_
                refine WP_getr dX5_next_102 fX5_9 rfl (lyx_is hy 1 5 rfl) (rfx hr 1 0 2 (by decide)) ?_
                refine WP_aload_n dX5_next_105 rfl ?_
                refine WQ_getim dX5_next_106 fX5_19 rfl (lyx_is hy 1 5 rfl) e16329 ?_
                refine WQ_baldu dX5_next_109 (lyx_is hy 2 12 rfl) (lyx_n hy 2 900 rfl) (by omega) (by omega) (fun v16337 => ?_)
                refine WP_callS1 dX5_next_110 ⟨⟨⟨by decide, by decide⟩, zX5_isDigit⟩, lX5_35, tX5_isDigit⟩ (sx_isDigit hy hr hI16328 v16337 ) (Nat.le_of_ble_eq_true rfl) ?_
                intro r Ia Ja Ra hq
                obtain ⟨⟨ea, eb, ec⟩, v16338, rfl, av16338, bv16338⟩ := hq
                show WP _ _ _ _ (.int _ :: _) _ _ _ _
                rw [ea, eb, ec]
                clear ea eb ec Ia Ja Ra
                refine WQ_if_eq 123 dX5_next_113 rfl (fun c16338 => ?_) (fun c16338 => ?_)
                · refine WP_aload_n dX5_next_123 rfl ?_
                  refine WP_aload_n dX5_next_124 rfl ?_
                  refine WP_getr dX5_next_125 fX5_9 rfl (lyx_is hy 1 5 rfl) (rfx hr 1 0 2 (by decide)) ?_
                  refine WP_aload_n dX5_next_128 rfl ?_
                  refine WQ_getim dX5_next_129 fX5_19 rfl (lyx_is hy 1 5 rfl) e16329 ?_
                  refine WQ_baldu dX5_next_132 (lyx_is hy 2 12 rfl) (lyx_n hy 2 900 rfl) (by omega) (by omega) (fun v16340 => ?_)
                  refine WQ_bipush (59) (59) dX5_next_133 rfl rfl (fun v16341 hv16341 => ?_)
                  have jn143_16344 : ∀ (v16344 : Int32), 3 ≤ v16344.toInt → v16344.toInt ≤ 4 → WP g mX5_next 143 [(0, .ref (ad g 1))] [.int v16344, .ref (ad g 1)] I16328 J16259 R (fun r I' J' R' => (XI g n L I' ∧ R' = R ∧ fz 74 g [1] I I' ∧ fz 74 g [1] J J') ∧ r = none) := by
                    intro v16344 av16344 bv16344
                    refine WQ_puti dX5_next_143 fX5_25 rfl rfl (lyx_is hy 1 5 rfl) (fun I16346 eI16346 => ?_)
                    have hI16346 : XI g n L I16346 := by rw [eI16346]; exact (xi_f hy hI16328 (c := 1) (0) (0) (4) (by decide) (Or.inr (by decide)) (by decide) (by omega) (by omega))
                    have e16347 : I16346 (ad g 1) 6 = w16260 := by rw [eI16346, pp_ne _ _ (Or.inr (by decide))]; exact e16329
                    have e16348 : I16346 (ad g 1) 1 = L := by rw [eI16346, pp_ne _ _ (Or.inr (by decide))]; exact e16330
                    have e16349 : I16346 (ad g 1) 3 = w16260 := by rw [eI16346, pp_ne _ _ (Or.inr (by decide))]; exact e16331
                    have e16350 : I16346 (ad g 1) 2 = v16344 := by rw [eI16346, pp_self]
                    have fr16351 : fz 74 g [1] I I16346 := by rw [eI16346]; exact fzx_pp hy fr16332 (by decide) (by decide)
                    clear eI16346
                    refine WP_aload_n dX5_next_146 rfl ?_
                    refine WP_dup dX5_next_147 rfl ?_
                    refine WQ_getim dX5_next_148 fX5_19 rfl (lyx_is hy 1 5 rfl) e16347 ?_
                    refine WQ_iconst (1) (1) dX5_next_151 rfl rfl (fun v16352 hv16352 => ?_)
                    refine WQ_iadd dX5_next_152 (by omega) (by omega) (fun v16353 hv16353 => ?_)
                    refine WQ_puti dX5_next_153 fX5_19 rfl rfl (lyx_is hy 1 5 rfl) (fun I16354 eI16354 => ?_)
                    have hI16354 : XI g n L I16354 := by rw [eI16354]; exact (xi_f hy hI16346 (c := 1) (0) (0) (900) (by decide) (Or.inr (by decide)) (by decide) (by omega) (by omega))
                    have e16355 : I16354 (ad g 1) 1 = L := by rw [eI16354, pp_ne _ _ (Or.inr (by decide))]; exact e16348
                    have e16356 : I16354 (ad g 1) 3 = w16260 := by rw [eI16354, pp_ne _ _ (Or.inr (by decide))]; exact e16349
                    have e16357 : I16354 (ad g 1) 2 = v16344 := by rw [eI16354, pp_ne _ _ (Or.inr (by decide))]; exact e16350
                    have e16358 : I16354 (ad g 1) 6 = v16353 := by rw [eI16354, pp_self]
                    have fr16359 : fz 74 g [1] I I16354 := by rw [eI16354]; exact fzx_pp hy fr16351 (by decide) (by decide)
                    clear eI16354
                    exact WP_vret dX5_next_156 rfl ⟨⟨hI16354, rfl, fr16359, fjJ16259⟩, rfl⟩
                  refine WX_icmp_ne 142 dX5_next_135 rfl ?_ ?_
                  · refine WQ_iconst (4) (4) dX5_next_142 rfl rfl (fun v16360 hv16360 => ?_)
                    exact WP_sub (fc rfl fn) (jn143_16344 v16360 (by omega) (by omega))
                  · refine WQ_iconst (3) (3) dX5_next_138 rfl rfl (fun v16361 hv16361 => ?_)
                    refine WP_goto 143 dX5_next_139 rfl ?_
                    exact WP_sub (fc rfl fn) (jn143_16344 v16361 (by omega) (by omega))
                · refine WP_aload_n dX5_next_116 rfl ?_
                  refine WP_callV0 (k := 5) dX5_next_117 ⟨⟨⟨by decide, by decide⟩, zX5_readNumber⟩, lX5_38, by decide, rfl, vX5_readNumber.1, vX5_readNumber.2⟩ (lyx_is hy 1 5 rfl) (sx_readNumberf hy hr hI16328  ) (Nat.le_of_ble_eq_true rfl) ?_
                  intro r I16362 J16363 Ra hq
                  obtain ⟨⟨hI16362, ec, fiI16362, fjI16362⟩, rfl⟩ := hq
                  rw [ec]
                  clear ec Ra
                  have fr16364 : fz 74 g [1] I I16362 := fz_tr fr16332 (fz_mono fiI16362 (by decide))
                  have fr16365 : fz 74 g [1] J J16363 := fz_tr fjJ16259 (fz_mono fjI16362 (by decide))
                  have e16366 : I16362 (ad g 1) 1 = L := hI16362.2
                  have b16367 := BT_get hI16362.1 1 1 2 (0) (0) (900) (by decide) 1 (by decide) (by decide)
                  rw [e16366] at b16367
                  refine WP_goto 156 dX5_next_120 rfl ?_
                  exact WP_vret dX5_next_156 rfl ⟨⟨hI16362, rfl, fr16364, fr16365⟩, rfl⟩
              · refine WP_aload_n dX5_next_94 rfl ?_
                refine WP_callV0 (k := 5) dX5_next_95 ⟨⟨⟨by decide, by decide⟩, zX5_readWord⟩, lX5_32, by decide, rfl, vX5_readWord.1, vX5_readWord.2⟩ (lyx_is hy 1 5 rfl) (sx_readWordf hy hr hI16328  ) (Nat.le_of_ble_eq_true rfl) ?_
                intro r I16368 J16369 Ra hq
                obtain ⟨⟨hI16368, ec, fiI16368, fjI16368⟩, rfl⟩ := hq
                rw [ec]
                clear ec Ra
                have fr16370 : fz 74 g [1] I I16368 := fz_tr fr16332 (fz_mono fiI16368 (by decide))
                have fr16371 : fz 74 g [1] J J16369 := fz_tr fjJ16259 (fz_mono fjI16368 (by decide))
                have e16372 : I16368 (ad g 1) 1 = L := hI16368.2
                have b16373 := BT_get hI16368.1 1 1 2 (0) (0) (900) (by decide) 1 (by decide) (by decide)
                rw [e16372] at b16373
                refine WP_goto 156 dX5_next_98 rfl ?_
                exact WP_vret dX5_next_156 rfl ⟨⟨hI16368, rfl, fr16370, fr16371⟩, rfl⟩
            · refine WP_aload_n dX5_next_71 rfl ?_
              refine WQ_iconst (0) (0) dX5_next_72 rfl rfl (fun v16374 hv16374 => ?_)
              refine WQ_puti dX5_next_73 fX5_25 rfl rfl (lyx_is hy 1 5 rfl) (fun I16375 eI16375 => ?_)
              have hI16375 : XI g n L I16375 := by rw [eI16375]; exact (xi_f hy hI16328 (c := 1) (0) (0) (4) (by decide) (Or.inr (by decide)) (by decide) (by omega) (by omega))
              have e16376 : I16375 (ad g 1) 6 = w16260 := by rw [eI16375, pp_ne _ _ (Or.inr (by decide))]; exact e16329
              have e16377 : I16375 (ad g 1) 1 = L := by rw [eI16375, pp_ne _ _ (Or.inr (by decide))]; exact e16330
              have e16378 : I16375 (ad g 1) 3 = w16260 := by rw [eI16375, pp_ne _ _ (Or.inr (by decide))]; exact e16331
              have e16379 : I16375 (ad g 1) 2 = v16374 := by rw [eI16375, pp_self]
              have fr16380 : fz 74 g [1] I I16375 := by rw [eI16375]; exact fzx_pp hy fr16332 (by decide) (by decide)
              clear eI16375
              refine WP_goto 156 dX5_next_76 rfl ?_
              exact WP_vret dX5_next_156 rfl ⟨⟨hI16375, rfl, fr16380, fjJ16259⟩, rfl⟩
          · refine WP_aload_n dX5_next_39 rfl ?_
            refine WP_dup dX5_next_40 rfl ?_
            refine WQ_getim dX5_next_41 fX5_19 rfl (lyx_is hy 1 5 rfl) ew16260 ?_
            refine WQ_iconst (1) (1) dX5_next_44 rfl rfl (fun v16381 hv16381 => ?_)
            refine WQ_iadd dX5_next_45 (by omega) (by omega) (fun v16382 hv16382 => ?_)
            refine WQ_puti dX5_next_46 fX5_19 rfl rfl (lyx_is hy 1 5 rfl) (fun I16383 eI16383 => ?_)
            have hI16383 : XI g n L I16383 := by rw [eI16383]; exact (xi_f hy hI16258 (c := 1) (0) (0) (900) (by decide) (Or.inr (by decide)) (by decide) (by omega) (by omega))
            have e16384 : I16383 (ad g 1) 1 = L := by rw [eI16383, pp_ne _ _ (Or.inr (by decide))]; exact e16262
            have e16385 : I16383 (ad g 1) 6 = v16382 := by rw [eI16383, pp_self]
            have fr16386 : fz 74 g [1] I I16383 := by rw [eI16383]; exact fzx_pp hy fiI16258 (by decide) (by decide)
            clear eI16383
            refine WP_goto 0 dX5_next_49 rfl ?_
            exact WP_sub (fc rfl fn) (ihlp0_16260 I16383 J16259 hI16383 fr16386 fjJ16259 v16382 e16385 (by omega))
  obtain ⟨w16387, ew16387⟩ : ∃ w : Int32, I (ad g 1) 6 = w := ⟨_, rfl⟩
  have bw16387 := BT_get hI.1 1 6 7 (0) (0) (900) (by decide) 6 (by decide) (by decide)
  rw [ew16387] at bw16387
  exact WP_sub (fc rfl fn) (lp0_16260 _ I J hI fr0 frj0 w16387 ew16387 (Nat.lt_succ_self _))
set_option maxHeartbeats 4000000 in
set_option maxRecDepth 100000 in
theorem sx_notef {g : GG} {n : Int} {L : Int32} (hy : LyX g)  {I : pI} {J : pJ} {R : pR} (hr : RfX g R) (hI : XI g n L I) (k : Int32)  : SP g mX3_note [.ref (ad g 3), .int k] I J R (fun r I' J' R' => (XI g n L I' ∧ R' = R ∧ fz 74 g [3] I I' ∧ fz 74 g [] J J') ∧ r = none) := by
  refine SP_of ⟨by decide, rfl⟩ (Nat.le_of_ble_eq_true rfl) ?_
  have e16388 : I (ad g 1) 1 = L := hI.2
  have b16389 := BT_get hI.1 1 1 2 (0) (0) (900) (by decide) 1 (by decide) (by decide)
  rw [e16388] at b16389
  have fr0 : fz 74 g [3] I I := fz_rf
  have frj0 : fz 74 g [] J J := fz_rf
  refine WP_aload_n dX3_note_0 rfl ?_
  refine WP_iload_n dX3_note_1 rfl ?_
  refine WQ_puti dX3_note_2 fX3_19 rfl rfl (lyx_is hy 3 3 rfl) (fun I16390 eI16390 => ?_)
  have hI16390 : XI g n L I16390 := by rw [eI16390]; exact (xi_f0 hy hI (c := 3) (by decide) (Or.inl (by decide)) (by decide))
  have e16391 : I16390 (ad g 1) 1 = L := by rw [eI16390, pp_ne _ _ (Or.inl (lyx_ne hy (by decide) (by decide) (by decide)))]; exact e16388
  have e16392 : I16390 (ad g 3) 0 = k := by rw [eI16390, pp_self]
  have fr16393 : fz 74 g [3] I I16390 := by rw [eI16390]; exact fzx_pp hy fr0 (by decide) (by decide)
  clear eI16390
  refine WP_aload_n dX3_note_5 rfl ?_
  refine WP_iload_n dX3_note_6 rfl ?_
  have jn21_16396 : ∀ (v16396 : Int32), -1 ≤ v16396.toInt → v16396.toInt ≤ 900 → WP g mX3_note 21 [(0, .ref (ad g 3)), (1, .int k)] [.int v16396, .ref (ad g 3)] I16390 J R (fun r I' J' R' => (XI g n L I' ∧ R' = R ∧ fz 74 g [3] I I' ∧ fz 74 g [] J J') ∧ r = none) := by
    intro v16396 av16396 bv16396
    refine WQ_puti dX3_note_21 fX3_23 rfl rfl (lyx_is hy 3 3 rfl) (fun I16398 eI16398 => ?_)
    have hI16398 : XI g n L I16398 := by rw [eI16398]; exact (xi_f0 hy hI16390 (c := 3) (by decide) (Or.inl (by decide)) (by decide))
    have e16399 : I16398 (ad g 1) 1 = L := by rw [eI16398, pp_ne _ _ (Or.inl (lyx_ne hy (by decide) (by decide) (by decide)))]; exact e16391
    have e16400 : I16398 (ad g 3) 0 = k := by rw [eI16398, pp_ne _ _ (Or.inr (by decide))]; exact e16392
    have e16401 : I16398 (ad g 3) 1 = v16396 := by rw [eI16398, pp_self]
    have fr16402 : fz 74 g [3] I I16398 := by rw [eI16398]; exact fzx_pp hy fr16393 (by decide) (by decide)
    clear eI16398
    exact WP_vret dX3_note_24 rfl ⟨⟨hI16398, rfl, fr16402, frj0⟩, rfl⟩
  refine WX_if_ne 14 dX3_note_7 rfl ?_ ?_
  · refine WP_aload_n dX3_note_14 rfl ?_
    refine WP_getr dX3_note_15 fX3_15 rfl (lyx_is hy 3 3 rfl) (rfx hr 3 2 1 (by decide)) ?_
    refine WQ_geti dX3_note_18 fX3_69 rfl (lyx_is hy 1 5 rfl) (BT_get hI16390.1 1 3 4 (0) (0) (900) (by decide) 3 (by decide) (by decide)) (fun v16403 ev16403 av16403 bv16403 => ?_)
    exact WP_sub (fc rfl (fc rfl fn)) (jn21_16396 v16403 (by omega) (by omega))
  · refine WQ_iconst (-1) (-1) dX3_note_10 rfl rfl (fun v16404 hv16404 => ?_)
    refine WP_goto 21 dX3_note_11 rfl ?_
    exact WP_sub (fc rfl (fc rfl fn)) (jn21_16396 v16404 (by omega) (by omega))
set_option maxHeartbeats 4000000 in
set_option maxRecDepth 100000 in
theorem sx_wordOf {g : GG} {n : Int} {L : Int32} (hy : LyX g) {aK aV : Nat → Nat} {fo : Option Nat} (hz : HZ g aK aV fo)  {I : pI} {J : pJ} {R : pR} (hr : RfX g R) (hI : XI g n L I) (cz : Int32) (cz_lo : 0 ≤ cz.toInt) (cz_hi : cz.toInt ≤ 9) : SP g mX3_wordOf [.int cz] I J R (fun r I' J' R' => (I' = I ∧ J' = J ∧ R' = R) ∧ r = some (.ref (aK (cz.toInt.toNat)))) := by
  refine SP_of ⟨by decide, rfl⟩ (Nat.le_of_ble_eq_true rfl) ?_
  have e16405 : I (ad g 1) 1 = L := hI.2
  have b16406 := BT_get hI.1 1 1 2 (0) (0) (900) (by decide) 1 (by decide) (by decide)
  rw [e16405] at b16406
  refine WP_iload_n dX3_wordOf_0 rfl ?_
  refine WP_tab 79 dX3_wordOf_1 rfl rfl (fun c16406 => ?_) (fun j off c16406 hj => ?_) (by decide)
  · refine WS_ldc hz 9 rfl dX3_wordOf_79 ?_
    exact WP_aret dX3_wordOf_81 rfl ⟨⟨rfl, rfl, rfl⟩, by rw [show cz.toInt.toNat = 9 by omega]⟩
  · have hlt : j < 9 := by have := (Array.getElem?_eq_some_iff.mp hj).1; simpa using this
    have hcs : (j = 0 ∧ off = 51) ∨ (j = 1 ∧ off = 54) ∨ (j = 2 ∧ off = 57) ∨ (j = 3 ∧ off = 60) ∨ (j = 4 ∧ off = 63) ∨ (j = 5 ∧ off = 66) ∨ (j = 6 ∧ off = 69) ∨ (j = 7 ∧ off = 72) ∨ (j = 8 ∧ off = 75) := by
      match j, hlt, hj with
      | 0, _, hj => exact Or.inl ⟨rfl, (Option.some.inj hj).symm⟩
      | 1, _, hj => exact Or.inr (Or.inl ⟨rfl, (Option.some.inj hj).symm⟩)
      | 2, _, hj => exact Or.inr (Or.inr (Or.inl ⟨rfl, (Option.some.inj hj).symm⟩))
      | 3, _, hj => exact Or.inr (Or.inr (Or.inr (Or.inl ⟨rfl, (Option.some.inj hj).symm⟩)))
      | 4, _, hj => exact Or.inr (Or.inr (Or.inr (Or.inr (Or.inl ⟨rfl, (Option.some.inj hj).symm⟩))))
      | 5, _, hj => exact Or.inr (Or.inr (Or.inr (Or.inr (Or.inr (Or.inl ⟨rfl, (Option.some.inj hj).symm⟩)))))
      | 6, _, hj => exact Or.inr (Or.inr (Or.inr (Or.inr (Or.inr (Or.inr (Or.inl ⟨rfl, (Option.some.inj hj).symm⟩))))))
      | 7, _, hj => exact Or.inr (Or.inr (Or.inr (Or.inr (Or.inr (Or.inr (Or.inr (Or.inl ⟨rfl, (Option.some.inj hj).symm⟩)))))))
      | 8, _, hj => exact Or.inr (Or.inr (Or.inr (Or.inr (Or.inr (Or.inr (Or.inr (Or.inr (⟨rfl, (Option.some.inj hj).symm⟩))))))))
    clear hj hlt
    rcases hcs with ⟨rfl, rfl⟩ | ⟨rfl, rfl⟩ | ⟨rfl, rfl⟩ | ⟨rfl, rfl⟩ | ⟨rfl, rfl⟩ | ⟨rfl, rfl⟩ | ⟨rfl, rfl⟩ | ⟨rfl, rfl⟩ | ⟨rfl, rfl⟩
    · show WP _ _ 52 _ _ _ _ _ _
      refine WS_ldc hz 0 rfl dX3_wordOf_52 ?_
      exact WP_aret dX3_wordOf_54 rfl ⟨⟨rfl, rfl, rfl⟩, by rw [show cz.toInt.toNat = 0 by omega]⟩
    · show WP _ _ 55 _ _ _ _ _ _
      refine WS_ldc hz 1 rfl dX3_wordOf_55 ?_
      exact WP_aret dX3_wordOf_57 rfl ⟨⟨rfl, rfl, rfl⟩, by rw [show cz.toInt.toNat = 1 by omega]⟩
    · show WP _ _ 58 _ _ _ _ _ _
      refine WS_ldc hz 2 rfl dX3_wordOf_58 ?_
      exact WP_aret dX3_wordOf_60 rfl ⟨⟨rfl, rfl, rfl⟩, by rw [show cz.toInt.toNat = 2 by omega]⟩
    · show WP _ _ 61 _ _ _ _ _ _
      refine WS_ldc hz 3 rfl dX3_wordOf_61 ?_
      exact WP_aret dX3_wordOf_63 rfl ⟨⟨rfl, rfl, rfl⟩, by rw [show cz.toInt.toNat = 3 by omega]⟩
    · show WP _ _ 64 _ _ _ _ _ _
      refine WS_ldc hz 4 rfl dX3_wordOf_64 ?_
      exact WP_aret dX3_wordOf_66 rfl ⟨⟨rfl, rfl, rfl⟩, by rw [show cz.toInt.toNat = 4 by omega]⟩
    · show WP _ _ 67 _ _ _ _ _ _
      refine WS_ldc hz 5 rfl dX3_wordOf_67 ?_
      exact WP_aret dX3_wordOf_69 rfl ⟨⟨rfl, rfl, rfl⟩, by rw [show cz.toInt.toNat = 5 by omega]⟩
    · show WP _ _ 70 _ _ _ _ _ _
      refine WS_ldc hz 6 rfl dX3_wordOf_70 ?_
      exact WP_aret dX3_wordOf_72 rfl ⟨⟨rfl, rfl, rfl⟩, by rw [show cz.toInt.toNat = 6 by omega]⟩
    · show WP _ _ 73 _ _ _ _ _ _
      refine WS_ldc hz 7 rfl dX3_wordOf_73 ?_
      exact WP_aret dX3_wordOf_75 rfl ⟨⟨rfl, rfl, rfl⟩, by rw [show cz.toInt.toNat = 7 by omega]⟩
    · show WP _ _ 76 _ _ _ _ _ _
      refine WS_ldc hz 8 rfl dX3_wordOf_76 ?_
      exact WP_aret dX3_wordOf_78 rfl ⟨⟨rfl, rfl, rfl⟩, by rw [show cz.toInt.toNat = 8 by omega]⟩
set_option maxHeartbeats 4000000 in
set_option maxRecDepth 100000 in
theorem sx_shapeOf {g : GG} {n : Int} {L : Int32} (hy : LyX g) {aK aV : Nat → Nat} {fo : Option Nat} (hz : HZ g aK aV fo)  {I : pI} {J : pJ} {R : pR} (hr : RfX g R) (hI : XI g n L I) (cz : Int32) (cz_lo : 0 ≤ cz.toInt) (cz_hi : cz.toInt ≤ 11) : SP g mX3_shapeOf [.int cz] I J R (fun r I' J' R' => (I' = I ∧ J' = J ∧ R' = R) ∧ r = some (.ref (aK (10 + cz.toInt.toNat)))) := by
  refine SP_of ⟨by decide, rfl⟩ (Nat.le_of_ble_eq_true rfl) ?_
  have e16408 : I (ad g 1) 1 = L := hI.2
  have b16409 := BT_get hI.1 1 1 2 (0) (0) (900) (by decide) 1 (by decide) (by decide)
  rw [e16408] at b16409
  refine WP_iload_n dX3_shapeOf_0 rfl ?_
  refine WP_tab 93 dX3_shapeOf_1 rfl rfl (fun c16409 => ?_) (fun j off c16409 hj => ?_) (by decide)
  · refine WS_ldc hz 21 rfl dX3_shapeOf_93 ?_
    exact WP_aret dX3_shapeOf_95 rfl ⟨⟨rfl, rfl, rfl⟩, by rw [show 10 + cz.toInt.toNat = 21 by omega]⟩
  · have hlt : j < 11 := by have := (Array.getElem?_eq_some_iff.mp hj).1; simpa using this
    have hcs : (j = 0 ∧ off = 59) ∨ (j = 1 ∧ off = 62) ∨ (j = 2 ∧ off = 65) ∨ (j = 3 ∧ off = 68) ∨ (j = 4 ∧ off = 71) ∨ (j = 5 ∧ off = 74) ∨ (j = 6 ∧ off = 77) ∨ (j = 7 ∧ off = 80) ∨ (j = 8 ∧ off = 83) ∨ (j = 9 ∧ off = 86) ∨ (j = 10 ∧ off = 89) := by
      match j, hlt, hj with
      | 0, _, hj => exact Or.inl ⟨rfl, (Option.some.inj hj).symm⟩
      | 1, _, hj => exact Or.inr (Or.inl ⟨rfl, (Option.some.inj hj).symm⟩)
      | 2, _, hj => exact Or.inr (Or.inr (Or.inl ⟨rfl, (Option.some.inj hj).symm⟩))
      | 3, _, hj => exact Or.inr (Or.inr (Or.inr (Or.inl ⟨rfl, (Option.some.inj hj).symm⟩)))
      | 4, _, hj => exact Or.inr (Or.inr (Or.inr (Or.inr (Or.inl ⟨rfl, (Option.some.inj hj).symm⟩))))
      | 5, _, hj => exact Or.inr (Or.inr (Or.inr (Or.inr (Or.inr (Or.inl ⟨rfl, (Option.some.inj hj).symm⟩)))))
      | 6, _, hj => exact Or.inr (Or.inr (Or.inr (Or.inr (Or.inr (Or.inr (Or.inl ⟨rfl, (Option.some.inj hj).symm⟩))))))
      | 7, _, hj => exact Or.inr (Or.inr (Or.inr (Or.inr (Or.inr (Or.inr (Or.inr (Or.inl ⟨rfl, (Option.some.inj hj).symm⟩)))))))
      | 8, _, hj => exact Or.inr (Or.inr (Or.inr (Or.inr (Or.inr (Or.inr (Or.inr (Or.inr (Or.inl ⟨rfl, (Option.some.inj hj).symm⟩))))))))
      | 9, _, hj => exact Or.inr (Or.inr (Or.inr (Or.inr (Or.inr (Or.inr (Or.inr (Or.inr (Or.inr (Or.inl ⟨rfl, (Option.some.inj hj).symm⟩)))))))))
      | 10, _, hj => exact Or.inr (Or.inr (Or.inr (Or.inr (Or.inr (Or.inr (Or.inr (Or.inr (Or.inr (Or.inr (⟨rfl, (Option.some.inj hj).symm⟩))))))))))
    clear hj hlt
    rcases hcs with ⟨rfl, rfl⟩ | ⟨rfl, rfl⟩ | ⟨rfl, rfl⟩ | ⟨rfl, rfl⟩ | ⟨rfl, rfl⟩ | ⟨rfl, rfl⟩ | ⟨rfl, rfl⟩ | ⟨rfl, rfl⟩ | ⟨rfl, rfl⟩ | ⟨rfl, rfl⟩ | ⟨rfl, rfl⟩
    · show WP _ _ 60 _ _ _ _ _ _
      refine WS_ldc hz 10 rfl dX3_shapeOf_60 ?_
      exact WP_aret dX3_shapeOf_62 rfl ⟨⟨rfl, rfl, rfl⟩, by rw [show 10 + cz.toInt.toNat = 10 by omega]⟩
    · show WP _ _ 63 _ _ _ _ _ _
      refine WS_ldc hz 11 rfl dX3_shapeOf_63 ?_
      exact WP_aret dX3_shapeOf_65 rfl ⟨⟨rfl, rfl, rfl⟩, by rw [show 10 + cz.toInt.toNat = 11 by omega]⟩
    · show WP _ _ 66 _ _ _ _ _ _
      refine WS_ldc hz 12 rfl dX3_shapeOf_66 ?_
      exact WP_aret dX3_shapeOf_68 rfl ⟨⟨rfl, rfl, rfl⟩, by rw [show 10 + cz.toInt.toNat = 12 by omega]⟩
    · show WP _ _ 69 _ _ _ _ _ _
      refine WS_ldc hz 13 rfl dX3_shapeOf_69 ?_
      exact WP_aret dX3_shapeOf_71 rfl ⟨⟨rfl, rfl, rfl⟩, by rw [show 10 + cz.toInt.toNat = 13 by omega]⟩
    · show WP _ _ 72 _ _ _ _ _ _
      refine WS_ldc hz 14 rfl dX3_shapeOf_72 ?_
      exact WP_aret dX3_shapeOf_74 rfl ⟨⟨rfl, rfl, rfl⟩, by rw [show 10 + cz.toInt.toNat = 14 by omega]⟩
    · show WP _ _ 75 _ _ _ _ _ _
      refine WS_ldc hz 15 rfl dX3_shapeOf_75 ?_
      exact WP_aret dX3_shapeOf_77 rfl ⟨⟨rfl, rfl, rfl⟩, by rw [show 10 + cz.toInt.toNat = 15 by omega]⟩
    · show WP _ _ 78 _ _ _ _ _ _
      refine WS_ldc hz 16 rfl dX3_shapeOf_78 ?_
      exact WP_aret dX3_shapeOf_80 rfl ⟨⟨rfl, rfl, rfl⟩, by rw [show 10 + cz.toInt.toNat = 16 by omega]⟩
    · show WP _ _ 81 _ _ _ _ _ _
      refine WS_ldc hz 17 rfl dX3_shapeOf_81 ?_
      exact WP_aret dX3_shapeOf_83 rfl ⟨⟨rfl, rfl, rfl⟩, by rw [show 10 + cz.toInt.toNat = 17 by omega]⟩
    · show WP _ _ 84 _ _ _ _ _ _
      refine WS_ldc hz 18 rfl dX3_shapeOf_84 ?_
      exact WP_aret dX3_shapeOf_86 rfl ⟨⟨rfl, rfl, rfl⟩, by rw [show 10 + cz.toInt.toNat = 18 by omega]⟩
    · show WP _ _ 87 _ _ _ _ _ _
      refine WS_ldc hz 19 rfl dX3_shapeOf_87 ?_
      exact WP_aret dX3_shapeOf_89 rfl ⟨⟨rfl, rfl, rfl⟩, by rw [show 10 + cz.toInt.toNat = 19 by omega]⟩
    · show WP _ _ 90 _ _ _ _ _ _
      refine WS_ldc hz 20 rfl dX3_shapeOf_90 ?_
      exact WP_aret dX3_shapeOf_92 rfl ⟨⟨rfl, rfl, rfl⟩, by rw [show 10 + cz.toInt.toNat = 20 by omega]⟩
set_option maxHeartbeats 4000000 in
set_option maxRecDepth 100000 in
theorem sx_lettersOf {g : GG} {n : Int} {L : Int32} (hy : LyX g) {aK aV : Nat → Nat} {fo : Option Nat} (hz : HZ g aK aV fo)  {I : pI} {J : pJ} {R : pR} (hr : RfX g R) (hI : XI g n L I) (ii : Nat) (ii_lt : ii < 32) : SP g mX3_lettersOf [.ref (aK (ii))] I J R (fun r I' J' R' => (I' = I ∧ J' = J ∧ R' = R) ∧ ∃ v : Int64, r = some (.long v)) := by
  refine SP_of ⟨by decide, rfl⟩ (Nat.le_of_ble_eq_true rfl) ?_
  have e16411 : I (ad g 1) 1 = L := hI.2
  have b16412 := BT_get hI.1 1 1 2 (0) (0) (900) (by decide) 1 (by decide) (by decide)
  rw [e16411] at b16412
  refine WP_lconst (0) dX3_lettersOf_0 rfl ?_
  obtain ⟨l16413, hl16413, el16413⟩ : ∃ v : Int64, v.toInt = 0 ∧ (0 : Int64) = v := ⟨_, rfl, rfl⟩
  rw [el16413]; clear el16413
  refine WP_lstore_n (ls' := [(0, _), (1, _)]) dX3_lettersOf_1 (by decide) rfl ?_
  refine WQ_iconst (0) (0) dX3_lettersOf_2 rfl rfl (fun v16414 hv16414 => ?_)
  refine WP_istore_n (ls' := [(0, _), (1, _), (3, _)]) dX3_lettersOf_3 (by decide) rfl ?_
  have lp4_16416 : ∀ (mz : Nat) (l16415 : Int64) (i16416 : Int32), 0 ≤ i16416.toInt → i16416.toInt ≤ 5 → (6 - i16416.toInt).toNat < mz → WP g mX3_lettersOf 4 [(0, .ref (aK (ii))), (1, .long l16415), (3, .int i16416)] [] I J R (fun r I' J' R' => (I' = I ∧ J' = J ∧ R' = R) ∧ ∃ v : Int64, r = some (.long v)) := by
    intro mz
    induction mz with
    | zero =>
      intro l16415 i16416 ai16416 bi16416 hmlp4_16416
      exact absurd hmlp4_16416 (Nat.not_lt_zero _)
    | succ mz ihlp4_16416 =>
      intro l16415 i16416 ai16416 bi16416 hmlp4_16416
      refine WP_iload_n dX3_lettersOf_4 rfl ?_
      refine WP_aload_n dX3_lettersOf_5 rfl ?_
      refine WS_call hz (i := ii) (by omega) dX3_lettersOf_6 ⟨⟨by decide, by decide⟩, zJ0_length_8abf5⟩ lX3_87 vJ0_length_8abf5 (As := []) (rest := [.int i16416]) (j_length hz (i := ii) (by omega)) rfl rfl (Nat.le_of_ble_eq_true rfl) ?_
      intro r Ia Ja Ra hq
      obtain ⟨⟨ea, eb, ec⟩, v16418, rfl, cv16418⟩ := hq
      show WP _ _ _ _ (.int _ :: _) _ _ _ _
      rw [ea, eb, ec]
      clear ea eb ec Ia Ja Ra
      have lv16418 := (li_len (ii) (by omega)).2.2
      refine WQ_icmp_ge 30 dX3_lettersOf_9 rfl (fun c16418 => ?_) (fun c16418 => ?_)
      · refine WP_lload_n dX3_lettersOf_30 rfl ?_
        exact WP_lret dX3_lettersOf_31 rfl ⟨⟨rfl, rfl, rfl⟩, _, rfl⟩
      · refine WP_lload_n dX3_lettersOf_12 rfl ?_
        refine WQ_bipush (8) (8) dX3_lettersOf_13 rfl rfl (fun v16420 hv16420 => ?_)
        refine WQ_lshl dX3_lettersOf_15 (fun l16421 => ?_)
        refine WP_aload_n dX3_lettersOf_16 rfl ?_
        refine WP_iload_n dX3_lettersOf_17 rfl ?_
        refine WS_call hz (i := ii) (by omega) dX3_lettersOf_18 ⟨⟨by decide, by decide⟩, zJ0_charAt_5068e⟩ lX3_92 vJ0_charAt_5068e (As := [.int i16416]) (rest := [.long l16421]) (j_charAt hz (i := ii) (k := i16416) (by omega) (by omega) (by omega)) rfl rfl (Nat.le_of_ble_eq_true rfl) ?_
        intro r Ia Ja Ra hq
        obtain ⟨⟨ea, eb, ec⟩, v16422, rfl, cv16422⟩ := hq
        show WP _ _ _ _ (.int _ :: _) _ _ _ _
        rw [ea, eb, ec]
        clear ea eb ec Ia Ja Ra
        refine WQ_i2l dX3_lettersOf_21 (fun l16423 hl16423 => ?_)
        refine WQ_lor dX3_lettersOf_22 (fun l16424 => ?_)
        refine WP_lstore_n (ls' := [(0, _), (1, _), (3, _)]) dX3_lettersOf_23 (by decide) rfl ?_
        refine WP_iinc (ls' := [(0, _), (1, _), (3, _)]) dX3_lettersOf_24 rfl (by decide) rfl ?_
        have hv16425 : (i16416 + Int32.ofInt (1)).toInt = i16416.toInt + (1) := ia_n rfl (by omega) (by omega)
        generalize i16416 + Int32.ofInt (1) = v16425 at hv16425 ⊢
        refine WP_goto 4 dX3_lettersOf_27 rfl ?_
        exact WP_sub (fc rfl (fc rfl (fc rfl fn))) (ihlp4_16416 l16424 v16425 (by omega) (by omega) (by omega))
  exact WP_sub (fc rfl (fc rfl (fc rfl fn))) (lp4_16416 _ l16413 v16414 (by omega) (by omega) (Nat.lt_succ_self _))
set_option maxHeartbeats 4000000 in
set_option maxRecDepth 100000 in
theorem sx_clauseAtHand {g : GG} {n : Int} {L : Int32} (hy : LyX g) {aK aV : Nat → Nat} {fo : Option Nat} (hz : HZ g aK aV fo)  {I : pI} {J : pJ} {R : pR} (hr : RfX g R) (hI : XI g n L I)   : SP g mX3_clauseAtHand [.ref (ad g 3)] I J R (fun r I' J' R' => (I' = I ∧ J' = J ∧ R' = R) ∧ ∃ v : Int32, r = some (.int v) ∧ -1 ≤ v.toInt ∧ v.toInt ≤ 9) := by
  refine SP_of ⟨by decide, rfl⟩ (Nat.le_of_ble_eq_true rfl) ?_
  have e16426 : I (ad g 1) 1 = L := hI.2
  have b16427 := BT_get hI.1 1 1 2 (0) (0) (900) (by decide) 1 (by decide) (by decide)
  rw [e16426] at b16427
  refine WQ_iconst (0) (0) dX3_clauseAtHand_0 rfl rfl (fun v16428 hv16428 => ?_)
  refine WP_istore_n (ls' := [(0, _), (1, _)]) dX3_clauseAtHand_1 (by decide) rfl ?_
  have lp2_16429 : ∀ (mz : Nat) (i16429 : Int32), 0 ≤ i16429.toInt → i16429.toInt ≤ 10 → (11 - i16429.toInt).toNat < mz → WP g mX3_clauseAtHand 2 [(0, .ref (ad g 3)), (1, .int i16429)] [] I J R (fun r I' J' R' => (I' = I ∧ J' = J ∧ R' = R) ∧ ∃ v : Int32, r = some (.int v) ∧ -1 ≤ v.toInt ∧ v.toInt ≤ 9) := by
    intro mz
    induction mz with
    | zero =>
      intro i16429 ai16429 bi16429 hmlp2_16429
      exact absurd hmlp2_16429 (Nat.not_lt_zero _)
    | succ mz ihlp2_16429 =>
      intro i16429 ai16429 bi16429 hmlp2_16429
      refine WP_aload_n dX3_clauseAtHand_2 rfl ?_
      refine WP_getr dX3_clauseAtHand_3 fX3_15 rfl (lyx_is hy 3 3 rfl) (rfx hr 3 2 1 (by decide)) ?_
      refine WQ_geti dX3_clauseAtHand_6 fX3_43 rfl (lyx_is hy 1 5 rfl) (BT_get hI.1 1 2 3 (0) (0) (4) (by decide) 2 (by decide) (by decide)) (fun v16431 ev16431 av16431 bv16431 => ?_)
      refine WQ_iconst (1) (1) dX3_clauseAtHand_9 rfl rfl (fun v16432 hv16432 => ?_)
      refine WQ_icmp_ne 45 dX3_clauseAtHand_10 rfl (fun c16432 => ?_) (fun c16432 => ?_)
      · refine WQ_iconst (-1) (-1) dX3_clauseAtHand_45 rfl rfl (fun v16434 hv16434 => ?_)
        exact WP_iret dX3_clauseAtHand_46 rfl ⟨⟨rfl, rfl, rfl⟩, _, rfl, by omega, by omega⟩
      · refine WP_iload_n dX3_clauseAtHand_13 rfl ?_
        refine WQ_bipush (10) (10) dX3_clauseAtHand_14 rfl rfl (fun v16435 hv16435 => ?_)
        refine WQ_icmp_ge 45 dX3_clauseAtHand_16 rfl (fun c16435 => ?_) (fun c16435 => ?_)
        · refine WQ_iconst (-1) (-1) dX3_clauseAtHand_45 rfl rfl (fun v16437 hv16437 => ?_)
          exact WP_iret dX3_clauseAtHand_46 rfl ⟨⟨rfl, rfl, rfl⟩, _, rfl, by omega, by omega⟩
        · refine WP_iload_n dX3_clauseAtHand_19 rfl ?_
          refine WP_callS1 dX3_clauseAtHand_20 ⟨⟨⟨by decide, by decide⟩, zX3_wordOf⟩, lX3_72, tX3_wordOf⟩ (sx_wordOf hy hz hr hI i16429 (by omega) (by omega)) (Nat.le_of_ble_eq_true rfl) ?_
          intro r Ia Ja Ra hq
          obtain ⟨⟨ea, eb, ec⟩, rfl⟩ := hq
          show WP _ _ _ _ (.ref _ :: _) _ _ _ _
          rw [ea, eb, ec]
          clear ea eb ec Ia Ja Ra
          refine WP_callS1 dX3_clauseAtHand_23 ⟨⟨⟨by decide, by decide⟩, zX3_lettersOf⟩, lX3_76, tX3_lettersOf⟩ (sx_lettersOf hy hz hr hI (i16429.toInt.toNat) (by omega)) (Nat.le_of_ble_eq_true rfl) ?_
          intro r Ia Ja Ra hq
          obtain ⟨⟨ea, eb, ec⟩, l16438, rfl⟩ := hq
          show WP _ _ _ _ (.long _ :: _) _ _ _ _
          rw [ea, eb, ec]
          clear ea eb ec Ia Ja Ra
          refine WP_aload_n dX3_clauseAtHand_26 rfl ?_
          refine WP_getr dX3_clauseAtHand_27 fX3_15 rfl (lyx_is hy 3 3 rfl) (rfx hr 3 2 1 (by decide)) ?_
          refine WQ_getl dX3_clauseAtHand_30 fX3_80 rfl (lyx_is hy 1 5 rfl) (fun l16439 el16439 => ?_)
          refine WQ_lcmpu dX3_clauseAtHand_33 (fun v16440 => ?_)
          refine WQ_if_ne 39 dX3_clauseAtHand_34 rfl (fun c16440 => ?_) (fun c16440 => ?_)
          · refine WP_iinc (ls' := [(0, _), (1, _)]) dX3_clauseAtHand_39 rfl (by decide) rfl ?_
            have hv16442 : (i16429 + Int32.ofInt (1)).toInt = i16429.toInt + (1) := ia_n rfl (by omega) (by omega)
            generalize i16429 + Int32.ofInt (1) = v16442 at hv16442 ⊢
            refine WP_goto 2 dX3_clauseAtHand_42 rfl ?_
            exact WP_sub (fc rfl (fc rfl fn)) (ihlp2_16429 v16442 (by omega) (by omega) (by omega))
          · refine WP_iload_n dX3_clauseAtHand_37 rfl ?_
            exact WP_iret dX3_clauseAtHand_38 rfl ⟨⟨rfl, rfl, rfl⟩, _, rfl, by omega, by omega⟩
  exact WP_sub (fc rfl (fc rfl fn)) (lp2_16429 _ v16428 (by omega) (by omega) (Nat.lt_succ_self _))
