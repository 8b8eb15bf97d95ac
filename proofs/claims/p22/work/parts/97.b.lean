set_option maxHeartbeats 4000000 in
set_option maxRecDepth 100000 in
theorem sx_spendx {g : GG} {n : Int} {L : Int32} (hy : LyX g)  {I : pI} {J : pJ} {R : pR} (hr : RfX g R) (hI : XI g n L I) (co : Int64) (st : Int32) (mf : Int32) (st_lo : 0 ≤ st.toInt) (st_hi : st.toInt ≤ 5) (mf_lo : 0 ≤ mf.toInt) (mf_hi : mf.toInt ≤ 3) (hb : ((I (ad g 44) 7).toInt = 0 ∧ mf.toInt = 0 ∨ (I (ad g 44) 7).toInt ≠ 0 ∧ (st.toInt < (I (ad g 44) 1).toInt ∧ mf.toInt = st.toInt ∨ (I (ad g 44) 1).toInt ≤ st.toInt ∧ mf.toInt = (I (ad g 44) 1).toInt))) : SP g mX2_spend [.ref (ad g 43), .long co, .int st, .int mf] I J R (fun r I' J' R' => (I' = I ∧ R' = R ∧ fz 74 g [46] J J' ∧ GRW (J (ad g 46)) (J' (ad g 46)) ∧ (∀ c s f e k l : Int, bt co c → ACT (I (ad g 44)) st.toInt c s f e k l → bt (J' (ad g 46) k.toNat) l)) ∧ r = none) := by
  refine SP_of ⟨by decide, rfl⟩ (Nat.le_of_ble_eq_true rfl) ?_
  have e8242 : I (ad g 1) 1 = L := hI.2
  have b8243 := BT_get hI.1 1 1 2 (0) (0) (900) (by decide) 1 (by decide) (by decide)
  rw [e8242] at b8243
  have frj0 : fz 74 g [46] J J := fz_rf
  obtain ⟨w8244, ew8244⟩ : ∃ w : Int32, I (ad g 44) 7 = w := ⟨_, rfl⟩
  have bw8244 := BT_get hI.1 44 7 8 (0) (0) (1) (by decide) 7 (by decide) (by decide)
  rw [ew8244] at bw8244
  obtain ⟨w8245, ew8245⟩ : ∃ w : Int32, I (ad g 44) 1 = w := ⟨_, rfl⟩
  have bw8245 := BT_get hI.1 44 1 2 (0) (0) (3) (by decide) 1 (by decide) (by decide)
  rw [ew8245] at bw8245
  rw [ew8244, ew8245] at hb
  refine WQ_iconst (0) (0) dX2_spend_0 rfl rfl (fun v8246 hv8246 => ?_)
  refine WP_istore (ls' := [(0, _), (1, _), (3, _), (4, _), (5, _)]) dX2_spend_1 (by decide) rfl ?_
  have lp3_8249 : ∀ (mz : Nat) (i8247 : Int32) (J8248 : pJ), fz 74 g [46] J J8248 → 0 ≤ i8247.toInt → i8247.toInt ≤ 3 → (GRW (J (ad g 46)) (J8248 (ad g 46))) → (SPD (I (ad g 44)) (J8248 (ad g 46)) co st.toInt i8247.toInt 0 0) → (4 - i8247.toInt).toNat < mz → WP g mX2_spend 3 [(0, .ref (ad g 43)), (1, .long co), (3, .int st), (4, .int mf), (5, .int i8247)] [] I J8248 R (fun r I' J' R' => (I' = I ∧ R' = R ∧ fz 74 g [46] J J' ∧ GRW (J (ad g 46)) (J' (ad g 46)) ∧ (∀ c s f e k l : Int, bt co c → ACT (I (ad g 44)) st.toInt c s f e k l → bt (J' (ad g 46) k.toNat) l)) ∧ r = none) := by
    intro mz
    induction mz with
    | zero =>
      intro i8247 J8248 fjJ8248 ai8247 bi8247 PG_I_8248 PD_I_8248 hmlp3_8249
      exact absurd hmlp3_8249 (Nat.not_lt_zero _)
    | succ mz ihlp3_8249 =>
      intro i8247 J8248 fjJ8248 ai8247 bi8247 PG_I_8248 PD_I_8248 hmlp3_8249
      refine WP_iload dX2_spend_3 rfl ?_
      refine WP_aload_n dX2_spend_5 rfl ?_
      refine WP_getr dX2_spend_6 fX2_12 rfl (lyx_is hy 43 2 rfl) (rfx hr 43 3 44 (by decide)) ?_
      refine WQ_geti dX2_spend_9 fX2_92 rfl (lyx_is hy 44 6 rfl) (BT_get hI.1 44 6 7 (0) (0) (2) (by decide) 6 (by decide) (by decide)) (fun v8251 ev8251 av8251 bv8251 => ?_)
      refine WQ_icmp_gt 128 dX2_spend_12 rfl (fun c8251 => ?_) (fun c8251 => ?_)
      · exact WP_vret dX2_spend_128 rfl ⟨⟨rfl, rfl, fjJ8248, ⟨PG_I_8248, SPD_end PD_I_8248 (by rw [ev8251]; omega)⟩⟩, rfl⟩
      · refine WQ_iconst (0) (0) dX2_spend_15 rfl rfl (fun v8253 hv8253 => ?_)
        refine WP_istore (ls' := [(0, _), (1, _), (3, _), (4, _), (5, _), (6, _)]) dX2_spend_16 (by decide) rfl ?_
        have lp18_8256 : ∀ (mz : Nat) (i8254 : Int32) (J8255 : pJ), fz 74 g [46] J J8255 → 0 ≤ i8254.toInt → i8254.toInt ≤ 4 → (GRW (J (ad g 46)) (J8255 (ad g 46))) → (SPD (I (ad g 44)) (J8255 (ad g 46)) co st.toInt i8247.toInt i8254.toInt 0) → (5 - i8254.toInt).toNat < mz → WP g mX2_spend 18 [(0, .ref (ad g 43)), (1, .long co), (3, .int st), (4, .int mf), (5, .int i8247), (6, .int i8254)] [] I J8255 R (fun r I' J' R' => (I' = I ∧ R' = R ∧ fz 74 g [46] J J' ∧ GRW (J (ad g 46)) (J' (ad g 46)) ∧ (∀ c s f e k l : Int, bt co c → ACT (I (ad g 44)) st.toInt c s f e k l → bt (J' (ad g 46) k.toNat) l)) ∧ r = none) := by
          intro mz
          induction mz with
          | zero =>
            intro i8254 J8255 fjJ8255 ai8254 bi8254 PG_I_8255 PD_I_8255 hmlp18_8256
            exact absurd hmlp18_8256 (Nat.not_lt_zero _)
          | succ mz ihlp18_8256 =>
            intro i8254 J8255 fjJ8255 ai8254 bi8254 PG_I_8255 PD_I_8255 hmlp18_8256
            refine WP_iload dX2_spend_18 rfl ?_
            refine WP_iload dX2_spend_20 rfl ?_
            refine WQ_icmp_gt 122 dX2_spend_22 rfl (fun c8257 => ?_) (fun c8257 => ?_)
            · refine WP_iinc (ls' := [(0, _), (1, _), (3, _), (4, _), (5, _), (6, _)]) dX2_spend_122 rfl (by decide) rfl ?_
              have hv8259 : (i8247 + Int32.ofInt (1)).toInt = i8247.toInt + (1) := ia_n rfl (by omega) (by omega)
              generalize i8247 + Int32.ofInt (1) = v8259 at hv8259 ⊢
              refine WP_goto 3 dX2_spend_125 rfl ?_
              exact WP_sub (fc rfl (fc rfl (fc rfl (fc rfl (fc rfl fn))))) (ihlp3_8249 v8259 J8255 fjJ8255 (by omega) (by omega) PG_I_8255 (SPD_out PD_I_8255 hv8259 (mf := mf.toInt) (by omega) (by rw [ew8244, ew8245]; omega)) (by omega))
            · refine WP_iload_n dX2_spend_25 rfl ?_
              refine WP_iload dX2_spend_26 rfl ?_
              refine WQ_isub dX2_spend_28 (by omega) (by omega) (fun v8260 hv8260 => ?_)
              refine WP_iload dX2_spend_29 rfl ?_
              refine WQ_iadd dX2_spend_31 (by omega) (by omega) (fun v8261 hv8261 => ?_)
              refine WP_istore (ls' := [(0, _), (1, _), (3, _), (4, _), (5, _), (6, _), (7, _)]) dX2_spend_32 (by decide) rfl ?_
              refine WP_aload_n dX2_spend_34 rfl ?_
              refine WP_getr dX2_spend_35 fX2_12 rfl (lyx_is hy 43 2 rfl) (rfx hr 43 3 44 (by decide)) ?_
              refine WQ_geti dX2_spend_38 fX2_95 rfl (lyx_is hy 44 6 rfl) (BT_get hI.1 44 5 6 (0) (0) (3) (by decide) 5 (by decide) (by decide)) (fun v8262 ev8262 av8262 bv8262 => ?_)
              refine WP_aload_n dX2_spend_41 rfl ?_
              refine WP_getr dX2_spend_42 fX2_12 rfl (lyx_is hy 43 2 rfl) (rfx hr 43 3 44 (by decide)) ?_
              refine WQ_getim dX2_spend_45 fX2_98 rfl (lyx_is hy 44 6 rfl) ew8245 ?_
              refine WP_iload dX2_spend_48 rfl ?_
              refine WQ_isub dX2_spend_50 (by omega) (by omega) (fun v8263 hv8263 => ?_)
              refine WQ_min dX2_spend_51 lX2_101 ⟨by decide, Nat.le_of_ble_eq_true rfl⟩ (fun v8264 av8264 bv8264 cv8264 => ?_)
              refine WP_istore (ls' := [(0, _), (1, _), (3, _), (4, _), (5, _), (6, _), (7, _), (8, _)]) dX2_spend_54 (by decide) rfl ?_
              refine WP_lload_n dX2_spend_56 rfl ?_
              refine WP_iload dX2_spend_57 rfl ?_
              refine WP_aload_n dX2_spend_59 rfl ?_
              refine WP_getr dX2_spend_60 fX2_12 rfl (lyx_is hy 43 2 rfl) (rfx hr 43 3 44 (by decide)) ?_
              refine WQ_geti dX2_spend_63 fX2_107 rfl (lyx_is hy 44 6 rfl) (BT_get hI.1 44 4 5 (0) (0) (20) (by decide) 4 (by decide) (by decide)) (fun v8265 ev8265 av8265 bv8265 => ?_)
              refine WQ_imulb (2) (20) dX2_spend_66 ⟨by omega, by omega⟩ ⟨by omega, by omega⟩ (by decide) (fun v8266 pv8266 av8266 bv8266 cv8266 => ?_)
              refine WQ_lushrx dX2_spend_67 (by omega) (by omega) (fun l8267 ql8267 => ?_)
              refine WP_lstore (ls' := [(0, _), (1, _), (3, _), (4, _), (5, _), (6, _), (7, _), (8, _), (9, _)]) dX2_spend_68 (by decide) rfl ?_
              refine WQ_iconst (0) (0) dX2_spend_70 rfl rfl (fun v8268 hv8268 => ?_)
              refine WP_istore (ls' := [(0, _), (1, _), (3, _), (4, _), (5, _), (6, _), (7, _), (8, _), (9, _), (11, _)]) dX2_spend_71 (by decide) rfl ?_
              have lp73_8272 : ∀ (mz : Nat) (l8269 : Int64) (i8270 : Int32) (J8271 : pJ), fz 74 g [46] J J8271 → 0 ≤ i8270.toInt → i8270.toInt ≤ 4 → (GRW (J (ad g 46)) (J8271 (ad g 46))) → (SPD (I (ad g 44)) (J8271 (ad g 46)) co st.toInt i8247.toInt i8254.toInt i8270.toInt) → (SLF (I (ad g 44)) co l8269 i8247.toInt i8270.toInt) → (5 - i8270.toInt).toNat < mz → WP g mX2_spend 73 [(0, .ref (ad g 43)), (1, .long co), (3, .int st), (4, .int mf), (5, .int i8247), (6, .int i8254), (7, .int v8261), (8, .int v8264), (9, .long l8269), (11, .int i8270)] [] I J8271 R (fun r I' J' R' => (I' = I ∧ R' = R ∧ fz 74 g [46] J J' ∧ GRW (J (ad g 46)) (J' (ad g 46)) ∧ (∀ c s f e k l : Int, bt co c → ACT (I (ad g 44)) st.toInt c s f e k l → bt (J' (ad g 46) k.toNat) l)) ∧ r = none) := by
                intro mz
                induction mz with
                | zero =>
                  intro l8269 i8270 J8271 fjJ8271 ai8270 bi8270 PG_I_8271 PD_I_8271 PB_I_8271 hmlp73_8272
                  exact absurd hmlp73_8272 (Nat.not_lt_zero _)
                | succ mz ihlp73_8272 =>
                  intro l8269 i8270 J8271 fjJ8271 ai8270 bi8270 PG_I_8271 PD_I_8271 PB_I_8271 hmlp73_8272
                  refine WP_iload dX2_spend_73 rfl ?_
                  refine WQ_iconst (5) (5) dX2_spend_75 rfl rfl (fun v8274 hv8274 => ?_)
                  refine WQ_icmp_gt 116 dX2_spend_76 rfl (fun c8274 => ?_) (fun c8274 => ?_)
                  · refine WP_iinc (ls' := [(0, _), (1, _), (3, _), (4, _), (5, _), (6, _), (7, _), (8, _), (9, _), (11, _)]) dX2_spend_116 rfl (by decide) rfl ?_
                    have hv8276 : (i8254 + Int32.ofInt (1)).toInt = i8254.toInt + (1) := ia_n rfl (by omega) (by omega)
                    generalize i8254 + Int32.ofInt (1) = v8276 at hv8276 ⊢
                    refine WP_goto 18 dX2_spend_119 rfl ?_
                    exact WP_sub (fc rfl (fc rfl (fc rfl (fc rfl (fc rfl (fc rfl fn)))))) (ihlp18_8256 v8276 J8271 fjJ8271 (by omega) (by omega) PG_I_8271 (SPD_mid PD_I_8271 hv8276 (by rw [ev8262, ew8245]; omega)) (by omega))
                  · refine WP_iload dX2_spend_79 rfl ?_
                    refine WP_iload dX2_spend_81 rfl ?_
                    refine WQ_icmp_gt 116 dX2_spend_83 rfl (fun c8276 => ?_) (fun c8276 => ?_)
                    · refine WP_iinc (ls' := [(0, _), (1, _), (3, _), (4, _), (5, _), (6, _), (7, _), (8, _), (9, _), (11, _)]) dX2_spend_116 rfl (by decide) rfl ?_
                      have hv8278 : (i8254 + Int32.ofInt (1)).toInt = i8254.toInt + (1) := ia_n rfl (by omega) (by omega)
                      generalize i8254 + Int32.ofInt (1) = v8278 at hv8278 ⊢
                      refine WP_goto 18 dX2_spend_119 rfl ?_
                      exact WP_sub (fc rfl (fc rfl (fc rfl (fc rfl (fc rfl (fc rfl fn)))))) (ihlp18_8256 v8278 J8271 fjJ8271 (by omega) (by omega) PG_I_8271 (SPD_mid PD_I_8271 hv8278 (by rw [ev8262, ew8245]; omega)) (by omega))
                    · refine WP_aload_n dX2_spend_86 rfl ?_
                      refine WP_getr dX2_spend_87 fX2_22 rfl (lyx_is hy 43 2 rfl) (rfx hr 43 5 46 (by decide)) ?_
                      refine WP_iload dX2_spend_90 rfl ?_
                      refine WP_dup2 dX2_spend_92 rfl rfl ?_
                      refine WQ_laldx dX2_spend_93 (lyx_is hy 46 14 rfl) (lyx_n hy 46 6 rfl) (by omega) (by omega) (fun l8279 el8279 => ?_)
                      refine WP_lload dX2_spend_94 rfl ?_
                      refine WQ_lorx dX2_spend_96 (fun l8280 ql8280 => ?_)
                      refine WQ_last dX2_spend_97 (lyx_is hy 46 14 rfl) (lyx_n hy 46 6 rfl) (by omega) (by omega) (fun J8281 eJ8281 => ?_)
                      have fr8282 : fz 74 g [46] J J8281 := by rw [eJ8281]; exact fzx_pp hy fjJ8271 (by decide) (by decide)
                      have xJ8281 := eJ8281
                      rw [cl (x := v8261) (n := v8261.toInt.toNat) (by omega)] at xJ8281
                      have yJ8281 : ∀ b, bt l8280 b ↔ bt (J8271 (ad g 46) v8261.toInt.toNat) b ∨ bt l8269 b := by rw [el8279]; exact ql8280
                      have GJ8281 := GRW_pp PG_I_8271 xJ8281 yJ8281
                      have DJ8281 := SPD_step PD_I_8271 PB_I_8271 (by omega) xJ8281 yJ8281
                      clear eJ8281
                      refine WP_lload dX2_spend_98 rfl ?_
                      refine WP_aload_n dX2_spend_100 rfl ?_
                      refine WP_getr dX2_spend_101 fX2_12 rfl (lyx_is hy 43 2 rfl) (rfx hr 43 3 44 (by decide)) ?_
                      refine WQ_geti dX2_spend_104 fX2_110 rfl (lyx_is hy 44 6 rfl) (BT_get hI.1 44 3 4 (0) (0) (20) (by decide) 3 (by decide) (by decide)) (fun v8283 ev8283 av8283 bv8283 => ?_)
                      refine WQ_lushrx dX2_spend_107 (by omega) (by omega) (fun l8284 ql8284 => ?_)
                      refine WP_lstore (ls' := [(0, _), (1, _), (3, _), (4, _), (5, _), (6, _), (7, _), (8, _), (9, _), (11, _)]) dX2_spend_108 (by decide) rfl ?_
                      refine WP_iinc (ls' := [(0, _), (1, _), (3, _), (4, _), (5, _), (6, _), (7, _), (8, _), (9, _), (11, _)]) dX2_spend_110 rfl (by decide) rfl ?_
                      have hv8285 : (i8270 + Int32.ofInt (1)).toInt = i8270.toInt + (1) := ia_n rfl (by omega) (by omega)
                      generalize i8270 + Int32.ofInt (1) = v8285 at hv8285 ⊢
                      refine WP_goto 73 dX2_spend_113 rfl ?_
                      exact WP_sub (fc rfl (fc rfl (fc rfl (fc rfl (fc rfl (fc rfl (fc rfl (fc rfl (fc rfl (fc rfl fn)))))))))) (ihlp73_8272 l8284 v8285 J8281 fr8282 (by omega) (by omega) GJ8281 (by rw [hv8285]; exact DJ8281) (SLF_step PB_I_8271 (by rw [ev8283]; omega) ql8284 (by rw [ev8283]) hv8285) (by omega))
              exact WP_sub (fc rfl (fc rfl (fc rfl (fc rfl (fc rfl (fc rfl (fc rfl (fc rfl (fc rfl (fc rfl fn)))))))))) (lp73_8272 _ l8267 v8268 J8255 fjJ8255 (by omega) (by omega) PG_I_8255 (by rw [hv8268]; exact PD_I_8255) (SLF_0 ql8267 (by rw [ev8265]; exact pv8266) hv8268) (Nat.lt_succ_self _))
        exact WP_sub (fc rfl (fc rfl (fc rfl (fc rfl (fc rfl (fc rfl fn)))))) (lp18_8256 _ v8253 J8248 fjJ8248 (by omega) (by omega) PG_I_8248 (by rw [hv8253]; exact PD_I_8248) (Nat.lt_succ_self _))
  exact WP_sub (fc rfl (fc rfl (fc rfl (fc rfl (fc rfl fn))))) (lp3_8249 _ v8246 J frj0 (by omega) (by omega) (fun _ _ h => h) (SPD_0 hv8246) (Nat.lt_succ_self _))
set_option maxHeartbeats 4000000 in
set_option maxRecDepth 100000 in
theorem sx_spreadx {g : GG} {n : Int} {L : Int32} (hy : LyX g)  {I : pI} {J : pJ} {R : pR} (hr : RfX g R) (hI : XI g n L I) (ea : Int32) (ah : Int32) (ea_lo : 0 ≤ ea.toInt) (ea_hi : ea.toInt ≤ 20) (ah_lo : 0 ≤ ah.toInt) (ah_hi : ah.toInt ≤ 27) : SP g mX2_spread [.ref (ad g 43), .int ea, .int ah] I J R (fun r I' J' R' => (I' = I ∧ R' = R ∧ fz 74 g [46] J J' ∧ SRD (I (ad g 44)) (J (ad g 45)) (J' (ad g 46)) ah.toInt ea.toInt 6) ∧ r = none) := by
  refine SP_of ⟨by decide, rfl⟩ (Nat.le_of_ble_eq_true rfl) ?_
  have e8286 : I (ad g 1) 1 = L := hI.2
  have b8287 := BT_get hI.1 1 1 2 (0) (0) (900) (by decide) 1 (by decide) (by decide)
  rw [e8286] at b8287
  have frj0 : fz 74 g [46] J J := fz_rf
  refine WP_aload_n dX2_spread_0 rfl ?_
  refine WP_getr dX2_spread_1 fX2_22 rfl (lyx_is hy 43 2 rfl) (rfx hr 43 5 46 (by decide)) ?_
  refine WP_lconst (0) dX2_spread_4 rfl ?_
  obtain ⟨l8288, hl8288, el8288⟩ : ∃ v : Int64, v.toInt = 0 ∧ (0 : Int64) = v := ⟨_, rfl, rfl⟩
  rw [el8288]; clear el8288
  refine WP_callS2 dX2_spread_5 ⟨⟨⟨by decide, by decide⟩, zJ7_fill_d0a16⟩, lX2_36, tJ7_fill_d0a16⟩ (sx_fillJx_46 hy hr hI l8288 ) (Nat.le_of_ble_eq_true rfl) ?_
  intro r Ia J8289 Ra hq
  obtain ⟨⟨ea, ec, fjJ8289, pJ8289⟩, rfl⟩ := hq
  rw [ea, ec]
  clear ea ec Ia Ra
  have fr8290 : fz 74 g [46] J J8289 := fz_tr frj0 (fz_mono fjJ8289 (by decide))
  refine WQ_iconst (0) (0) dX2_spread_8 rfl rfl (fun v8291 hv8291 => ?_)
  refine WP_istore_n (ls' := [(0, _), (1, _), (2, _), (3, _)]) dX2_spread_9 (by decide) rfl ?_
  have lp10_8294 : ∀ (mz : Nat) (i8292 : Int32) (J8293 : pJ), fz 74 g [46] J J8293 → 0 ≤ i8292.toInt → i8292.toInt ≤ 6 → (SRD (I (ad g 44)) (J (ad g 45)) (J8293 (ad g 46)) ah.toInt ea.toInt i8292.toInt) → (7 - i8292.toInt).toNat < mz → WP g mX2_spread 10 [(0, .ref (ad g 43)), (1, .int ea), (2, .int ah), (3, .int i8292)] [] I J8293 R (fun r I' J' R' => (I' = I ∧ R' = R ∧ fz 74 g [46] J J' ∧ SRD (I (ad g 44)) (J (ad g 45)) (J' (ad g 46)) ah.toInt ea.toInt 6) ∧ r = none) := by
    intro mz
    induction mz with
    | zero =>
      intro i8292 J8293 fjJ8293 ai8292 bi8292 PA_I_8293 hmlp10_8294
      exact absurd hmlp10_8294 (Nat.not_lt_zero _)
    | succ mz ihlp10_8294 =>
      intro i8292 J8293 fjJ8293 ai8292 bi8292 PA_I_8293 hmlp10_8294
      refine WP_iload_n dX2_spread_10 rfl ?_
      refine WQ_bipush (6) (6) dX2_spread_11 rfl rfl (fun v8296 hv8296 => ?_)
      refine WQ_icmp_ge 61 dX2_spread_13 rfl (fun c8296 => ?_) (fun c8296 => ?_)
      · exact WP_vret dX2_spread_61 rfl ⟨⟨rfl, rfl, fjJ8293, (by rw [show (6 : Int) = i8292.toInt by omega]; exact PA_I_8293)⟩, rfl⟩
      · refine WP_aload_n dX2_spread_16 rfl ?_
        refine WP_getr dX2_spread_17 fX2_18 rfl (lyx_is hy 43 2 rfl) (rfx hr 43 4 45 (by decide)) ?_
        refine WP_iload_n dX2_spread_20 rfl ?_
        refine WQ_bipush (6) (6) dX2_spread_21 rfl rfl (fun v8298 hv8298 => ?_)
        refine WQ_imulk (6) dX2_spread_23 hv8298 (by omega) (by omega) (fun v8299 hv8299 => ?_)
        refine WP_iload_n dX2_spread_24 rfl ?_
        refine WQ_iadd dX2_spread_25 (by omega) (by omega) (fun v8300 hv8300 => ?_)
        refine WQ_laldx dX2_spread_26 (lyx_is hy 45 14 rfl) (lyx_n hy 45 168 rfl) (by omega) (by omega) (fun l8301 el8301 => ?_)
        refine WP_lstore (ls' := [(0, _), (1, _), (2, _), (3, _), (4, _)]) dX2_spread_27 (by decide) rfl ?_
        refine WP_lload dX2_spread_29 rfl ?_
        refine WP_lconst (0) dX2_spread_31 rfl ?_
        obtain ⟨l8302, hl8302, el8302⟩ : ∃ v : Int64, v.toInt = 0 ∧ (0 : Int64) = v := ⟨_, rfl, rfl⟩
        rw [el8302]; clear el8302
        refine WQ_lcmp dX2_spread_32 (fun v8303 av8303 bv8303 => ?_)
        refine WQ_if_eq 55 dX2_spread_33 rfl (fun c8303 => ?_) (fun c8303 => ?_)
        · refine WP_iinc (ls' := [(0, _), (1, _), (2, _), (3, _), (4, _)]) dX2_spread_55 rfl (by decide) rfl ?_
          have hv8305 : (i8292 + Int32.ofInt (1)).toInt = i8292.toInt + (1) := ia_n rfl (by omega) (by omega)
          generalize i8292 + Int32.ofInt (1) = v8305 at hv8305 ⊢
          refine WP_goto 10 dX2_spread_58 rfl ?_
          exact WP_sub (fc rfl (fc rfl (fc rfl (fc rfl fn)))) (ihlp10_8294 v8305 J8293 fjJ8293 (by omega) (by omega) (SRD_skip PA_I_8293 (had := l8301) (by rw [← fz_at fjJ8293 45 (by decide) (by decide), show (6 * ah.toInt + i8292.toInt).toNat = v8300.toInt.toNat by omega]; exact el8301) (by omega) hv8305) (by omega))
        · refine WP_aload_n dX2_spread_36 rfl ?_
          refine WP_lload dX2_spread_37 rfl ?_
          refine WP_iload_n dX2_spread_39 rfl ?_
          refine WP_callS2 dX2_spread_40 ⟨⟨⟨by decide, by decide⟩, zX2_withEarned⟩, lX2_78, tX2_withEarned⟩ (sx_wex hy hr hI l8301 ea (by omega) (by omega)) (Nat.le_of_ble_eq_true rfl) ?_
          intro r Ia Ja Ra hq
          obtain ⟨⟨ea, eb, ec⟩, l8306, rfl, ql8306⟩ := hq
          show WP _ _ _ _ (.long _ :: _) _ _ _ _
          rw [ea, eb, ec]
          clear ea eb ec Ia Ja Ra
          refine WP_iload_n dX2_spread_43 rfl ?_
          refine WP_aload_n dX2_spread_44 rfl ?_
          refine WP_getr dX2_spread_45 fX2_12 rfl (lyx_is hy 43 2 rfl) (rfx hr 43 3 44 (by decide)) ?_
          refine WP_iload_n dX2_spread_48 rfl ?_
          refine WP_callV1 (k := 6) dX2_spread_49 ⟨⟨⟨by decide, by decide⟩, zX6_mostFromStore⟩, lX2_82, by decide, rfl, vX6_mostFromStore.1, vX6_mostFromStore.2⟩ (lyx_is hy 44 6 rfl) (sx_mfx hy hr hI i8292 (by omega) (by omega)) (Nat.le_of_ble_eq_true rfl) ?_
          intro r Ia Ja Ra hq
          obtain ⟨⟨ea, eb, ec⟩, v8307, rfl, av8307, bv8307, cv8307⟩ := hq
          show WP _ _ _ _ (.int _ :: _) _ _ _ _
          rw [ea, eb, ec]
          clear ea eb ec Ia Ja Ra
          obtain ⟨w8308, ew8308⟩ : ∃ w : Int32, I (ad g 44) 7 = w := ⟨_, rfl⟩
          have bw8308 := BT_get hI.1 44 7 8 (0) (0) (1) (by decide) 7 (by decide) (by decide)
          rw [ew8308] at bw8308
          rw [ew8308] at cv8307
          obtain ⟨w8309, ew8309⟩ : ∃ w : Int32, I (ad g 44) 1 = w := ⟨_, rfl⟩
          have bw8309 := BT_get hI.1 44 1 2 (0) (0) (3) (by decide) 1 (by decide) (by decide)
          rw [ew8309] at bw8309
          rw [ew8309] at cv8307
          refine WP_callV3 (k := 2) dX2_spread_52 ⟨⟨⟨by decide, by decide⟩, zX2_spend⟩, lX2_86, by decide, rfl, vX2_spend.1, vX2_spend.2⟩ (lyx_is hy 43 2 rfl) (sx_spendx hy hr hI l8306 i8292 v8307 (by omega) (by omega) (by omega) (by omega) (by rw [ew8308, ew8309]; omega)) (Nat.le_of_ble_eq_true rfl) ?_
          intro r Ia J8310 Ra hq
          obtain ⟨⟨ea, ec, fjJ8310, pJ8310⟩, rfl⟩ := hq
          rw [ea, ec]
          clear ea ec Ia Ra
          have fr8311 : fz 74 g [46] J J8310 := fz_tr fjJ8293 (fz_mono fjJ8310 (by decide))
          have AJ8310 := SRD_step PA_I_8293 pJ8310.1 pJ8310.2 (by rw [← fz_at fjJ8293 45 (by decide) (by decide), show (6 * ah.toInt + i8292.toInt).toNat = v8300.toInt.toNat by omega]; exact el8301) ql8306
          refine WP_iinc (ls' := [(0, _), (1, _), (2, _), (3, _), (4, _)]) dX2_spread_55 rfl (by decide) rfl ?_
          have hv8312 : (i8292 + Int32.ofInt (1)).toInt = i8292.toInt + (1) := ia_n rfl (by omega) (by omega)
          generalize i8292 + Int32.ofInt (1) = v8312 at hv8312 ⊢
          refine WP_goto 10 dX2_spread_58 rfl ?_
          exact WP_sub (fc rfl (fc rfl (fc rfl (fc rfl fn)))) (ihlp10_8294 v8312 J8310 fr8311 (by omega) (by omega) (by rw [hv8312]; exact AJ8310) (by omega))
  exact WP_sub (fc rfl (fc rfl (fc rfl (fc rfl fn)))) (lp10_8294 _ v8291 J8289 fr8290 (by omega) (by omega) (SRD_0 hv8291) (Nat.lt_succ_self _))
set_option maxHeartbeats 4000000 in
set_option maxRecDepth 100000 in
theorem sx_psleepx {g : GG} {n : Int} {L : Int32} (hy : LyX g)  {I : pI} {J : pJ} {R : pR} (hr : RfX g R) (hI : XI g n L I) (da : Int32) (ah : Int32) (da_lo : 0 ≤ da.toInt) (da_hi : da.toInt ≤ 6) (ah_lo : 0 ≤ ah.toInt) (ah_hi : ah.toInt ≤ 27) : SP g mX2_sleep [.ref (ad g 43), .int da, .int ah] I J R (fun r I' J' R' => (I' = I ∧ R' = R ∧ fz 74 g [45] J J' ∧ SLP (J (ad g 46)) (J' (ad g 45)) (I (ad g 24)) (I (ad g 25)) (I (ad g 26)) ah.toInt da.toInt 6 0 ∧ OUT (J (ad g 45)) (J' (ad g 45)) ah.toInt) ∧ r = none) := by
  refine SP_of ⟨by decide, rfl⟩ (Nat.le_of_ble_eq_true rfl) ?_
  have e8313 : I (ad g 1) 1 = L := hI.2
  have b8314 := BT_get hI.1 1 1 2 (0) (0) (900) (by decide) 1 (by decide) (by decide)
  rw [e8313] at b8314
  have frj0 : fz 74 g [45] J J := fz_rf
  refine WQ_iconst (0) (0) dX2_sleep_0 rfl rfl (fun v8315 hv8315 => ?_)
  refine WP_istore_n (ls' := [(0, _), (1, _), (2, _), (3, _)]) dX2_sleep_1 (by decide) rfl ?_
  have lp2_8318 : ∀ (mz : Nat) (i8316 : Int32) (J8317 : pJ), fz 74 g [45] J J8317 → 0 ≤ i8316.toInt → i8316.toInt ≤ 6 → (OUT (J (ad g 45)) (J8317 (ad g 45)) ah.toInt) → (SLP (J (ad g 46)) (J8317 (ad g 45)) (I (ad g 24)) (I (ad g 25)) (I (ad g 26)) ah.toInt da.toInt i8316.toInt 0) → (7 - i8316.toInt).toNat < mz → WP g mX2_sleep 2 [(0, .ref (ad g 43)), (1, .int da), (2, .int ah), (3, .int i8316)] [] I J8317 R (fun r I' J' R' => (I' = I ∧ R' = R ∧ fz 74 g [45] J J' ∧ SLP (J (ad g 46)) (J' (ad g 45)) (I (ad g 24)) (I (ad g 25)) (I (ad g 26)) ah.toInt da.toInt 6 0 ∧ OUT (J (ad g 45)) (J' (ad g 45)) ah.toInt) ∧ r = none) := by
    intro mz
    induction mz with
    | zero =>
      intro i8316 J8317 fjJ8317 ai8316 bi8316 PO_I_8317 PS_I_8317 hmlp2_8318
      exact absurd hmlp2_8318 (Nat.not_lt_zero _)
    | succ mz ihlp2_8318 =>
      intro i8316 J8317 fjJ8317 ai8316 bi8316 PO_I_8317 PS_I_8317 hmlp2_8318
      refine WP_iload_n dX2_sleep_2 rfl ?_
      refine WQ_bipush (6) (6) dX2_sleep_3 rfl rfl (fun v8320 hv8320 => ?_)
      refine WQ_icmp_ge 99 dX2_sleep_5 rfl (fun c8320 => ?_) (fun c8320 => ?_)
      · exact WP_vret dX2_sleep_99 rfl ⟨⟨rfl, rfl, fjJ8317, ⟨by rw [show (6 : Int) = i8316.toInt by omega]; exact PS_I_8317, PO_I_8317⟩⟩, rfl⟩
      · refine WP_aload_n dX2_sleep_8 rfl ?_
        refine WP_getr dX2_sleep_9 fX2_22 rfl (lyx_is hy 43 2 rfl) (rfx hr 43 5 46 (by decide)) ?_
        refine WP_iload_n dX2_sleep_12 rfl ?_
        refine WQ_laldx dX2_sleep_13 (lyx_is hy 46 14 rfl) (lyx_n hy 46 6 rfl) (by omega) (by omega) (fun l8322 el8322 => ?_)
        refine WP_lstore (ls' := [(0, _), (1, _), (2, _), (3, _), (4, _)]) dX2_sleep_14 (by decide) rfl ?_
        refine WP_iload_n dX2_sleep_16 rfl ?_
        refine WQ_bipush (6) (6) dX2_sleep_17 rfl rfl (fun v8323 hv8323 => ?_)
        refine WQ_imulk (6) dX2_sleep_19 hv8323 (by omega) (by omega) (fun v8324 hv8324 => ?_)
        refine WP_aload_n dX2_sleep_20 rfl ?_
        refine WP_getr dX2_sleep_21 fX2_32 rfl (lyx_is hy 43 2 rfl) (rfx hr 43 2 5 (by decide)) ?_
        refine WP_getr dX2_sleep_24 fX2_113 rfl (lyx_is hy 5 0 rfl) (rfx hr 5 5 26 (by decide)) ?_
        refine WP_iload_n dX2_sleep_27 rfl ?_
        refine WQ_iald dX2_sleep_28 (lyx_is hy 26 13 rfl) (lyx_n hy 26 6 rfl) (by omega) (by omega) (fun q hq => BT_get hI.1 26 0 6 (0) (0) (5) (by decide) q (Nat.zero_le _) hq) (fun v8325 av8325 bv8325 ev8325 => ?_)
        refine WQ_iadd dX2_sleep_29 (by omega) (by omega) (fun v8326 hv8326 => ?_)
        refine WP_istore (ls' := [(0, _), (1, _), (2, _), (3, _), (4, _), (6, _)]) dX2_sleep_30 (by decide) rfl ?_
        refine WQ_iconst (0) (0) dX2_sleep_32 rfl rfl (fun v8327 hv8327 => ?_)
        refine WP_istore (ls' := [(0, _), (1, _), (2, _), (3, _), (4, _), (6, _), (7, _)]) dX2_sleep_33 (by decide) rfl ?_
        have lp35_8330 : ∀ (mz : Nat) (i8328 : Int32) (J8329 : pJ), fz 74 g [45] J J8329 → 0 ≤ i8328.toInt → i8328.toInt ≤ 61 → (OUT (J (ad g 45)) (J8329 (ad g 45)) ah.toInt) → (SLP (J (ad g 46)) (J8329 (ad g 45)) (I (ad g 24)) (I (ad g 25)) (I (ad g 26)) ah.toInt da.toInt i8316.toInt i8328.toInt) → (62 - i8328.toInt).toNat < mz → WP g mX2_sleep 35 [(0, .ref (ad g 43)), (1, .int da), (2, .int ah), (3, .int i8316), (4, .long l8322), (6, .int v8326), (7, .int i8328)] [] I J8329 R (fun r I' J' R' => (I' = I ∧ R' = R ∧ fz 74 g [45] J J' ∧ SLP (J (ad g 46)) (J' (ad g 45)) (I (ad g 24)) (I (ad g 25)) (I (ad g 26)) ah.toInt da.toInt 6 0 ∧ OUT (J (ad g 45)) (J' (ad g 45)) ah.toInt) ∧ r = none) := by
          intro mz
          induction mz with
          | zero =>
            intro i8328 J8329 fjJ8329 ai8328 bi8328 PO_I_8329 PS_I_8329 hmlp35_8330
            exact absurd hmlp35_8330 (Nat.not_lt_zero _)
          | succ mz ihlp35_8330 =>
            intro i8328 J8329 fjJ8329 ai8328 bi8328 PO_I_8329 PS_I_8329 hmlp35_8330
            refine WP_iload dX2_sleep_35 rfl ?_
            refine WQ_bipush (61) (61) dX2_sleep_37 rfl rfl (fun v8332 hv8332 => ?_)
            refine WQ_icmp_ge 93 dX2_sleep_39 rfl (fun c8332 => ?_) (fun c8332 => ?_)
            · refine WP_iinc (ls' := [(0, _), (1, _), (2, _), (3, _), (4, _), (6, _), (7, _)]) dX2_sleep_93 rfl (by decide) rfl ?_
              have hv8334 : (i8316 + Int32.ofInt (1)).toInt = i8316.toInt + (1) := ia_n rfl (by omega) (by omega)
              generalize i8316 + Int32.ofInt (1) = v8334 at hv8334 ⊢
              refine WP_goto 2 dX2_sleep_96 rfl ?_
              exact WP_sub (fc rfl (fc rfl (fc rfl (fc rfl fn)))) (ihlp2_8318 v8334 J8329 fjJ8329 (by omega) (by omega) PO_I_8329 (SLP_next PS_I_8329 hv8334 (by omega)) (by omega))
            · refine WP_lload dX2_sleep_42 rfl ?_
              refine WP_iload dX2_sleep_44 rfl ?_
              refine WQ_lushrx dX2_sleep_46 (by omega) (by omega) (fun l8335 ql8335 => ?_)
              refine WP_lconst (0) dX2_sleep_47 rfl ?_
              obtain ⟨l8336, hl8336, el8336⟩ : ∃ v : Int64, v.toInt = 0 ∧ (0 : Int64) = v := ⟨_, rfl, rfl⟩
              rw [el8336]; clear el8336
              refine WQ_lcmp dX2_sleep_48 (fun v8337 av8337 bv8337 => ?_)
              refine WQ_if_eq 93 dX2_sleep_49 rfl (fun c8337 => ?_) (fun c8337 => ?_)
              · refine WP_iinc (ls' := [(0, _), (1, _), (2, _), (3, _), (4, _), (6, _), (7, _)]) dX2_sleep_93 rfl (by decide) rfl ?_
                have hv8339 : (i8316 + Int32.ofInt (1)).toInt = i8316.toInt + (1) := ia_n rfl (by omega) (by omega)
                generalize i8316 + Int32.ofInt (1) = v8339 at hv8339 ⊢
                refine WP_goto 2 dX2_sleep_96 rfl ?_
                exact WP_sub (fc rfl (fc rfl (fc rfl (fc rfl fn)))) (ihlp2_8318 v8339 J8329 fjJ8329 (by omega) (by omega) PO_I_8329 (SLP_exit PS_I_8329 hv8339 (by rw [← fz_at fjJ8317 46 (by decide) (by decide)]; exact el8322) ql8335 (by omega)) (by omega))
              · refine WP_lload dX2_sleep_52 rfl ?_
                refine WP_iload dX2_sleep_54 rfl ?_
                refine WQ_lushrx dX2_sleep_56 (by omega) (by omega) (fun l8340 ql8340 => ?_)
                refine WP_lconst (1) dX2_sleep_57 rfl ?_
                obtain ⟨l8341, hl8341, el8341⟩ : ∃ v : Int64, v.toInt = 1 ∧ (1 : Int64) = v := ⟨_, rfl, rfl⟩
                rw [el8341]; clear el8341
                refine WQ_land1 dX2_sleep_58 hl8341 (fun l8342 ql8342 => ?_)
                refine WP_lconst (0) dX2_sleep_59 rfl ?_
                obtain ⟨l8343, hl8343, el8343⟩ : ∃ v : Int64, v.toInt = 0 ∧ (0 : Int64) = v := ⟨_, rfl, rfl⟩
                rw [el8343]; clear el8343
                refine WQ_lcmp dX2_sleep_60 (fun v8344 av8344 bv8344 => ?_)
                refine WQ_if_eq 87 dX2_sleep_61 rfl (fun c8344 => ?_) (fun c8344 => ?_)
                · refine WP_iinc (ls' := [(0, _), (1, _), (2, _), (3, _), (4, _), (6, _), (7, _)]) dX2_sleep_87 rfl (by decide) rfl ?_
                  have hv8346 : (i8328 + Int32.ofInt (1)).toInt = i8328.toInt + (1) := ia_n rfl (by omega) (by omega)
                  generalize i8328 + Int32.ofInt (1) = v8346 at hv8346 ⊢
                  refine WP_goto 35 dX2_sleep_90 rfl ?_
                  exact WP_sub (fc rfl (fc rfl (fc rfl (fc rfl (fc rfl (fc rfl (fc rfl fn))))))) (ihlp35_8330 v8346 J8329 fjJ8329 (by omega) (by omega) PO_I_8329 (SLP_skip PS_I_8329 (by rw [← fz_at fjJ8317 46 (by decide) (by decide)]; exact el8322) ((bt_z ql8342 ql8340).mp (by omega)) hv8346) (by omega))
                · refine WP_aload_n dX2_sleep_64 rfl ?_
                  refine WP_getr dX2_sleep_65 fX2_18 rfl (lyx_is hy 43 2 rfl) (rfx hr 43 4 45 (by decide)) ?_
                  refine WP_iload dX2_sleep_68 rfl ?_
                  refine WP_dup2 dX2_sleep_70 rfl rfl ?_
                  refine WQ_laldx dX2_sleep_71 (lyx_is hy 45 14 rfl) (lyx_n hy 45 168 rfl) (by omega) (by omega) (fun l8347 el8347 => ?_)
                  refine WP_lconst (1) dX2_sleep_72 rfl ?_
                  obtain ⟨l8348, hl8348, el8348⟩ : ∃ v : Int64, v.toInt = 1 ∧ (1 : Int64) = v := ⟨_, rfl, rfl⟩
                  rw [el8348]; clear el8348
                  refine WP_aload_n dX2_sleep_73 rfl ?_
                  refine WP_getr dX2_sleep_74 fX2_32 rfl (lyx_is hy 43 2 rfl) (rfx hr 43 2 5 (by decide)) ?_
                  refine WP_iload dX2_sleep_77 rfl ?_
                  refine WP_iload_n dX2_sleep_79 rfl ?_
                  refine WP_iload_n dX2_sleep_80 rfl ?_
                  refine WP_callV3 (k := 0) dX2_sleep_81 ⟨⟨⟨by decide, by decide⟩, zX0_coinsBehind⟩, lX2_116, by decide, rfl, vX0_coinsBehind.1, vX0_coinsBehind.2⟩ (lyx_is hy 5 0 rfl) (sx_cbx hy hr hI i8328 i8316 da (by omega) (by omega) (by omega) (by omega) (by omega) (by omega)) (Nat.le_of_ble_eq_true rfl) ?_
                  intro r Ia Ja Ra hq
                  obtain ⟨⟨ea, eb, ec⟩, v8349, rfl, av8349, bv8349, cv8349⟩ := hq
                  show WP _ _ _ _ (.int _ :: _) _ _ _ _
                  rw [ea, eb, ec]
                  clear ea eb ec Ia Ja Ra
                  refine WQ_lshl1 dX2_sleep_84 hl8348 (by omega) (by omega) (fun l8350 ql8350 => ?_)
                  refine WQ_lorx dX2_sleep_85 (fun l8351 ql8351 => ?_)
                  refine WQ_last dX2_sleep_86 (lyx_is hy 45 14 rfl) (lyx_n hy 45 168 rfl) (by omega) (by omega) (fun J8352 eJ8352 => ?_)
                  have fr8353 : fz 74 g [45] J J8352 := by rw [eJ8352]; exact fzx_pp hy fjJ8329 (by decide) (by decide)
                  have xJ8352 := eJ8352
                  rw [cl (x := v8326) (n := v8326.toInt.toNat) (by omega)] at xJ8352
                  have yJ8352 : ∀ b, bt l8351 b ↔ bt (J8329 (ad g 45) v8326.toInt.toNat) b ∨ bt l8350 b := by rw [el8347]; exact ql8351
                  have OJ8352 := OUT_pp (ah := ah.toInt) (sb := v8325.toInt) PO_I_8329 xJ8352 (by omega) (by omega) (by omega)
                  have SJ8352 := SLP_step PS_I_8329 xJ8352 yJ8352 ql8350 (by unfold SB; rw [← cl (x := i8316) (n := i8316.toInt.toNat) (by omega), ev8325]; omega) cv8349 (by omega)
                  clear eJ8352
                  refine WP_iinc (ls' := [(0, _), (1, _), (2, _), (3, _), (4, _), (6, _), (7, _)]) dX2_sleep_87 rfl (by decide) rfl ?_
                  have hv8354 : (i8328 + Int32.ofInt (1)).toInt = i8328.toInt + (1) := ia_n rfl (by omega) (by omega)
                  generalize i8328 + Int32.ofInt (1) = v8354 at hv8354 ⊢
                  refine WP_goto 35 dX2_sleep_90 rfl ?_
                  exact WP_sub (fc rfl (fc rfl (fc rfl (fc rfl (fc rfl (fc rfl (fc rfl fn))))))) (ihlp35_8330 v8354 J8352 fr8353 (by omega) (by omega) OJ8352 (by rw [hv8354]; exact SJ8352) (by omega))
        exact WP_sub (fc rfl (fc rfl (fc rfl (fc rfl (fc rfl (fc rfl (fc rfl fn))))))) (lp35_8330 _ v8327 J8317 fjJ8317 (by omega) (by omega) PO_I_8317 (by rw [hv8327]; exact PS_I_8317) (Nat.lt_succ_self _))
  exact WP_sub (fc rfl (fc rfl (fc rfl (fc rfl fn)))) (lp2_8318 _ v8315 J frj0 (by omega) (by omega) OUT_rf (SLP_0 hv8315) (Nat.lt_succ_self _))
