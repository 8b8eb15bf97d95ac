set_option maxHeartbeats 4000000 in
set_option maxRecDepth 100000 in
theorem sx_fillJx_45 {g : GG} {n : Int} {L : Int32} (hy : LyX g)  {I : pI} {J : pJ} {R : pR} (hr : RfX g R) (hI : XI g n L I) (vv : Int64)  : SP g mJ7_fill_d0a16 [.ref (ad g 45), .long vv] I J R (fun r I' J' R' => (I' = I ∧ R' = R ∧ fz 74 g [45] J J' ∧ (∀ q : Nat, q < 168 → J' (ad g 45) q = vv)) ∧ r = none) := by
  refine SP_of ⟨by decide, rfl⟩ (Nat.le_of_ble_eq_true rfl) ?_
  have e8186 : I (ad g 1) 1 = L := hI.2
  have b8187 := BT_get hI.1 1 1 2 (0) (0) (900) (by decide) 1 (by decide) (by decide)
  rw [e8186] at b8187
  have frj0 : fz 74 g [45] J J := fz_rf
  refine WQ_iconst (0) (0) dJ7_fill_d0a16_0 rfl rfl (fun v8188 hv8188 => ?_)
  refine WP_istore_n (ls' := [(0, _), (1, _), (3, _)]) dJ7_fill_d0a16_1 (by decide) rfl ?_
  refine WP_aload_n dJ7_fill_d0a16_2 rfl ?_
  refine WP_alen dJ7_fill_d0a16_3 (lyx_is hy 45 14 rfl) (by decide) ?_
  rw [(lyx_n hy 45 168 rfl)]
  obtain ⟨v8189, hv8189, ev8189⟩ : ∃ v : Int32, v.toInt = 168 ∧ nI 168 = v := ⟨_, nI_toInt (by decide), rfl⟩
  rw [ev8189]; clear ev8189
  refine WP_istore (ls' := [(0, _), (1, _), (3, _), (4, _)]) dJ7_fill_d0a16_4 (by decide) rfl ?_
  have lp6_8192 : ∀ (mz : Nat) (i8190 : Int32) (J8191 : pJ), fz 74 g [45] J J8191 → 0 ≤ i8190.toInt → i8190.toInt ≤ 168 → i8190.toInt ≤ v8189.toInt → (∀ q : Nat, (q : Int) < i8190.toInt → J8191 (ad g 45) q = vv) → (169 - i8190.toInt).toNat < mz → WP g mJ7_fill_d0a16 6 [(0, .ref (ad g 45)), (1, .long vv), (3, .int i8190), (4, .int v8189)] [] I J8191 R (fun r I' J' R' => (I' = I ∧ R' = R ∧ fz 74 g [45] J J' ∧ (∀ q : Nat, q < 168 → J' (ad g 45) q = vv)) ∧ r = none) := by
    intro mz
    induction mz with
    | zero =>
      intro i8190 J8191 fjJ8191 ai8190 bi8190 j0_I_8191 PF_I_8191 hmlp6_8192
      exact absurd hmlp6_8192 (Nat.not_lt_zero _)
    | succ mz ihlp6_8192 =>
      intro i8190 J8191 fjJ8191 ai8190 bi8190 j0_I_8191 PF_I_8191 hmlp6_8192
      refine WP_iload_n dJ7_fill_d0a16_6 rfl ?_
      refine WP_iload dJ7_fill_d0a16_7 rfl ?_
      refine WQ_icmp_ge 22 dJ7_fill_d0a16_9 rfl (fun c8193 => ?_) (fun c8193 => ?_)
      · exact WP_vret dJ7_fill_d0a16_22 rfl ⟨⟨rfl, rfl, fjJ8191, (fun q hq => PF_I_8191 q (by omega))⟩, rfl⟩
      · refine WP_aload_n dJ7_fill_d0a16_12 rfl ?_
        refine WP_iload_n dJ7_fill_d0a16_13 rfl ?_
        refine WP_lload_n dJ7_fill_d0a16_14 rfl ?_
        refine WQ_last dJ7_fill_d0a16_15 (lyx_is hy 45 14 rfl) (lyx_n hy 45 168 rfl) (by omega) (by omega) (fun J8195 eJ8195 => ?_)
        have fr8196 : fz 74 g [45] J J8195 := by rw [eJ8195]; exact fzx_pp hy fjJ8191 (by decide) (by decide)
        have FJ8195 : ∀ q : Nat, (q : Int) < i8190.toInt + 1 → J8195 (ad g 45) q = vv := by
          intro q hq
          rw [eJ8195, pp_at, cl (x := i8190) (n := i8190.toInt.toNat) (by omega)]
          split
          · rfl
          · exact PF_I_8191 q (by omega)
        clear eJ8195
        refine WP_iinc (ls' := [(0, _), (1, _), (3, _), (4, _)]) dJ7_fill_d0a16_16 rfl (by decide) rfl ?_
        have hv8197 : (i8190 + Int32.ofInt (1)).toInt = i8190.toInt + (1) := ia_n rfl (by omega) (by omega)
        generalize i8190 + Int32.ofInt (1) = v8197 at hv8197 ⊢
        refine WP_goto 6 dJ7_fill_d0a16_19 rfl ?_
        exact WP_sub (fc rfl (fc rfl (fc rfl (fc rfl fn)))) (ihlp6_8192 v8197 J8195 fr8196 (by omega) (by omega) (by omega) (fun q hq => FJ8195 q (by omega)) (by omega))
  exact WP_sub (fc rfl (fc rfl (fc rfl (fc rfl fn)))) (lp6_8192 _ v8188 J frj0 (by omega) (by omega) (by omega) (fun q hq => by omega) (Nat.lt_succ_self _))
set_option maxHeartbeats 4000000 in
set_option maxRecDepth 100000 in
theorem sx_fillJx_46 {g : GG} {n : Int} {L : Int32} (hy : LyX g)  {I : pI} {J : pJ} {R : pR} (hr : RfX g R) (hI : XI g n L I) (vv : Int64)  : SP g mJ7_fill_d0a16 [.ref (ad g 46), .long vv] I J R (fun r I' J' R' => (I' = I ∧ R' = R ∧ fz 74 g [46] J J' ∧ (∀ q : Nat, q < 6 → J' (ad g 46) q = vv)) ∧ r = none) := by
  refine SP_of ⟨by decide, rfl⟩ (Nat.le_of_ble_eq_true rfl) ?_
  have e8198 : I (ad g 1) 1 = L := hI.2
  have b8199 := BT_get hI.1 1 1 2 (0) (0) (900) (by decide) 1 (by decide) (by decide)
  rw [e8198] at b8199
  have frj0 : fz 74 g [46] J J := fz_rf
  refine WQ_iconst (0) (0) dJ7_fill_d0a16_0 rfl rfl (fun v8200 hv8200 => ?_)
  refine WP_istore_n (ls' := [(0, _), (1, _), (3, _)]) dJ7_fill_d0a16_1 (by decide) rfl ?_
  refine WP_aload_n dJ7_fill_d0a16_2 rfl ?_
  refine WP_alen dJ7_fill_d0a16_3 (lyx_is hy 46 14 rfl) (by decide) ?_
  rw [(lyx_n hy 46 6 rfl)]
  obtain ⟨v8201, hv8201, ev8201⟩ : ∃ v : Int32, v.toInt = 6 ∧ nI 6 = v := ⟨_, nI_toInt (by decide), rfl⟩
  rw [ev8201]; clear ev8201
  refine WP_istore (ls' := [(0, _), (1, _), (3, _), (4, _)]) dJ7_fill_d0a16_4 (by decide) rfl ?_
  have lp6_8204 : ∀ (mz : Nat) (i8202 : Int32) (J8203 : pJ), fz 74 g [46] J J8203 → 0 ≤ i8202.toInt → i8202.toInt ≤ 6 → i8202.toInt ≤ v8201.toInt → (∀ q : Nat, (q : Int) < i8202.toInt → J8203 (ad g 46) q = vv) → (7 - i8202.toInt).toNat < mz → WP g mJ7_fill_d0a16 6 [(0, .ref (ad g 46)), (1, .long vv), (3, .int i8202), (4, .int v8201)] [] I J8203 R (fun r I' J' R' => (I' = I ∧ R' = R ∧ fz 74 g [46] J J' ∧ (∀ q : Nat, q < 6 → J' (ad g 46) q = vv)) ∧ r = none) := by
    intro mz
    induction mz with
    | zero =>
      intro i8202 J8203 fjJ8203 ai8202 bi8202 j0_I_8203 PF_I_8203 hmlp6_8204
      exact absurd hmlp6_8204 (Nat.not_lt_zero _)
    | succ mz ihlp6_8204 =>
      intro i8202 J8203 fjJ8203 ai8202 bi8202 j0_I_8203 PF_I_8203 hmlp6_8204
      refine WP_iload_n dJ7_fill_d0a16_6 rfl ?_
      refine WP_iload dJ7_fill_d0a16_7 rfl ?_
      refine WQ_icmp_ge 22 dJ7_fill_d0a16_9 rfl (fun c8205 => ?_) (fun c8205 => ?_)
      · exact WP_vret dJ7_fill_d0a16_22 rfl ⟨⟨rfl, rfl, fjJ8203, (fun q hq => PF_I_8203 q (by omega))⟩, rfl⟩
      · refine WP_aload_n dJ7_fill_d0a16_12 rfl ?_
        refine WP_iload_n dJ7_fill_d0a16_13 rfl ?_
        refine WP_lload_n dJ7_fill_d0a16_14 rfl ?_
        refine WQ_last dJ7_fill_d0a16_15 (lyx_is hy 46 14 rfl) (lyx_n hy 46 6 rfl) (by omega) (by omega) (fun J8207 eJ8207 => ?_)
        have fr8208 : fz 74 g [46] J J8207 := by rw [eJ8207]; exact fzx_pp hy fjJ8203 (by decide) (by decide)
        have FJ8207 : ∀ q : Nat, (q : Int) < i8202.toInt + 1 → J8207 (ad g 46) q = vv := by
          intro q hq
          rw [eJ8207, pp_at, cl (x := i8202) (n := i8202.toInt.toNat) (by omega)]
          split
          · rfl
          · exact PF_I_8203 q (by omega)
        clear eJ8207
        refine WP_iinc (ls' := [(0, _), (1, _), (3, _), (4, _)]) dJ7_fill_d0a16_16 rfl (by decide) rfl ?_
        have hv8209 : (i8202 + Int32.ofInt (1)).toInt = i8202.toInt + (1) := ia_n rfl (by omega) (by omega)
        generalize i8202 + Int32.ofInt (1) = v8209 at hv8209 ⊢
        refine WP_goto 6 dJ7_fill_d0a16_19 rfl ?_
        exact WP_sub (fc rfl (fc rfl (fc rfl (fc rfl fn)))) (ihlp6_8204 v8209 J8207 fr8208 (by omega) (by omega) (by omega) (fun q hq => FJ8207 q (by omega)) (by omega))
  exact WP_sub (fc rfl (fc rfl (fc rfl (fc rfl fn)))) (lp6_8204 _ v8200 J frj0 (by omega) (by omega) (by omega) (fun q hq => by omega) (Nat.lt_succ_self _))
set_option maxHeartbeats 4000000 in
set_option maxRecDepth 100000 in
theorem sx_mfx {g : GG} {n : Int} {L : Int32} (hy : LyX g)  {I : pI} {J : pJ} {R : pR} (hr : RfX g R) (hI : XI g n L I) (st : Int32) (st_lo : 0 ≤ st.toInt) (st_hi : st.toInt ≤ 5) : SP g mX6_mostFromStore [.ref (ad g 44), .int st] I J R (fun r I' J' R' => (I' = I ∧ J' = J ∧ R' = R) ∧ ∃ v : Int32, r = some (.int v) ∧ 0 ≤ v.toInt ∧ v.toInt ≤ 3 ∧ ((I (ad g 44) 7).toInt = 0 ∧ v.toInt = 0 ∨ (I (ad g 44) 7).toInt ≠ 0 ∧ (st.toInt < (I (ad g 44) 1).toInt ∧ v.toInt = st.toInt ∨ (I (ad g 44) 1).toInt ≤ st.toInt ∧ v.toInt = (I (ad g 44) 1).toInt))) := by
  refine SP_of ⟨by decide, rfl⟩ (Nat.le_of_ble_eq_true rfl) ?_
  have e8210 : I (ad g 1) 1 = L := hI.2
  have b8211 := BT_get hI.1 1 1 2 (0) (0) (900) (by decide) 1 (by decide) (by decide)
  rw [e8210] at b8211
  refine WP_aload_n dX6_mostFromStore_0 rfl ?_
  refine WQ_geti dX6_mostFromStore_1 fX6_60 rfl (lyx_is hy 44 6 rfl) (BT_get hI.1 44 7 8 (0) (0) (1) (by decide) 7 (by decide) (by decide)) (fun v8212 ev8212 av8212 bv8212 => ?_)
  refine WQ_if_ne 11 dX6_mostFromStore_4 rfl (fun c8212 => ?_) (fun c8212 => ?_)
  · refine WP_iload_n dX6_mostFromStore_11 rfl ?_
    refine WP_aload_n dX6_mostFromStore_12 rfl ?_
    refine WQ_geti dX6_mostFromStore_13 fX6_36 rfl (lyx_is hy 44 6 rfl) (BT_get hI.1 44 1 2 (0) (0) (3) (by decide) 1 (by decide) (by decide)) (fun v8214 ev8214 av8214 bv8214 => ?_)
    refine WQ_icmp_ge 23 dX6_mostFromStore_16 rfl (fun c8214 => ?_) (fun c8214 => ?_)
    · refine WP_aload_n dX6_mostFromStore_23 rfl ?_
      refine WQ_getim dX6_mostFromStore_24 fX6_36 rfl (lyx_is hy 44 6 rfl) ev8214 ?_
      exact WP_iret dX6_mostFromStore_27 rfl ⟨⟨rfl, rfl, rfl⟩, _, rfl, by omega, by omega, by (try rw [ev8212]; try rw [ev8214]); omega⟩
    · refine WP_iload_n dX6_mostFromStore_19 rfl ?_
      refine WP_goto 27 dX6_mostFromStore_20 rfl ?_
      exact WP_iret dX6_mostFromStore_27 rfl ⟨⟨rfl, rfl, rfl⟩, _, rfl, by omega, by omega, by (try rw [ev8212]; try rw [ev8214]); omega⟩
  · refine WQ_iconst (0) (0) dX6_mostFromStore_7 rfl rfl (fun v8216 hv8216 => ?_)
    refine WP_goto 27 dX6_mostFromStore_8 rfl ?_
    obtain ⟨w8217, ew8217⟩ : ∃ w : Int32, I (ad g 44) 1 = w := ⟨_, rfl⟩
    have bw8217 := BT_get hI.1 44 1 2 (0) (0) (3) (by decide) 1 (by decide) (by decide)
    rw [ew8217] at bw8217
    exact WP_iret dX6_mostFromStore_27 rfl ⟨⟨rfl, rfl, rfl⟩, _, rfl, by omega, by omega, by (try rw [ev8212]; try rw [ew8217]); omega⟩
set_option maxHeartbeats 4000000 in
set_option maxRecDepth 100000 in
theorem sx_cbx {g : GG} {n : Int} {L : Int32} (hy : LyX g)  {I : pI} {J : pJ} {R : pR} (hr : RfX g R) (hI : XI g n L I) (co : Int32) (st : Int32) (da : Int32) (co_lo : 0 ≤ co.toInt) (co_hi : co.toInt ≤ 60) (st_lo : 0 ≤ st.toInt) (st_hi : st.toInt ≤ 5) (da_lo : 0 ≤ da.toInt) (da_hi : da.toInt ≤ 6) : SP g mX0_coinsBehind [.ref (ad g 5), .int co, .int st, .int da] I J R (fun r I' J' R' => (I' = I ∧ J' = J ∧ R' = R) ∧ ∃ v : Int32, r = some (.int v) ∧ 0 ≤ v.toInt ∧ v.toInt ≤ 60 ∧ v.toInt = CB (I (ad g 24)) (I (ad g 25)) co.toInt st.toInt da.toInt) := by
  refine SP_of ⟨by decide, rfl⟩ (Nat.le_of_ble_eq_true rfl) ?_
  have e8218 : I (ad g 1) 1 = L := hI.2
  have b8219 := BT_get hI.1 1 1 2 (0) (0) (900) (by decide) 1 (by decide) (by decide)
  rw [e8218] at b8219
  refine WP_aload_n dX0_coinsBehind_0 rfl ?_
  refine WP_getr dX0_coinsBehind_1 fX0_18 rfl (lyx_is hy 5 0 rfl) (rfx hr 5 3 24 (by decide)) ?_
  refine WP_iload_n dX0_coinsBehind_4 rfl ?_
  refine WQ_bipush (61) (61) dX0_coinsBehind_5 rfl rfl (fun v8220 hv8220 => ?_)
  refine WQ_imulk (61) dX0_coinsBehind_7 hv8220 (by omega) (by omega) (fun v8221 hv8221 => ?_)
  refine WP_iload_n dX0_coinsBehind_8 rfl ?_
  refine WQ_iadd dX0_coinsBehind_9 (by omega) (by omega) (fun v8222 hv8222 => ?_)
  refine WQ_iald dX0_coinsBehind_10 (lyx_is hy 24 13 rfl) (lyx_n hy 24 427 rfl) (by omega) (by omega) (fun q hq => BT_get hI.1 24 0 427 (0) (0) (60) (by decide) q (Nat.zero_le _) hq) (fun v8223 av8223 bv8223 ev8223 => ?_)
  refine WP_aload_n dX0_coinsBehind_11 rfl ?_
  refine WP_getr dX0_coinsBehind_12 fX0_21 rfl (lyx_is hy 5 0 rfl) (rfx hr 5 4 25 (by decide)) ?_
  refine WP_iload_n dX0_coinsBehind_15 rfl ?_
  refine WQ_iald dX0_coinsBehind_16 (lyx_is hy 25 13 rfl) (lyx_n hy 25 6 rfl) (by omega) (by omega) (fun q hq => BT_get hI.1 25 0 6 (0) (0) (45) (by decide) q (Nat.zero_le _) hq) (fun v8224 av8224 bv8224 ev8224 => ?_)
  refine WQ_isub dX0_coinsBehind_17 (by omega) (by omega) (fun v8225 hv8225 => ?_)
  refine WP_istore (ls' := [(0, _), (1, _), (2, _), (3, _), (4, _)]) dX0_coinsBehind_18 (by decide) rfl ?_
  refine WP_iload dX0_coinsBehind_20 rfl ?_
  refine WQ_if_ge 29 dX0_coinsBehind_22 rfl (fun c8225 => ?_) (fun c8225 => ?_)
  · refine WP_iload dX0_coinsBehind_29 rfl ?_
    exact WP_iret dX0_coinsBehind_31 rfl ⟨⟨rfl, rfl, rfl⟩, _, rfl, by omega, by omega, (by unfold CB; rw [← cl (x := v8222) (n := (61 * da.toInt + co.toInt).toNat) (by omega), ev8223, ← cl (x := st) (n := st.toInt.toNat) (by omega), ev8224]; omega)⟩
  · refine WQ_iconst (0) (0) dX0_coinsBehind_25 rfl rfl (fun v8227 hv8227 => ?_)
    refine WP_goto 31 dX0_coinsBehind_26 rfl ?_
    exact WP_iret dX0_coinsBehind_31 rfl ⟨⟨rfl, rfl, rfl⟩, _, rfl, by omega, by omega, (by unfold CB; rw [← cl (x := v8222) (n := (61 * da.toInt + co.toInt).toNat) (by omega), ev8223, ← cl (x := st) (n := st.toInt.toNat) (by omega), ev8224]; omega)⟩
set_option maxHeartbeats 4000000 in
set_option maxRecDepth 100000 in
theorem sx_wex {g : GG} {n : Int} {L : Int32} (hy : LyX g)  {I : pI} {J : pJ} {R : pR} (hr : RfX g R) (hI : XI g n L I) (ha : Int64) (ea : Int32) (ea_lo : 0 ≤ ea.toInt) (ea_hi : ea.toInt ≤ 20) : SP g mX2_withEarned [.long ha, .int ea] I J R (fun r I' J' R' => (I' = I ∧ J' = J ∧ R' = R) ∧ ∃ v : Int64, r = some (.long v) ∧ (∀ c c' : Int, 0 ≤ c → c ≤ 60 → bt ha c → CE c c' ea.toInt → bt v c')) := by
  refine SP_of ⟨by decide, rfl⟩ (Nat.le_of_ble_eq_true rfl) ?_
  have e8228 : I (ad g 1) 1 = L := hI.2
  have b8229 := BT_get hI.1 1 1 2 (0) (0) (900) (by decide) 1 (by decide) (by decide)
  rw [e8228] at b8229
  refine WP_ldc2 (1152921504606846976) dX2_withEarned_0 klX2_90 ?_
  obtain ⟨l8230, hl8230, el8230⟩ : ∃ v : Int64, v.toInt = (1152921504606846976) ∧ ((1152921504606846976) : Int64) = v := ⟨_, rfl, rfl⟩
  rw [el8230]; clear el8230
  refine WP_lstore_n (ls' := [(0, _), (2, _), (3, _)]) dX2_withEarned_3 (by decide) rfl ?_
  refine WP_lload_n dX2_withEarned_4 rfl ?_
  refine WP_iload_n dX2_withEarned_5 rfl ?_
  refine WQ_lshlx dX2_withEarned_6 (by omega) (by omega) (fun l8231 ql8231 => ?_)
  refine WP_lload_n dX2_withEarned_7 rfl ?_
  refine WP_lconst (1) dX2_withEarned_8 rfl ?_
  obtain ⟨l8232, hl8232, el8232⟩ : ∃ v : Int64, v.toInt = 1 ∧ (1 : Int64) = v := ⟨_, rfl, rfl⟩
  rw [el8232]; clear el8232
  refine WQ_lsubi dX2_withEarned_9 (by omega) (by omega) (fun l8233 hl8233 => ?_)
  refine WQ_landx dX2_withEarned_10 (fun l8234 ql8234 => ?_)
  refine WP_lstore (ls' := [(0, _), (2, _), (3, _), (5, _)]) dX2_withEarned_11 (by decide) rfl ?_
  refine WP_lload_n dX2_withEarned_13 rfl ?_
  refine WQ_bipush (60) (60) dX2_withEarned_14 rfl rfl (fun v8235 hv8235 => ?_)
  refine WP_iload_n dX2_withEarned_16 rfl ?_
  refine WQ_isub dX2_withEarned_17 (by omega) (by omega) (fun v8236 hv8236 => ?_)
  refine WQ_lushrx dX2_withEarned_18 (by omega) (by omega) (fun l8237 ql8237 => ?_)
  refine WP_lconst (0) dX2_withEarned_19 rfl ?_
  obtain ⟨l8238, hl8238, el8238⟩ : ∃ v : Int64, v.toInt = 0 ∧ (0 : Int64) = v := ⟨_, rfl, rfl⟩
  rw [el8238]; clear el8238
  refine WQ_lcmp dX2_withEarned_20 (fun v8239 av8239 bv8239 => ?_)
  refine WQ_if_ne 29 dX2_withEarned_21 rfl (fun c8239 => ?_) (fun c8239 => ?_)
  · refine WP_lload dX2_withEarned_29 rfl ?_
    refine WP_lload_n dX2_withEarned_31 rfl ?_
    refine WQ_lorx dX2_withEarned_32 (fun l8241 ql8241 => ?_)
    exact WP_lret dX2_withEarned_33 rfl ⟨⟨rfl, rfl, rfl⟩, _, rfl, (WE_b (by omega) (by omega) ql8231 ql8234 (by omega) ql8241 (by omega))⟩
  · refine WP_lload dX2_withEarned_24 rfl ?_
    refine WP_goto 33 dX2_withEarned_26 rfl ?_
    exact WP_lret dX2_withEarned_33 rfl ⟨⟨rfl, rfl, rfl⟩, _, rfl, (WE_a (by omega) (by omega) ql8231 ql8234 (by omega) ql8237 (by omega) (by omega))⟩
