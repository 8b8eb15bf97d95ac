set_option maxHeartbeats 4000000 in
set_option maxRecDepth 100000 in
theorem sm_loses2 {g : GG} {n : Int} {L : Int32} (hy : Ly g)  {I : pI} {J : pJ} {R : pR} (hr : Rf g R) (hI : MP g n L I) (da : Int32) (da_lo : 0 ≤ da.toInt) (da_hi : da.toInt ≤ 6) : SP g mX11_loses [.ref (ad g 0), .int da] I J R (fun r I' J' R' => (I' = I ∧ J' = J ∧ R' = R) ∧ ∃ v : Int32, r = some (.int v) ∧ 0 ≤ v.toInt ∧ v.toInt ≤ 900) := by
  refine SP_of ⟨by decide, rfl⟩ (Nat.le_of_ble_eq_true rfl) ?_
  have e4070 : I (ad g 0) 1 = L := hI.1.2
  have b4071 := BT_get hI.1.1 0 1 2 (0) (0) (900) (by decide) 1 (by decide) (by decide)
  rw [e4070] at b4071
  refine WP_aload_n dX11_loses_0 rfl ?_
  refine WQ_geti dX11_loses_1 fX11_273 rfl (ly_is hy 0 11 rfl) (BT_get hI.1.1 0 55 56 (-1) (0) (900) (by decide) 55 (by decide) (by decide)) (fun v4072 ev4072 av4072 bv4072 => ?_)
  refine WQ_iconst (-1) (-1) dX11_loses_4 rfl rfl (fun v4073 hv4073 => ?_)
  refine WQ_icmp_eq 17 dX11_loses_5 rfl (fun c4073 => ?_) (fun c4073 => ?_)
  · refine WP_aload_n dX11_loses_17 rfl ?_
    refine WP_getr dX11_loses_18 fX11_233 rfl (ly_is hy 0 11 rfl) (rf hr 0 24 6 (by decide)) ?_
    refine WP_iload_n dX11_loses_21 rfl ?_
    refine WQ_iald dX11_loses_22 (ly_is hy 6 13 rfl) (ly_n hy 6 7 rfl) (by omega) (by omega) (fun q hq => BT_get hI.1.1 6 0 7 (0) (0) (900) (by decide) q (Nat.zero_le _) hq) (fun v4075 av4075 bv4075 ev4075 => ?_)
    refine WP_goto 30 dX11_loses_23 rfl ?_
    exact WP_iret dX11_loses_30 rfl ⟨⟨rfl, rfl, rfl⟩, _, rfl, by omega, by omega⟩
  · refine WP_aload_n dX11_loses_8 rfl ?_
    refine WP_getr dX11_loses_9 fX11_233 rfl (ly_is hy 0 11 rfl) (rf hr 0 24 6 (by decide)) ?_
    refine WP_iload_n dX11_loses_12 rfl ?_
    refine WQ_iald dX11_loses_13 (ly_is hy 6 13 rfl) (ly_n hy 6 7 rfl) (by omega) (by omega) (fun q hq => BT_get hI.1.1 6 0 7 (0) (0) (900) (by decide) q (Nat.zero_le _) hq) (fun v4076 av4076 bv4076 ev4076 => ?_)
    refine WQ_if_ne 26 dX11_loses_14 rfl (fun c4076 => ?_) (fun c4076 => ?_)
    · refine WP_aload_n dX11_loses_26 rfl ?_
      refine WQ_getim dX11_loses_27 fX11_273 rfl (ly_is hy 0 11 rfl) ev4072 ?_
      exact WP_iret dX11_loses_30 rfl ⟨⟨rfl, rfl, rfl⟩, _, rfl, by omega, by omega⟩
    · refine WP_aload_n dX11_loses_17 rfl ?_
      refine WP_getr dX11_loses_18 fX11_233 rfl (ly_is hy 0 11 rfl) (rf hr 0 24 6 (by decide)) ?_
      refine WP_iload_n dX11_loses_21 rfl ?_
      refine WQ_ialde dX11_loses_22 (ly_is hy 6 13 rfl) (ly_n hy 6 7 rfl) (by omega) (by omega) ev4076 ?_
      refine WP_goto 30 dX11_loses_23 rfl ?_
      exact WP_iret dX11_loses_30 rfl ⟨⟨rfl, rfl, rfl⟩, _, rfl, by omega, by omega⟩
