set_option maxHeartbeats 4000000 in
set_option maxRecDepth 100000 in
theorem x_losesOn {g : GG} {I : pI} {J : pJ} {R : pR} (hy : LyX g) (hr : RfX g R) (t r : Nat) (xt xr : Int32) (ht : xt.toInt = (t : Int)) (hq : xr.toInt = (r : Int) ∧ 1 ≤ r)  : SP g mX8_losesOn [.int xt, .int xr] I J R (pq (.int (if (t : Int) % (r : Int) = 0 then 1 else 0)) I J R) := by
  refine SP_of ⟨by decide, rfl⟩ (Nat.le_of_ble_eq_true rfl) ?_
  have c0 : True := trivial
  have er : (xt - xt / xr * xr).toInt = (t : Int) % (r : Int) := by rw [ir (by rw [ht]; omega) (by rw [hq.1]; omega), ht, hq.1]
  refine WP_iload_n dX8_losesOn_0 rfl ?_
  refine WP_if_le 14 dX8_losesOn_1 rfl (fun c1 => absurd c1 (by rw [le32, hq.1]; simp only [Int32.reduceToInt]; omega)) (fun c1 => ?_)
  refine WP_iload_n dX8_losesOn_4 rfl ?_
  refine WP_iload_n dX8_losesOn_5 rfl ?_
  refine WP_irem dX8_losesOn_6 (by rw [eq32, hq.1]; simp only [Int32.reduceToInt]; omega) ?_
  refine WP_if_ne 14 dX8_losesOn_7 rfl (fun c7 => ?_) (fun c7 => ?_)
  · refine WP_iconst (0) dX8_losesOn_14 rfl ?_
    exact WP_iret dX8_losesOn_15 rfl ⟨(by rw [eq32, er] at c7; simp only [Int32.reduceToInt] at c7; first | rw [if_pos c7] | rw [if_neg c7]), rfl, rfl, rfl⟩
  · refine WP_iconst (1) dX8_losesOn_10 rfl ?_
    refine WP_goto 15 dX8_losesOn_11 rfl ?_
    exact WP_iret dX8_losesOn_15 rfl ⟨(by rw [eq32, er] at c7; simp only [Int32.reduceToInt] at c7; first | rw [if_pos c7] | rw [if_neg c7]), rfl, rfl, rfl⟩
set_option maxHeartbeats 4000000 in
set_option maxRecDepth 100000 in
theorem x_mean {g : GG} {I : pI} {J : pJ} {R : pR} (hy : LyX g) (hr : RfX g R) (a b c : Int32) : SP g mX8_mean [.int a, .int b, .int c] I J R (pq (.int ((a * (1000 + b) + (100 - a) * c) / 100)) I J R) := by
  refine SP_of ⟨by decide, rfl⟩ (Nat.le_of_ble_eq_true rfl) ?_
  have c0 : True := trivial
  refine WP_iload_n dX8_mean_0 rfl ?_
  refine WP_sipush (1000) dX8_mean_1 rfl ?_
  refine WP_iload_n dX8_mean_4 rfl ?_
  refine WP_iadd dX8_mean_5 ?_
  refine WP_imul dX8_mean_6 ?_
  refine WP_bipush (100) dX8_mean_7 rfl ?_
  refine WP_iload_n dX8_mean_9 rfl ?_
  refine WP_isub dX8_mean_10 ?_
  refine WP_iload_n dX8_mean_11 rfl ?_
  refine WP_imul dX8_mean_12 ?_
  refine WP_iadd dX8_mean_13 ?_
  refine WP_bipush (100) dX8_mean_14 rfl ?_
  refine WP_idiv dX8_mean_16 (by decide) ?_
  exact WP_iret dX8_mean_17 rfl ⟨rfl, rfl, rfl, rfl⟩
theorem dec0 {r : Nat} {z : Int} {a : Nat} {xa : Int32} (ha : xa.toInt = (a : Int) ∧ a ≤ 9) : (if 0 < xa - (if z % (r : Int) = 0 then 1 else 0) then xa - (if z % (r : Int) = 0 then 1 else 0) else 0).toInt = ((if 0 < a ∧ z % (r : Int) = 0 then a - 1 else a : Nat) : Int) := by
  have e0 : (0 : Int32).toInt = 0 := rfl
  have e1 : (1 : Int32).toInt = 1 := rfl
  by_cases h : z % (r : Int) = 0
  · have hd : (if 0 < a ∧ z % (r : Int) = 0 then a - 1 else a) = a - 1 := by
      by_cases h0 : 0 < a
      · exact if_pos ⟨h0, h⟩
      · rw [if_neg (fun q => h0 q.1)]; omega
    rw [hd, if_pos h]
    have b : (xa - 1).toInt = (a : Int) - 1 := by rw [is' (by rw [ha.1, e1]; omega) (by rw [ha.1, e1]; omega), ha.1, e1]
    split
    · rename_i q; rw [lt32, b, e0] at q; rw [b]; omega
    · rename_i q; rw [lt32, b, e0] at q; rw [e0]; omega
  · have hd : (if 0 < a ∧ z % (r : Int) = 0 then a - 1 else a) = a := if_neg (fun q => h q.2)
    rw [hd, if_neg h, Int32.sub_zero]
    split
    · exact ha.1
    · rename_i q; rw [lt32, e0, ha.1] at q; rw [e0]; omega
set_option maxHeartbeats 4000000 in
set_option maxRecDepth 100000 in
theorem x_behind {g : GG} {I : pI} {J : pJ} {R : pR} (hy : LyX g) (hr : RfX g R) (r : Nat) (z : Int) (a c : Nat) (xa xc : Int32) (ha : xa.toInt = (a : Int) ∧ a ≤ 9) (hc : xc.toInt = (c : Int) ∧ c ≤ 9) (hlo : I (ad g P_moneys) 2 = if z % (r : Int) = 0 then 1 else 0)  : SP g mX8_behind [.ref (ad g P_moneys), .int xa, .int xc] I J R (pq (.int (I (ad g P_moneys_follows) (10 * dec r z a + c))) I J R) := by
  refine SP_of ⟨by decide, rfl⟩ (Nat.le_of_ble_eq_true rfl) ?_
  have c0 : True := trivial
  have hd := dec_le r z a
  have e0 : (0 : Int32).toInt = 0 := rfl
  have e1 : (1 : Int32).toInt = 1 := rfl
  have e10 : (10 : Int32).toInt = 10 := rfl
  have b0 : (if 0 < xa - I (ad g P_moneys) 2 then xa - I (ad g P_moneys) 2 else 0).toInt = (dec r z a : Int) := by rw [hlo]; unfold dec; exact dec0 ha
  have b1 : ((if 0 < xa - I (ad g P_moneys) 2 then xa - I (ad g P_moneys) 2 else 0) * 10).toInt = (dec r z a : Int) * 10 := by rw [im (by rw [b0, e10]; omega) (by rw [b0, e10]; omega), b0, e10]
  have b3 : ((if 0 < xa - I (ad g P_moneys) 2 then xa - I (ad g P_moneys) 2 else 0) * 10 + xc).toInt = (dec r z a : Int) * 10 + c := by rw [ia (by rw [b1, hc.1]; omega) (by rw [b1, hc.1]; omega), b1, hc.1]
  refine WP_aload_n dX8_behind_0 rfl ?_
  refine WP_getr dX8_behind_1 fX8_9 rfl (lyx_is hy _ _ rfl) (rfx hr 69 3 70 (by decide)) ?_
  refine WP_iconst (0) dX8_behind_4 rfl ?_
  refine WP_iload_n dX8_behind_5 rfl ?_
  refine WP_aload_n dX8_behind_6 rfl ?_
  refine WP_geti dX8_behind_7 fX8_15 rfl (lyx_is hy _ _ rfl) ?_
  refine WP_isub dX8_behind_10 ?_
  refine WP_max dX8_behind_11 lX8_41 ⟨by decide, Nat.le_of_ble_eq_true rfl⟩ ?_
  refine WP_bipush (10) dX8_behind_14 rfl ?_
  refine WP_imul dX8_behind_16 ?_
  refine WP_iload_n dX8_behind_17 rfl ?_
  refine WP_iadd dX8_behind_18 ?_
  refine WP_iald dX8_behind_19 (lyx_is hy _ _ rfl) (lyx_in hy _ _ rfl (vin (by rw [b3]; omega) (by rw [b3]; omega))) ?_
  exact WP_iret dX8_behind_20 rfl ⟨(by rw [cl (n := 10 * dec r z a + c) (by rw [b3]; omega)]), rfl, rfl, rfl⟩
set_option maxHeartbeats 4000000 in
set_option maxRecDepth 100000 in
theorem x_offNote {g : GG} {I : pI} {J : pJ} {R : pR} (hy : LyX g) (hr : RfX g R) (r : Nat) (z : Int) (a c : Nat) (xa xc : Int32) (ha : xa.toInt = (a : Int) ∧ a ≤ 9) (hc : xc.toInt = (c : Int) ∧ c ≤ 9) (hlo : I (ad g P_moneys) 2 = if z % (r : Int) = 0 then 1 else 0) (f : Nat → Nat → Int) (hrow : ∀ a2 c2, a2 ≤ a → c2 ≤ c → (I (ad g P_moneys_follows) (10 * a2 + c2)).toInt = f a2 c2 ∧ 0 ≤ f a2 c2 ∧ f a2 c2 ≤ 20000) (hp : 0 ≤ (I (ad g P_moneys) 0).toInt ∧ (I (ad g P_moneys) 0).toInt ≤ 100)  : SP g mX8_offeringNote [.ref (ad g P_moneys), .int xa, .int xc] I J R (fun r0 I' J' R' => ∃ x : Int32, r0 = some (.int x) ∧ x.toInt = noteV (I (ad g P_moneys) 0).toInt r z f a c ∧ I' = I ∧ J' = J ∧ R' = R) := by
  refine SP_of ⟨by decide, rfl⟩ (Nat.le_of_ble_eq_true rfl) ?_
  have c0 : True := trivial
  have e1 : (1 : Int32).toInt = 1 := rfl
  have hdl := dec_le r z a
  have h0 := hrow (dec r z a) c (by omega) (Nat.le_refl c)
  refine WP_iload_n dX8_offeringNote_0 rfl ?_
  refine WP_iconst (1) dX8_offeringNote_1 rfl ?_
  refine WP_icmp_ge 9 dX8_offeringNote_2 rfl (fun c2 => ?_) (fun c2 => ?_)
  · refine WP_aload_n dX8_offeringNote_9 rfl ?_
    refine WP_geti dX8_offeringNote_10 fX8_19 rfl (lyx_is hy _ _ rfl) ?_
    refine WP_aload_n dX8_offeringNote_13 rfl ?_
    refine WP_iload_n dX8_offeringNote_14 rfl ?_
    refine WP_iconst (1) dX8_offeringNote_15 rfl ?_
    refine WP_isub dX8_offeringNote_16 ?_
    refine WP_iload_n dX8_offeringNote_17 rfl ?_
    refine WP_callV2p (k := 8) dX8_offeringNote_18 ⟨⟨⟨by decide, by decide⟩, zX8_behind⟩, lX8_46, by decide, rfl, vX8_behind.1, vX8_behind.2⟩ (lyx_is hy _ _ rfl) (x_behind hy hr r z (a - 1) c _ _ ⟨(by rw [is' (by rw [ha.1, e1]; omega) (by rw [ha.1, e1]; omega), ha.1, e1]; rw [le32, ha.1] at c2; simp only [Int32.reduceToInt] at c2; omega), (by omega)⟩ hc hlo) (Nat.le_of_ble_eq_true rfl) ?_
    refine WP_aload_n dX8_offeringNote_21 rfl ?_
    refine WP_iload_n dX8_offeringNote_22 rfl ?_
    refine WP_iload_n dX8_offeringNote_23 rfl ?_
    refine WP_callV2p (k := 8) dX8_offeringNote_24 ⟨⟨⟨by decide, by decide⟩, zX8_behind⟩, lX8_46, by decide, rfl, vX8_behind.1, vX8_behind.2⟩ (lyx_is hy _ _ rfl) (x_behind hy hr r z a c _ _ ha hc hlo) (Nat.le_of_ble_eq_true rfl) ?_
    refine WP_callS3p dX8_offeringNote_27 ⟨⟨⟨by decide, by decide⟩, zX8_mean⟩, lX8_49, tX8_mean⟩ (x_mean hy hr _ _ _) (Nat.le_of_ble_eq_true rfl) ?_
    exact WP_iret dX8_offeringNote_30 rfl ⟨_, rfl, (by rw [le32, ha.1] at c2; simp only [Int32.reduceToInt] at c2; unfold noteV; first | (rw [if_pos (by omega)]; rfl) | (have hdl2 := dec_le r z (a - 1); have h1 := hrow (dec r z (a - 1)) c (by omega) (Nat.le_refl c); rw [mixI hp (by rw [h1.1]; exact h1.2) (by rw [h0.1]; exact h0.2), h1.1, h0.1, if_neg (by omega)])), rfl, rfl, rfl⟩
  · refine WP_iconst (-1) dX8_offeringNote_5 rfl ?_
    refine WP_goto 30 dX8_offeringNote_6 rfl ?_
    exact WP_iret dX8_offeringNote_30 rfl ⟨_, rfl, (by rw [le32, ha.1] at c2; simp only [Int32.reduceToInt] at c2; unfold noteV; first | (rw [if_pos (by omega)]; rfl) | (have hdl2 := dec_le r z (a - 1); have h1 := hrow (dec r z (a - 1)) c (by omega) (Nat.le_refl c); rw [mixI hp (by rw [h1.1]; exact h1.2) (by rw [h0.1]; exact h0.2), h1.1, h0.1, if_neg (by omega)])), rfl, rfl, rfl⟩
set_option maxHeartbeats 4000000 in
set_option maxRecDepth 100000 in
theorem x_offOther {g : GG} {I : pI} {J : pJ} {R : pR} (hy : LyX g) (hr : RfX g R) (r : Nat) (z : Int) (a c : Nat) (xa xc : Int32) (ha : xa.toInt = (a : Int) ∧ a ≤ 9) (hc : xc.toInt = (c : Int) ∧ c ≤ 9) (hlo : I (ad g P_moneys) 2 = if z % (r : Int) = 0 then 1 else 0) (f : Nat → Nat → Int) (hrow : ∀ a2 c2, a2 ≤ a → c2 ≤ c → (I (ad g P_moneys_follows) (10 * a2 + c2)).toInt = f a2 c2 ∧ 0 ≤ f a2 c2 ∧ f a2 c2 ≤ 20000) (hp : 0 ≤ (I (ad g P_moneys) 1).toInt ∧ (I (ad g P_moneys) 1).toInt ≤ 100)  : SP g mX8_offeringOther [.ref (ad g P_moneys), .int xa, .int xc] I J R (fun r0 I' J' R' => ∃ x : Int32, r0 = some (.int x) ∧ x.toInt = coinV (I (ad g P_moneys) 1).toInt r z f a c ∧ I' = I ∧ J' = J ∧ R' = R) := by
  refine SP_of ⟨by decide, rfl⟩ (Nat.le_of_ble_eq_true rfl) ?_
  have c0 : True := trivial
  have e1 : (1 : Int32).toInt = 1 := rfl
  have hdl := dec_le r z a
  have h0 := hrow (dec r z a) c (by omega) (Nat.le_refl c)
  refine WP_iload_n dX8_offeringOther_0 rfl ?_
  refine WP_iconst (1) dX8_offeringOther_1 rfl ?_
  refine WP_icmp_ge 9 dX8_offeringOther_2 rfl (fun c2 => ?_) (fun c2 => ?_)
  · refine WP_aload_n dX8_offeringOther_9 rfl ?_
    refine WP_geti dX8_offeringOther_10 fX8_22 rfl (lyx_is hy _ _ rfl) ?_
    refine WP_aload_n dX8_offeringOther_13 rfl ?_
    refine WP_iload_n dX8_offeringOther_14 rfl ?_
    refine WP_iload_n dX8_offeringOther_15 rfl ?_
    refine WP_iconst (1) dX8_offeringOther_16 rfl ?_
    refine WP_isub dX8_offeringOther_17 ?_
    refine WP_callV2p (k := 8) dX8_offeringOther_18 ⟨⟨⟨by decide, by decide⟩, zX8_behind⟩, lX8_46, by decide, rfl, vX8_behind.1, vX8_behind.2⟩ (lyx_is hy _ _ rfl) (x_behind hy hr r z a (c - 1) _ _ ha ⟨(by rw [is' (by rw [hc.1, e1]; omega) (by rw [hc.1, e1]; omega), hc.1, e1]; rw [le32, hc.1] at c2; simp only [Int32.reduceToInt] at c2; omega), (by omega)⟩ hlo) (Nat.le_of_ble_eq_true rfl) ?_
    refine WP_aload_n dX8_offeringOther_21 rfl ?_
    refine WP_iload_n dX8_offeringOther_22 rfl ?_
    refine WP_iload_n dX8_offeringOther_23 rfl ?_
    refine WP_callV2p (k := 8) dX8_offeringOther_24 ⟨⟨⟨by decide, by decide⟩, zX8_behind⟩, lX8_46, by decide, rfl, vX8_behind.1, vX8_behind.2⟩ (lyx_is hy _ _ rfl) (x_behind hy hr r z a c _ _ ha hc hlo) (Nat.le_of_ble_eq_true rfl) ?_
    refine WP_callS3p dX8_offeringOther_27 ⟨⟨⟨by decide, by decide⟩, zX8_mean⟩, lX8_49, tX8_mean⟩ (x_mean hy hr _ _ _) (Nat.le_of_ble_eq_true rfl) ?_
    exact WP_iret dX8_offeringOther_30 rfl ⟨_, rfl, (by rw [le32, hc.1] at c2; simp only [Int32.reduceToInt] at c2; unfold coinV; first | (rw [if_pos (by omega)]; rfl) | (have h1 := hrow (dec r z a) (c - 1) (by omega) (by omega); rw [mixI hp (by rw [h1.1]; exact h1.2) (by rw [h0.1]; exact h0.2), h1.1, h0.1, if_neg (by omega)])), rfl, rfl, rfl⟩
  · refine WP_iconst (-1) dX8_offeringOther_5 rfl ?_
    refine WP_goto 30 dX8_offeringOther_6 rfl ?_
    exact WP_iret dX8_offeringOther_30 rfl ⟨_, rfl, (by rw [le32, hc.1] at c2; simp only [Int32.reduceToInt] at c2; unfold coinV; first | (rw [if_pos (by omega)]; rfl) | (have h1 := hrow (dec r z a) (c - 1) (by omega) (by omega); rw [mixI hp (by rw [h1.1]; exact h1.2) (by rw [h0.1]; exact h0.2), h1.1, h0.1, if_neg (by omega)])), rfl, rfl, rfl⟩
