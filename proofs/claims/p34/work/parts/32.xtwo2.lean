theorem VV_00 (p q : Int) (r : Nat) : ∀ n, VV p q r n 0 0 = 0
  | 0 => rfl
  | n + 1 => by
    show mostV p q r ((n : Int) + 1) (VV p q r n) 0 0 = 0
    unfold mostV noteV coinV
    rw [if_pos rfl, if_pos rfl]
    decide
theorem VV_s (p q : Int) (r : Nat) {n : Nat} (hn : 1 ≤ n) (a c : Nat) : VV p q r n a c = mostV p q r (n : Int) (VV p q r (n - 1)) a c := by
  obtain ⟨s, rfl⟩ : ∃ s, n = s + 1 := ⟨n - 1, by omega⟩
  rfl
theorem most_nn {p q : Int} {r : Nat} {z : Int} {f : Nat → Nat → Int} {M : Int} (hp : 0 ≤ p ∧ p ≤ 100) (hq : 0 ≤ q ∧ q ≤ 100) (hf : ∀ a c, 0 ≤ f a c ∧ f a c ≤ M) {a c : Nat} (h : 1 ≤ a + c) : mostV p q r z f a c = max (noteV p r z f a c) (coinV q r z f a c) := by
  unfold mostV
  have h2 : 0 ≤ noteV p r z f a c ∨ 0 ≤ coinV q r z f a c := by
    by_cases ha : a = 0
    · right
      unfold coinV
      rw [if_neg (by omega)]
      exact (mixb hq (hf _ _) (hf _ _)).1
    · left
      unfold noteV
      rw [if_neg ha]
      exact (mixb hp (hf _ _) (hf _ _)).1
  omega
set_option maxHeartbeats 4000000 in
set_option maxRecDepth 100000 in
theorem x_takenAt {g : GG} {I : pI} {J : pJ} {R : pR} (hy : LyX g) (hr : RfX g R) (a b : Int32) : SP g mX8_takenAt [.ref (ad g P_moneys), .int a, .int b] I J R (pu (pp (pp I (ad g P_moneys) 0 a) (ad g P_moneys) 1 b) J R) := by
  refine SP_of ⟨by decide, rfl⟩ (Nat.le_of_ble_eq_true rfl) ?_
  have c0 : True := trivial
  refine WP_aload_n dX8_takenAt_0 rfl ?_
  refine WP_iload_n dX8_takenAt_1 rfl ?_
  refine WP_puti dX8_takenAt_2 fX8_19 rfl rfl (lyx_is hy _ _ rfl) ?_
  refine WP_aload_n dX8_takenAt_5 rfl ?_
  refine WP_iload_n dX8_takenAt_6 rfl ?_
  refine WP_puti dX8_takenAt_7 fX8_22 rfl rfl (lyx_is hy _ _ rfl) ?_
  exact WP_vret dX8_takenAt_10 rfl ⟨rfl, rfl, rfl, rfl⟩
theorem two_edge {xa xc xp xq xn xr xw : Int32} {v : Int32} (hok : ((0 ≤ xa.toInt ∧ xa.toInt ≤ 9) ∧ (0 ≤ xc.toInt ∧ xc.toInt ≤ 9) ∧ (0 ≤ xp.toInt ∧ xp.toInt ≤ 100) ∧ (0 ≤ xq.toInt ∧ xq.toInt ≤ 100) ∧ (0 ≤ xn.toInt ∧ xn.toInt ≤ 20) ∧ (1 ≤ xr.toInt ∧ xr.toInt ≤ 20) ∧ (0 ≤ xw.toInt ∧ xw.toInt ≤ 1))) (h : xn.toInt = 0 ∨ xa.toInt + xc.toInt = 0) (hw : (xw.toInt = 0 ∧ v = 0) ∨ (xw.toInt ≠ 0 ∧ v = -1)) : v.toInt = twoR xa.toInt.toNat xc.toInt.toNat xp.toInt xq.toInt xn.toInt.toNat xr.toInt.toNat xw.toInt := by
  unfold twoR
  rcases hw with ⟨h1, rfl⟩ | ⟨h1, rfl⟩
  · rw [if_pos h1]
    rcases h with h | h
    · have e : xn.toInt.toNat = 0 := by omega
      rw [e]; rfl
    · have e1 : xa.toInt.toNat = 0 := by omega
      have e2 : xc.toInt.toNat = 0 := by omega
      rw [e1, e2, VV_00]; rfl
  · rw [if_neg h1, if_pos (by omega)]; rfl
set_option maxHeartbeats 4000000 in
set_option maxRecDepth 100000 in
theorem xr_two {g : GG} {I : pI} {J : pJ} {R : pR} (hy : LyX g) (hr : RfX g R) (hf : XF g I J R) (xa xc xp xq xn xr xw : Int32) : SP g mX10_two [.ref (ad g P_x), .int xa, .int xc, .int xp, .int xq, .int xn, .int xr, .int xw] I J R (iq (twoA xa xc xp xq xn xr xw)) := by
  refine SP_of ⟨by decide, rfl⟩ (Nat.le_of_ble_eq_true rfl) ?_
  have c0 : True := trivial
  have hf0 := hf
  obtain ⟨hxc, h_length, h_kind, h_place, h_clauses, h_turns, h_days, h_chestC, h_bought, h_held, h_cost0, h_s0, h_s1, h_s2, h_spare, h_loss, h_mloss, h_stamps⟩ := hf
  have hxc0 := hxc
  obtain ⟨h_town, h_sorts, h_things, h_chest, h_stored⟩ := hxc
  refine WP_iload_n dX10_two_0 rfl ?_
  refine WP_iconst (0) dX10_two_1 rfl ?_
  refine WP_bipush (9) dX10_two_2 rfl ?_
  refine WP_callS3p dX10_two_4 ⟨⟨⟨by decide, by decide⟩, zX10_within⟩, lX10_206, tX10_within⟩ (x_within hy hr _ _ _) (Nat.le_of_ble_eq_true rfl) ?_
  refine WP_ifb_eq 41 dX10_two_7 rfl (fun c7 => ?_) (fun c7 => ?_)
  · refine WP_bipush (-2) dX10_two_41 rfl ?_
    exact WP_iret dX10_two_43 rfl ⟨_, rfl, (by simp only [Int32.reduceToInt] at c0 c7; unfold twoA; rw [if_neg (by omega)]; rfl)⟩
  · refine WP_iload_n dX10_two_10 rfl ?_
    refine WP_iconst (0) dX10_two_11 rfl ?_
    refine WP_bipush (9) dX10_two_12 rfl ?_
    refine WP_callS3p dX10_two_14 ⟨⟨⟨by decide, by decide⟩, zX10_within⟩, lX10_206, tX10_within⟩ (x_within hy hr _ _ _) (Nat.le_of_ble_eq_true rfl) ?_
    refine WP_ifb_eq 41 dX10_two_17 rfl (fun c17 => ?_) (fun c17 => ?_)
    · refine WP_bipush (-2) dX10_two_41 rfl ?_
      exact WP_iret dX10_two_43 rfl ⟨_, rfl, (by simp only [Int32.reduceToInt] at c0 c7 c17; unfold twoA; rw [if_neg (by omega)]; rfl)⟩
    · refine WP_iload_n dX10_two_20 rfl ?_
      refine WP_iconst (0) dX10_two_21 rfl ?_
      refine WP_bipush (100) dX10_two_22 rfl ?_
      refine WP_callS3p dX10_two_24 ⟨⟨⟨by decide, by decide⟩, zX10_within⟩, lX10_206, tX10_within⟩ (x_within hy hr _ _ _) (Nat.le_of_ble_eq_true rfl) ?_
      refine WP_ifb_eq 41 dX10_two_27 rfl (fun c27 => ?_) (fun c27 => ?_)
      · refine WP_bipush (-2) dX10_two_41 rfl ?_
        exact WP_iret dX10_two_43 rfl ⟨_, rfl, (by simp only [Int32.reduceToInt] at c0 c7 c17 c27; unfold twoA; rw [if_neg (by omega)]; rfl)⟩
      · refine WP_iload dX10_two_30 rfl ?_
        refine WP_iconst (0) dX10_two_32 rfl ?_
        refine WP_bipush (100) dX10_two_33 rfl ?_
        refine WP_callS3p dX10_two_35 ⟨⟨⟨by decide, by decide⟩, zX10_within⟩, lX10_206, tX10_within⟩ (x_within hy hr _ _ _) (Nat.le_of_ble_eq_true rfl) ?_
        refine WP_ifb_ne 44 dX10_two_38 rfl (fun c38 => ?_) (fun c38 => ?_)
        · refine WP_iload dX10_two_44 rfl ?_
          refine WP_iconst (0) dX10_two_46 rfl ?_
          refine WP_bipush (20) dX10_two_47 rfl ?_
          refine WP_callS3p dX10_two_49 ⟨⟨⟨by decide, by decide⟩, zX10_within⟩, lX10_206, tX10_within⟩ (x_within hy hr _ _ _) (Nat.le_of_ble_eq_true rfl) ?_
          refine WP_ifb_eq 76 dX10_two_52 rfl (fun c52 => ?_) (fun c52 => ?_)
          · refine WP_bipush (-2) dX10_two_76 rfl ?_
            exact WP_iret dX10_two_78 rfl ⟨_, rfl, (by simp only [Int32.reduceToInt] at c0 c7 c17 c27 c38 c52; unfold twoA; rw [if_neg (by omega)]; rfl)⟩
          · refine WP_iload dX10_two_55 rfl ?_
            refine WP_iconst (1) dX10_two_57 rfl ?_
            refine WP_bipush (20) dX10_two_58 rfl ?_
            refine WP_callS3p dX10_two_60 ⟨⟨⟨by decide, by decide⟩, zX10_within⟩, lX10_206, tX10_within⟩ (x_within hy hr _ _ _) (Nat.le_of_ble_eq_true rfl) ?_
            refine WP_ifb_eq 76 dX10_two_63 rfl (fun c63 => ?_) (fun c63 => ?_)
            · refine WP_bipush (-2) dX10_two_76 rfl ?_
              exact WP_iret dX10_two_78 rfl ⟨_, rfl, (by simp only [Int32.reduceToInt] at c0 c7 c17 c27 c38 c52 c63; unfold twoA; rw [if_neg (by omega)]; rfl)⟩
            · refine WP_iload dX10_two_66 rfl ?_
              refine WP_iconst (0) dX10_two_68 rfl ?_
              refine WP_iconst (1) dX10_two_69 rfl ?_
              refine WP_callS3p dX10_two_70 ⟨⟨⟨by decide, by decide⟩, zX10_within⟩, lX10_206, tX10_within⟩ (x_within hy hr _ _ _) (Nat.le_of_ble_eq_true rfl) ?_
              refine WP_ifb_ne 79 dX10_two_73 rfl (fun c73 => ?_) (fun c73 => ?_)
              · refine WP_iload dX10_two_79 rfl ?_
                refine WP_if_eq 90 dX10_two_81 rfl (fun c81 => ?_) (fun c81 => ?_)
                · refine WP_iload dX10_two_90 rfl ?_
                  refine WP_if_ne 99 dX10_two_92 rfl (fun c92 => ?_) (fun c92 => ?_)
                  · refine WP_iconst (-1) dX10_two_99 rfl ?_
                    exact WP_iret dX10_two_100 rfl ⟨_, rfl, (by simp only [Int32.reduceToInt] at c7 c17 c27 c38 c52 c63 c73; have z0 : (0 : Int32).toInt = 0 := rfl; have hok : ((0 ≤ xa.toInt ∧ xa.toInt ≤ 9) ∧ (0 ≤ xc.toInt ∧ xc.toInt ≤ 9) ∧ (0 ≤ xp.toInt ∧ xp.toInt ≤ 100) ∧ (0 ≤ xq.toInt ∧ xq.toInt ≤ 100) ∧ (0 ≤ xn.toInt ∧ xn.toInt ≤ 20) ∧ (1 ≤ xr.toInt ∧ xr.toInt ≤ 20) ∧ (0 ≤ xw.toInt ∧ xw.toInt ≤ 1)) := (by omega); unfold twoA; rw [if_pos hok]; exact two_edge hok (by first | (left; rw [eq32, z0] at c81; omega) | (right; rw [eq32, ia (by omega) (by omega), z0] at c87; omega)) (by first | (left; exact ⟨(by rw [eq32, z0] at c92; omega), rfl⟩) | (right; exact ⟨(by rw [eq32, z0] at c92; omega), rfl⟩)))⟩
                  · refine WP_iconst (0) dX10_two_95 rfl ?_
                    refine WP_goto 100 dX10_two_96 rfl ?_
                    exact WP_iret dX10_two_100 rfl ⟨_, rfl, (by simp only [Int32.reduceToInt] at c7 c17 c27 c38 c52 c63 c73; have z0 : (0 : Int32).toInt = 0 := rfl; have hok : ((0 ≤ xa.toInt ∧ xa.toInt ≤ 9) ∧ (0 ≤ xc.toInt ∧ xc.toInt ≤ 9) ∧ (0 ≤ xp.toInt ∧ xp.toInt ≤ 100) ∧ (0 ≤ xq.toInt ∧ xq.toInt ≤ 100) ∧ (0 ≤ xn.toInt ∧ xn.toInt ≤ 20) ∧ (1 ≤ xr.toInt ∧ xr.toInt ≤ 20) ∧ (0 ≤ xw.toInt ∧ xw.toInt ≤ 1)) := (by omega); unfold twoA; rw [if_pos hok]; exact two_edge hok (by first | (left; rw [eq32, z0] at c81; omega) | (right; rw [eq32, ia (by omega) (by omega), z0] at c87; omega)) (by first | (left; exact ⟨(by rw [eq32, z0] at c92; omega), rfl⟩) | (right; exact ⟨(by rw [eq32, z0] at c92; omega), rfl⟩)))⟩
                · refine WP_iload_n dX10_two_84 rfl ?_
                  refine WP_iload_n dX10_two_85 rfl ?_
                  refine WP_iadd dX10_two_86 ?_
                  refine WP_if_ne 101 dX10_two_87 rfl (fun c87 => ?_) (fun c87 => ?_)
                  · simp only [Int32.reduceToInt] at c7 c17 c27 c38 c52 c63 c73
                    have hok : ((0 ≤ xa.toInt ∧ xa.toInt ≤ 9) ∧ (0 ≤ xc.toInt ∧ xc.toInt ≤ 9) ∧ (0 ≤ xp.toInt ∧ xp.toInt ≤ 100) ∧ (0 ≤ xq.toInt ∧ xq.toInt ≤ 100) ∧ (0 ≤ xn.toInt ∧ xn.toInt ≤ 20) ∧ (1 ≤ xr.toInt ∧ xr.toInt ≤ 20) ∧ (0 ≤ xw.toInt ∧ xw.toInt ≤ 1)) := by omega
                    have hnt : (xn.toInt.toNat : Int) = xn.toInt := by omega
                    have z0 : (0 : Int32).toInt = 0 := rfl
                    have e1 : (xa + xc).toInt = xa.toInt + xc.toInt := by rw [ia (by omega) (by omega)]
                    rw [eq32, z0] at c81
                    rw [eq32, e1, z0] at c87
                    refine WP_aload_n dX10_two_101 rfl ?_
                    refine WP_getr dX10_two_102 fX10_76 rfl (lyx_is hy _ _ rfl) (rfx hr 0 8 69 (by decide)) ?_
                    refine WP_iload_n dX10_two_105 rfl ?_
                    refine WP_iload dX10_two_106 rfl ?_
                    refine WP_callV2u (k := 8) dX10_two_108 ⟨⟨⟨by decide, by decide⟩, zX8_takenAt⟩, lX10_270, by decide, rfl, vX8_takenAt.1, vX8_takenAt.2⟩ (lyx_is hy _ _ rfl) (x_takenAt hy hr _ _) (Nat.le_of_ble_eq_true rfl) ?_
                    refine WP_aload_n dX10_two_111 rfl ?_
                    refine WP_getr dX10_two_112 fX10_76 rfl (lyx_is hy _ _ rfl) (rfx hr 0 8 69 (by decide)) ?_
                    refine WP_iload_n dX10_two_115 rfl ?_
                    refine WP_iload_n dX10_two_116 rfl ?_
                    refine WP_iload dX10_two_117 rfl ?_
                    refine WP_iload dX10_two_119 rfl ?_
                    refine WP_callV4 (k := 8) dX10_two_121 ⟨⟨⟨by decide, by decide⟩, zX8_lookBack⟩, lX10_274, by decide, rfl, vX8_lookBack.1, vX8_lookBack.2⟩ (lyx_is hy _ _ rfl) (x_lookBack hy hr xa.toInt.toNat xc.toInt.toNat xn.toInt.toNat xr.toInt.toNat _ _ _ _ xp xq ⟨by omega, by omega⟩ ⟨by omega, by omega⟩ ⟨by omega, by omega, by omega⟩ ⟨by omega, by omega, by omega⟩ (by omega) (by omega) (by rw [pp_ne _ _ (Or.inr (by decide)), pp_self]) (by rw [pp_self])) (Nat.le_of_ble_eq_true rfl) ?_
                    rintro r0 I4 J4 R4 ⟨rfl, hrw, hkc, eJ4, eR4⟩
                    rw [eJ4, eR4]
                    simp only [Option.toList, List.cons_append, List.nil_append]
                    refine WP_aload_n dX10_two_124 rfl ?_
                    refine WP_getr dX10_two_125 fX10_76 rfl (lyx_is hy _ _ rfl) (rfx hr 0 8 69 (by decide)) ?_
                    refine WP_iload_n dX10_two_128 rfl ?_
                    refine WP_iload_n dX10_two_129 rfl ?_
                    refine WP_callV2 (k := 8) dX10_two_130 ⟨⟨⟨by decide, by decide⟩, zX8_offeringNote⟩, lX10_278, by decide, rfl, vX8_offeringNote.1, vX8_offeringNote.2⟩ (lyx_is hy _ _ rfl) (x_offNote hy hr xr.toInt.toNat (xn.toInt.toNat : Int) xa.toInt.toNat xc.toInt.toNat _ _ ⟨by omega, by omega⟩ ⟨by omega, by omega⟩ hkc.2.2 (VV xp.toInt xq.toInt xr.toInt.toNat (xn.toInt.toNat - 1)) (fun a2 c2 h1 h2 => by have b := VV_b (r := xr.toInt.toNat) (show 0 ≤ xp.toInt ∧ xp.toInt ≤ 100 by omega) (show 0 ≤ xq.toInt ∧ xq.toInt ≤ 100 by omega) (xn.toInt.toNat - 1) a2 c2; exact ⟨hrw a2 c2 h1 h2, b.1, by omega⟩) (by rw [hkc.1]; omega)) (Nat.le_of_ble_eq_true rfl) ?_
                    rintro r0 I5 J5 R5 ⟨xoffNote, rfl, hoffNote, eI5, eJ5, eR5⟩
                    rw [eI5, eJ5, eR5]
                    simp only [Option.toList, List.cons_append, List.nil_append]
                    refine WP_istore (ls' := [(0, _), (1, _), (2, _), (3, _), (4, _), (5, _), (6, _), (7, _), (8, _)]) dX10_two_133 (by decide) rfl ?_
                    refine WP_aload_n dX10_two_135 rfl ?_
                    refine WP_getr dX10_two_136 fX10_76 rfl (lyx_is hy _ _ rfl) (rfx hr 0 8 69 (by decide)) ?_
                    refine WP_iload_n dX10_two_139 rfl ?_
                    refine WP_iload_n dX10_two_140 rfl ?_
                    refine WP_callV2 (k := 8) dX10_two_141 ⟨⟨⟨by decide, by decide⟩, zX8_offeringOther⟩, lX10_281, by decide, rfl, vX8_offeringOther.1, vX8_offeringOther.2⟩ (lyx_is hy _ _ rfl) (x_offOther hy hr xr.toInt.toNat (xn.toInt.toNat : Int) xa.toInt.toNat xc.toInt.toNat _ _ ⟨by omega, by omega⟩ ⟨by omega, by omega⟩ hkc.2.2 (VV xp.toInt xq.toInt xr.toInt.toNat (xn.toInt.toNat - 1)) (fun a2 c2 h1 h2 => by have b := VV_b (r := xr.toInt.toNat) (show 0 ≤ xp.toInt ∧ xp.toInt ≤ 100 by omega) (show 0 ≤ xq.toInt ∧ xq.toInt ≤ 100 by omega) (xn.toInt.toNat - 1) a2 c2; exact ⟨hrw a2 c2 h1 h2, b.1, by omega⟩) (by rw [hkc.2.1]; omega)) (Nat.le_of_ble_eq_true rfl) ?_
                    rintro r0 I5 J5 R5 ⟨xoffOther, rfl, hoffOther, eI5, eJ5, eR5⟩
                    rw [eI5, eJ5, eR5]
                    simp only [Option.toList, List.cons_append, List.nil_append]
                    refine WP_istore (ls' := [(0, _), (1, _), (2, _), (3, _), (4, _), (5, _), (6, _), (7, _), (8, _), (9, _)]) dX10_two_144 (by decide) rfl ?_
                    refine WP_iload dX10_two_146 rfl ?_
                    refine WP_if_ne 159 dX10_two_148 rfl (fun c148 => ?_) (fun c148 => ?_)
                    · refine WP_iload dX10_two_159 rfl ?_
                      refine WP_iload dX10_two_161 rfl ?_
                      refine WP_icmp_lt 170 dX10_two_163 rfl (fun c163 => ?_) (fun c163 => ?_)
                      · refine WP_iconst (1) dX10_two_170 rfl ?_
                        exact WP_iret dX10_two_171 rfl ⟨_, rfl, (by rw [eq32, z0] at c148; rw [lt32] at c163; unfold twoA; rw [if_pos hok]; unfold twoR; rw [hkc.1] at hoffNote; rw [hkc.2.1] at hoffOther; rw [if_neg (by omega), if_neg (by omega), ← hoffNote, ← hoffOther]; first | (rw [if_pos (by omega)]; rfl) | (rw [if_neg (by omega)]; rfl))⟩
                      · refine WP_iconst (0) dX10_two_166 rfl ?_
                        refine WP_goto 171 dX10_two_167 rfl ?_
                        exact WP_iret dX10_two_171 rfl ⟨_, rfl, (by rw [eq32, z0] at c148; rw [lt32] at c163; unfold twoA; rw [if_pos hok]; unfold twoR; rw [hkc.1] at hoffNote; rw [hkc.2.1] at hoffOther; rw [if_neg (by omega), if_neg (by omega), ← hoffNote, ← hoffOther]; first | (rw [if_pos (by omega)]; rfl) | (rw [if_neg (by omega)]; rfl))⟩
                    · refine WP_iload dX10_two_151 rfl ?_
                      refine WP_iload dX10_two_153 rfl ?_
                      refine WP_max dX10_two_155 lX10_284 ⟨by decide, Nat.le_of_ble_eq_true rfl⟩ ?_
                      exact WP_iret dX10_two_158 rfl ⟨_, rfl, (by rw [eq32, z0] at c148; rw [hkc.1] at hoffNote; rw [hkc.2.1] at hoffOther; unfold twoA; rw [if_pos hok]; have hR : twoR xa.toInt.toNat xc.toInt.toNat xp.toInt xq.toInt xn.toInt.toNat xr.toInt.toNat xw.toInt = max xoffNote.toInt xoffOther.toInt := (by unfold twoR; rw [if_pos c148, VV_s _ _ _ (by omega), most_nn (by omega) (by omega) (fun a c => VV_b (r := xr.toInt.toNat) ⟨by omega, by omega⟩ ⟨by omega, by omega⟩ (xn.toInt.toNat - 1) a c) (by omega), ← hoffNote, ← hoffOther]); rw [hR]; split <;> (rename_i q; rw [lt32] at q; omega))⟩
                  · refine WP_iload dX10_two_90 rfl ?_
                    refine WP_if_ne 99 dX10_two_92 rfl (fun c92 => ?_) (fun c92 => ?_)
                    · refine WP_iconst (-1) dX10_two_99 rfl ?_
                      exact WP_iret dX10_two_100 rfl ⟨_, rfl, (by simp only [Int32.reduceToInt] at c7 c17 c27 c38 c52 c63 c73; have z0 : (0 : Int32).toInt = 0 := rfl; have hok : ((0 ≤ xa.toInt ∧ xa.toInt ≤ 9) ∧ (0 ≤ xc.toInt ∧ xc.toInt ≤ 9) ∧ (0 ≤ xp.toInt ∧ xp.toInt ≤ 100) ∧ (0 ≤ xq.toInt ∧ xq.toInt ≤ 100) ∧ (0 ≤ xn.toInt ∧ xn.toInt ≤ 20) ∧ (1 ≤ xr.toInt ∧ xr.toInt ≤ 20) ∧ (0 ≤ xw.toInt ∧ xw.toInt ≤ 1)) := (by omega); unfold twoA; rw [if_pos hok]; exact two_edge hok (by first | (left; rw [eq32, z0] at c81; omega) | (right; rw [eq32, ia (by omega) (by omega), z0] at c87; omega)) (by first | (left; exact ⟨(by rw [eq32, z0] at c92; omega), rfl⟩) | (right; exact ⟨(by rw [eq32, z0] at c92; omega), rfl⟩)))⟩
                    · refine WP_iconst (0) dX10_two_95 rfl ?_
                      refine WP_goto 100 dX10_two_96 rfl ?_
                      exact WP_iret dX10_two_100 rfl ⟨_, rfl, (by simp only [Int32.reduceToInt] at c7 c17 c27 c38 c52 c63 c73; have z0 : (0 : Int32).toInt = 0 := rfl; have hok : ((0 ≤ xa.toInt ∧ xa.toInt ≤ 9) ∧ (0 ≤ xc.toInt ∧ xc.toInt ≤ 9) ∧ (0 ≤ xp.toInt ∧ xp.toInt ≤ 100) ∧ (0 ≤ xq.toInt ∧ xq.toInt ≤ 100) ∧ (0 ≤ xn.toInt ∧ xn.toInt ≤ 20) ∧ (1 ≤ xr.toInt ∧ xr.toInt ≤ 20) ∧ (0 ≤ xw.toInt ∧ xw.toInt ≤ 1)) := (by omega); unfold twoA; rw [if_pos hok]; exact two_edge hok (by first | (left; rw [eq32, z0] at c81; omega) | (right; rw [eq32, ia (by omega) (by omega), z0] at c87; omega)) (by first | (left; exact ⟨(by rw [eq32, z0] at c92; omega), rfl⟩) | (right; exact ⟨(by rw [eq32, z0] at c92; omega), rfl⟩)))⟩
              · refine WP_bipush (-2) dX10_two_76 rfl ?_
                exact WP_iret dX10_two_78 rfl ⟨_, rfl, (by simp only [Int32.reduceToInt] at c0 c7 c17 c27 c38 c52 c63 c73; unfold twoA; rw [if_neg (by omega)]; rfl)⟩
        · refine WP_bipush (-2) dX10_two_41 rfl ?_
          exact WP_iret dX10_two_43 rfl ⟨_, rfl, (by simp only [Int32.reduceToInt] at c0 c7 c17 c27 c38; unfold twoA; rw [if_neg (by omega)]; rfl)⟩
