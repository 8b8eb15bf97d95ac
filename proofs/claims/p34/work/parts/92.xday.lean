set_option maxHeartbeats 4000000 in
set_option maxRecDepth 100000 in
theorem sx_buy {g : GG} {n : Int} {L : Int32} (hy : LyX g)  {I : pI} {J : pJ} {R : pR} (hr : RfX g R) (hI : XI g n L I) (th : Int32) (un : Int32) (pe : Int32) (da : Int32) (th_lo : -1 ≤ th.toInt) (th_hi : th.toInt ≤ 2) (un_lo : 0 ≤ un.toInt) (un_hi : un.toInt ≤ 3) (pe_lo : 0 ≤ pe.toInt) (pe_hi : pe.toInt ≤ 99) (da_lo : 0 ≤ da.toInt) (da_hi : da.toInt ≤ 6) : SP g mX9_buy [.ref (ad g 49), .int th, .int un, .int pe, .int da] I J R (fun r I' J' R' => (XI g n L I' ∧ R' = R ∧ fz 74 g [51, 52] I I' ∧ fz 74 g [] J J') ∧ ∃ v : Int32, r = some (.int v) ∧ 0 ≤ v.toInt ∧ v.toInt ≤ 3 ∧ v.toInt ≤ un.toInt) := by
  refine SP_of ⟨by decide, rfl⟩ (Nat.le_of_ble_eq_true rfl) ?_
  have e7792 : I (ad g 1) 1 = L := hI.2
  have b7793 := BT_get hI.1 1 1 2 (0) (0) (900) (by decide) 1 (by decide) (by decide)
  rw [e7792] at b7793
  have fr0 : fz 74 g [51, 52] I I := fz_rf
  have frj0 : fz 74 g [] J J := fz_rf
  refine WP_iload_n dX9_buy_0 rfl ?_
  refine WQ_iconst (-1) (-1) dX9_buy_1 rfl rfl (fun v7794 hv7794 => ?_)
  refine WQ_icmp_eq 10 dX9_buy_2 rfl (fun c7794 => ?_) (fun c7794 => ?_)
  · refine WQ_iconst (0) (0) dX9_buy_10 rfl rfl (fun v7796 hv7796 => ?_)
    exact WP_iret dX9_buy_11 rfl ⟨⟨hI, rfl, fr0, frj0⟩, _, rfl, by omega, by omega, by omega⟩
  · refine WP_iload_n dX9_buy_5 rfl ?_
    refine WQ_iconst (1) (1) dX9_buy_6 rfl rfl (fun v7797 hv7797 => ?_)
    refine WQ_icmp_ge 12 dX9_buy_7 rfl (fun c7797 => ?_) (fun c7797 => ?_)
    · refine WP_iload_n dX9_buy_12 rfl ?_
      refine WP_aload_n dX9_buy_13 rfl ?_
      refine WP_getr dX9_buy_14 fX9_22 rfl (lyx_is hy 49 9 rfl) (rfx hr 49 4 52 (by decide)) ?_
      refine WP_iload_n dX9_buy_17 rfl ?_
      refine WQ_iald dX9_buy_18 (lyx_is hy 52 13 rfl) (lyx_n hy 52 3 rfl) (by omega) (by omega) (fun q hq => BT_get hI.1 52 0 3 (0) (0) (1000000) (by decide) q (Nat.zero_le _) hq) (fun v7799 av7799 bv7799 ev7799 => ?_)
      refine WP_iload_n dX9_buy_19 rfl ?_
      refine WQ_idivb dX9_buy_20 (by omega) (by omega) (fun v7800 pv7800 av7800 bv7800 cv7800 => ?_)
      refine WQ_min dX9_buy_21 lX9_78 ⟨by decide, Nat.le_of_ble_eq_true rfl⟩ (fun v7801 av7801 bv7801 cv7801 => ?_)
      refine WP_istore (ls' := [(0, _), (1, _), (2, _), (3, _), (4, _), (5, _)]) dX9_buy_24 (by decide) rfl ?_
      refine WP_aload_n dX9_buy_26 rfl ?_
      refine WP_getr dX9_buy_27 fX9_22 rfl (lyx_is hy 49 9 rfl) (rfx hr 49 4 52 (by decide)) ?_
      refine WP_iload_n dX9_buy_30 rfl ?_
      refine WP_dup2 dX9_buy_31 rfl rfl ?_
      refine WQ_ialde dX9_buy_32 (lyx_is hy 52 13 rfl) (lyx_n hy 52 3 rfl) (by omega) (by omega) ev7799 ?_
      refine WP_iload dX9_buy_33 rfl ?_
      refine WP_iload_n dX9_buy_35 rfl ?_
      refine WQ_imulb (3) (99) dX9_buy_36 ⟨by omega, by omega⟩ ⟨by omega, by omega⟩ (by decide) (fun v7803 pv7803 av7803 bv7803 cv7803 => ?_)
      have k0 : v7801.toInt * pe.toInt ≤ v7800.toInt * pe.toInt := Int.mul_le_mul_of_nonneg_right (by omega) (by omega)
      refine WQ_isub dX9_buy_37 (by omega) (by omega) (fun v7804 hv7804 => ?_)
      refine WQ_iast dX9_buy_38 (lyx_is hy 52 13 rfl) (lyx_n hy 52 3 rfl) (by omega) (by omega) (fun I7805 eI7805 => ?_)
      have hI7805 : XI g n L I7805 := by rw [eI7805]; exact (xi_r hy hI (c := 52) (0) (0) (1000000) (by decide) (Or.inl (by decide)) (by decide) (by omega) (by omega))
      have e7806 : I7805 (ad g 1) 1 = L := by rw [eI7805, pp_ne _ _ (Or.inl (lyx_ne hy (by decide) (by decide) (by decide)))]; exact e7792
      have fr7807 : fz 74 g [51, 52] I I7805 := by rw [eI7805]; exact fzx_pp hy fr0 (by decide) (by decide)
      clear eI7805
      refine WP_aload_n dX9_buy_39 rfl ?_
      refine WP_getr dX9_buy_40 fX9_18 rfl (lyx_is hy 49 9 rfl) (rfx hr 49 1 51 (by decide)) ?_
      refine WP_iload_n dX9_buy_43 rfl ?_
      refine WQ_bipush (7) (7) dX9_buy_44 rfl rfl (fun v7808 hv7808 => ?_)
      refine WQ_imulk (7) dX9_buy_46 hv7808 (by omega) (by omega) (fun v7809 hv7809 => ?_)
      refine WP_iload dX9_buy_47 rfl ?_
      refine WQ_iadd dX9_buy_49 (by omega) (by omega) (fun v7810 hv7810 => ?_)
      refine WP_dup2 dX9_buy_50 rfl rfl ?_
      refine WQ_ialdu dX9_buy_51 (lyx_is hy 51 13 rfl) (lyx_n hy 51 21 rfl) (by omega) (by omega) (fun v7811 => ?_)
      refine WP_iload dX9_buy_52 rfl ?_
      refine WP_iload_n dX9_buy_54 rfl ?_
      refine WQ_imulb (3) (99) dX9_buy_55 ⟨by omega, by omega⟩ ⟨by omega, by omega⟩ (by decide) (fun v7812 pv7812 av7812 bv7812 cv7812 => ?_)
      refine WQ_iaddu dX9_buy_56 (fun v7813 => ?_)
      refine WQ_iast dX9_buy_57 (lyx_is hy 51 13 rfl) (lyx_n hy 51 21 rfl) (by omega) (by omega) (fun I7814 eI7814 => ?_)
      have hI7814 : XI g n L I7814 := by rw [eI7814]; exact (xi_r0 hy hI7805 (c := 51) (by decide) (Or.inl (by decide)) (by decide))
      have e7815 : I7814 (ad g 1) 1 = L := by rw [eI7814, pp_ne _ _ (Or.inl (lyx_ne hy (by decide) (by decide) (by decide)))]; exact e7806
      have fr7816 : fz 74 g [51, 52] I I7814 := by rw [eI7814]; exact fzx_pp hy fr7807 (by decide) (by decide)
      clear eI7814
      refine WP_iload dX9_buy_58 rfl ?_
      exact WP_iret dX9_buy_60 rfl ⟨⟨hI7814, rfl, fr7816, frj0⟩, _, rfl, by omega, by omega, by omega⟩
    · refine WQ_iconst (0) (0) dX9_buy_10 rfl rfl (fun v7817 hv7817 => ?_)
      exact WP_iret dX9_buy_11 rfl ⟨⟨hI, rfl, fr0, frj0⟩, _, rfl, by omega, by omega, by omega⟩
set_option maxHeartbeats 4000000 in
set_option maxRecDepth 100000 in
theorem sx_openChest_53_6 {g : GG} {n : Int} {L : Int32} (hy : LyX g)  {I : pI} {J : pJ} {R : pR} (hr : RfX g R) (hT : R (ad g 5) 0 = some (ad g 6)) (hI : XI g n L I)   (hn : 0 ≤ n ∧ n ≤ 40000) : SP g mX9_openChest [.ref (ad g 49), .ref (ad g 53)] I J R (fun r I' J' R' => (XI g n L I' ∧ R' = R ∧ fz 74 g [53, 55] I I' ∧ fz 74 g [] J J' ∧ (I' (ad g 53) 1).toInt ≤ (I (ad g 53) 1).toInt) ∧ r = none) := by
  refine SP_of ⟨by decide, rfl⟩ (Nat.le_of_ble_eq_true rfl) ?_
  have e7818 : I (ad g 1) 1 = L := hI.2
  have b7819 := BT_get hI.1 1 1 2 (0) (0) (900) (by decide) 1 (by decide) (by decide)
  rw [e7818] at b7819
  have fr0 : fz 74 g [53, 55] I I := fz_rf
  have frj0 : fz 74 g [] J J := fz_rf
  obtain ⟨w7820, ew7820⟩ : ∃ w : Int32, I (ad g 53) 1 = w := ⟨_, rfl⟩
  have bw7820 := BT_get hI.1 53 1 2 (0) (23760) (0) (by decide) 1 (by decide) (by decide)
  rw [ew7820] at bw7820
  refine WP_aload_n dX9_openChest_0 rfl ?_
  refine WP_getr dX9_openChest_1 fX9_25 rfl (lyx_is hy 49 9 rfl) (rfx hr 49 2 5 (by decide)) ?_
  refine WP_getr dX9_openChest_4 fX9_49 rfl (lyx_is hy 5 0 rfl) hT ?_
  refine WQ_geti dX9_openChest_7 fX9_68 rfl (lyx_is hy 6 7 rfl) (BT_get hI.1 6 3 4 (-1) (0) (3) (by decide) 3 (by decide) (by decide)) (fun v7821 ev7821 av7821 bv7821 => ?_)
  refine WP_istore_n (ls' := [(0, _), (1, _), (2, _)]) dX9_openChest_10 (by decide) rfl ?_
  refine WP_iload_n dX9_openChest_11 rfl ?_
  refine WQ_iconst (-1) (-1) dX9_openChest_12 rfl rfl (fun v7822 hv7822 => ?_)
  refine WQ_icmp_eq 32 dX9_openChest_13 rfl (fun c7822 => ?_) (fun c7822 => ?_)
  · exact WP_vret dX9_openChest_32 rfl ⟨⟨hI, rfl, fr0, frj0, (by omega)⟩, rfl⟩
  · refine WP_aload_n dX9_openChest_16 rfl ?_
    refine WP_getr dX9_openChest_17 fX9_25 rfl (lyx_is hy 49 9 rfl) (rfx hr 49 2 5 (by decide)) ?_
    refine WP_getr dX9_openChest_20 fX9_49 rfl (lyx_is hy 5 0 rfl) hT ?_
    refine WP_getr dX9_openChest_23 fX9_71 rfl (lyx_is hy 6 7 rfl) (rfx hr 6 6 8 (by decide)) ?_
    refine WP_iload_n dX9_openChest_26 rfl ?_
    refine WQ_iald dX9_openChest_27 (lyx_is hy 8 13 rfl) (lyx_n hy 8 4 rfl) (by omega) (by omega) (fun q hq => BT_get hI.1 8 0 4 (0) (0) (99) (by decide) q (Nat.zero_le _) hq) (fun v7824 av7824 bv7824 ev7824 => ?_)
    refine WQ_iconst (1) (1) dX9_openChest_28 rfl rfl (fun v7825 hv7825 => ?_)
    refine WQ_icmp_ge 33 dX9_openChest_29 rfl (fun c7825 => ?_) (fun c7825 => ?_)
    · refine WP_aload_n dX9_openChest_33 rfl ?_
      refine WP_getr dX9_openChest_34 fX9_25 rfl (lyx_is hy 49 9 rfl) (rfx hr 49 2 5 (by decide)) ?_
      refine WP_getr dX9_openChest_37 fX9_49 rfl (lyx_is hy 5 0 rfl) hT ?_
      refine WP_getr dX9_openChest_40 fX9_71 rfl (lyx_is hy 6 7 rfl) (rfx hr 6 6 8 (by decide)) ?_
      refine WP_iload_n dX9_openChest_43 rfl ?_
      refine WQ_ialde dX9_openChest_44 (lyx_is hy 8 13 rfl) (lyx_n hy 8 4 rfl) (by omega) (by omega) ev7824 ?_
      refine WP_istore_n (ls' := [(0, _), (1, _), (2, _), (3, _)]) dX9_openChest_45 (by decide) rfl ?_
      refine WP_aload_n dX9_openChest_46 rfl ?_
      refine WQ_getim dX9_openChest_47 fX9_74 rfl (lyx_is hy 53 4 rfl) ew7820 ?_
      refine WP_iload_n dX9_openChest_50 rfl ?_
      refine WQ_idivb dX9_openChest_51 (by omega) (by omega) (fun v7828 pv7828 av7828 bv7828 cv7828 => ?_)
      refine WP_istore (ls' := [(0, _), (1, _), (2, _), (3, _), (4, _)]) dX9_openChest_52 (by decide) rfl ?_
      refine WP_iload_n dX9_openChest_54 rfl ?_
      refine WQ_bipush (7) (7) dX9_openChest_55 rfl rfl (fun v7829 hv7829 => ?_)
      refine WQ_imulk (7) dX9_openChest_57 hv7829 (by omega) (by omega) (fun v7830 hv7830 => ?_)
      refine WP_istore (ls' := [(0, _), (1, _), (2, _), (3, _), (4, _), (5, _)]) dX9_openChest_58 (by decide) rfl ?_
      refine WP_aload_n dX9_openChest_60 rfl ?_
      refine WP_dup dX9_openChest_61 rfl ?_
      refine WQ_getim dX9_openChest_62 fX9_74 rfl (lyx_is hy 53 4 rfl) ew7820 ?_
      refine WP_iload dX9_openChest_65 rfl ?_
      refine WP_iload_n dX9_openChest_67 rfl ?_
      have knv7831 : 0 ≤ v7828.toInt * v7824.toInt := Int.mul_nonneg (by omega) (by omega)
      refine WQ_imulx dX9_openChest_68 (by omega) (by omega) (fun v7831 pv7831 => ?_)
      refine WQ_isub dX9_openChest_69 (by omega) (by omega) (fun v7832 hv7832 => ?_)
      refine WQ_puti dX9_openChest_70 fX9_74 rfl rfl (lyx_is hy 53 4 rfl) (fun I7833 eI7833 => ?_)
      have hI7833 : XI g n L I7833 := by rw [eI7833]; exact (xi_f hy hI (c := 53) (0) (23760) (0) (by decide) (Or.inl (by decide)) (by decide) (by omega) (by omega))
      have e7834 : I7833 (ad g 1) 1 = L := by rw [eI7833, pp_ne _ _ (Or.inl (lyx_ne hy (by decide) (by decide) (by decide)))]; exact e7818
      have e7835 : I7833 (ad g 6) 3 = v7821 := by rw [eI7833, pp_ne _ _ (Or.inl (lyx_ne hy (by decide) (by decide) (by decide)))]; exact ev7821
      have e7836 : I7833 (ad g 8) v7821.toNatClampNeg = v7824 := by rw [eI7833, pp_ne _ _ (Or.inl (lyx_ne hy (by decide) (by decide) (by decide)))]; exact ev7824
      have e7837 : I7833 (ad g 53) 1 = v7832 := by rw [eI7833, pp_self]
      have fr7838 : fz 74 g [53, 55] I I7833 := by rw [eI7833]; exact fzx_pp hy fr0 (by decide) (by decide)
      clear eI7833
      refine WP_aload_n dX9_openChest_73 rfl ?_
      refine WP_getr dX9_openChest_74 fX9_75 rfl (lyx_is hy 53 4 rfl) (rfx hr 53 5 55 (by decide)) ?_
      refine WP_iload dX9_openChest_77 rfl ?_
      refine WQ_bipush (6) (6) dX9_openChest_79 rfl rfl (fun v7839 hv7839 => ?_)
      refine WQ_iadd dX9_openChest_81 (by omega) (by omega) (fun v7840 hv7840 => ?_)
      refine WP_dup2 dX9_openChest_82 rfl rfl ?_
      refine WQ_ialdu dX9_openChest_83 (lyx_is hy 55 13 rfl) (lyx_n hy 55 28 rfl) (by omega) (by omega) (fun v7841 => ?_)
      refine WP_iload dX9_openChest_84 rfl ?_
      refine WP_iload_n dX9_openChest_86 rfl ?_
      have knv7842 : 0 ≤ v7828.toInt * v7824.toInt := Int.mul_nonneg (by omega) (by omega)
      refine WQ_imulx dX9_openChest_87 (by omega) (by omega) (fun v7842 pv7842 => ?_)
      refine WQ_iaddu dX9_openChest_88 (fun v7843 => ?_)
      refine WQ_iast dX9_openChest_89 (lyx_is hy 55 13 rfl) (lyx_n hy 55 28 rfl) (by omega) (by omega) (fun I7844 eI7844 => ?_)
      have hI7844 : XI g n L I7844 := by rw [eI7844]; exact (fa_put hy hI7833 (c := 55) (k := 6) (s := v7821.toInt.toNat) (by decide) (by omega) (by decide) (by rw [cl (n := 7 * v7821.toInt.toNat + 6) (by omega)]) (fun h => absurd h (by decide)) (fun h => absurd h (by decide)))
      have e7845 : I7844 (ad g 1) 1 = L := by rw [eI7844, pp_ne _ _ (Or.inl (lyx_ne hy (by decide) (by decide) (by decide)))]; exact e7834
      have e7846 : I7844 (ad g 6) 3 = v7821 := by rw [eI7844, pp_ne _ _ (Or.inl (lyx_ne hy (by decide) (by decide) (by decide)))]; exact e7835
      have e7847 : I7844 (ad g 8) v7821.toNatClampNeg = v7824 := by rw [eI7844, pp_ne _ _ (Or.inl (lyx_ne hy (by decide) (by decide) (by decide)))]; exact e7836
      have e7848 : I7844 (ad g 53) 1 = v7832 := by rw [eI7844, pp_ne _ _ (Or.inl (lyx_ne hy (by decide) (by decide) (by decide)))]; exact e7837
      have fr7849 : fz 74 g [53, 55] I I7844 := by rw [eI7844]; exact fzx_pp hy fr7838 (by decide) (by decide)
      clear eI7844
      refine WP_aload_n dX9_openChest_90 rfl ?_
      refine WP_getr dX9_openChest_91 fX9_75 rfl (lyx_is hy 53 4 rfl) (rfx hr 53 5 55 (by decide)) ?_
      refine WP_iload dX9_openChest_94 rfl ?_
      refine WQ_iconst (0) (0) dX9_openChest_96 rfl rfl (fun v7850 hv7850 => ?_)
      refine WQ_iadd dX9_openChest_97 (by omega) (by omega) (fun v7851 hv7851 => ?_)
      refine WQ_bipush (60) (60) dX9_openChest_98 rfl rfl (fun v7852 hv7852 => ?_)
      refine WP_aload_n dX9_openChest_100 rfl ?_
      refine WP_getr dX9_openChest_101 fX9_75 rfl (lyx_is hy 53 4 rfl) (rfx hr 53 5 55 (by decide)) ?_
      refine WP_iload dX9_openChest_104 rfl ?_
      refine WQ_iconst (0) (0) dX9_openChest_106 rfl rfl (fun v7853 hv7853 => ?_)
      refine WQ_iadd dX9_openChest_107 (by omega) (by omega) (fun v7854 hv7854 => ?_)
      refine WQ_ialdf (q := 7 * v7821.toInt.toNat) dX9_openChest_108 (lyx_is hy 55 13 rfl) (lyx_n hy 55 28 rfl) (by omega) (by omega) (by omega) (fa_get0 hI7844 (c := 55) (by decide) (by omega)) (fun v7855 av7855 bv7855 => ?_)
      refine WP_iload dX9_openChest_109 rfl ?_
      refine WQ_iadd dX9_openChest_111 (by omega) (by omega) (fun v7856 hv7856 => ?_)
      refine WQ_min dX9_openChest_112 lX9_78 ⟨by decide, Nat.le_of_ble_eq_true rfl⟩ (fun v7857 av7857 bv7857 cv7857 => ?_)
      refine WQ_iast dX9_openChest_115 (lyx_is hy 55 13 rfl) (lyx_n hy 55 28 rfl) (by omega) (by omega) (fun I7858 eI7858 => ?_)
      have hI7858 : XI g n L I7858 := by rw [eI7858]; exact (fa_put hy hI7844 (c := 55) (k := 0) (s := v7821.toInt.toNat) (by decide) (by omega) (by decide) (by rw [cl (n := 7 * v7821.toInt.toNat + 0) (by omega)]) (fun _ => by omega) (fun _ => by omega))
      have e7859 : I7858 (ad g 1) 1 = L := by rw [eI7858, pp_ne _ _ (Or.inl (lyx_ne hy (by decide) (by decide) (by decide)))]; exact e7845
      have e7860 : I7858 (ad g 6) 3 = v7821 := by rw [eI7858, pp_ne _ _ (Or.inl (lyx_ne hy (by decide) (by decide) (by decide)))]; exact e7846
      have e7861 : I7858 (ad g 8) v7821.toNatClampNeg = v7824 := by rw [eI7858, pp_ne _ _ (Or.inl (lyx_ne hy (by decide) (by decide) (by decide)))]; exact e7847
      have e7862 : I7858 (ad g 53) 1 = v7832 := by rw [eI7858, pp_ne _ _ (Or.inl (lyx_ne hy (by decide) (by decide) (by decide)))]; exact e7848
      have fr7863 : fz 74 g [53, 55] I I7858 := by rw [eI7858]; exact fzx_pp hy fr7849 (by decide) (by decide)
      clear eI7858
      exact WP_vret dX9_openChest_116 rfl ⟨⟨hI7858, rfl, fr7863, frj0, (by rw [e7862, ew7820]; omega)⟩, rfl⟩
    · exact WP_vret dX9_openChest_32 rfl ⟨⟨hI, rfl, fr0, frj0, (by omega)⟩, rfl⟩
set_option maxHeartbeats 4000000 in
set_option maxRecDepth 100000 in
theorem sx_wsleep_53_6 {g : GG} {n : Int} {L : Int32} (hy : LyX g)  {I : pI} {J : pJ} {R : pR} (hr : RfX g R) (hT : R (ad g 5) 0 = some (ad g 6)) (hI : XI g n L I) (so : Int32) (da : Int32) (co : Int32) (st : Int32) (so_lo : 0 ≤ so.toInt) (so_hi : so.toInt ≤ 3) (da_lo : 0 ≤ da.toInt) (da_hi : da.toInt ≤ 6) (co_lo : 0 ≤ co.toInt) (co_hi : co.toInt ≤ 60) (st_lo : 0 ≤ st.toInt) (st_hi : st.toInt ≤ 5) (hn : 0 ≤ n ∧ n ≤ 40000) (hb : (I (ad g 53) 1).toInt ≤ 23760 * n + 0 - 5940) : SP g mX9_sleep [.ref (ad g 49), .ref (ad g 53), .int so, .int da, .int co, .int st] I J R (fun r I' J' R' => (XI g n L I' ∧ R' = R ∧ fz 74 g [53, 55] I I' ∧ fz 74 g [] J J' ∧ (I' (ad g 53) 1).toInt ≤ (I (ad g 53) 1).toInt + 5940) ∧ r = none) := by
  refine SP_of ⟨by decide, rfl⟩ (Nat.le_of_ble_eq_true rfl) ?_
  have e7864 : I (ad g 1) 1 = L := hI.2
  have b7865 := BT_get hI.1 1 1 2 (0) (0) (900) (by decide) 1 (by decide) (by decide)
  rw [e7864] at b7865
  have fr0 : fz 74 g [53, 55] I I := fz_rf
  have frj0 : fz 74 g [] J J := fz_rf
  obtain ⟨w7866, ew7866⟩ : ∃ w : Int32, I (ad g 53) 1 = w := ⟨_, rfl⟩
  have bw7866 := BT_get hI.1 53 1 2 (0) (23760) (0) (by decide) 1 (by decide) (by decide)
  rw [ew7866] at bw7866
  rw [ew7866] at hb
  refine WP_iload_n dX9_sleep_0 rfl ?_
  refine WQ_bipush (7) (7) dX9_sleep_1 rfl rfl (fun v7867 hv7867 => ?_)
  refine WQ_imulk (7) dX9_sleep_3 hv7867 (by omega) (by omega) (fun v7868 hv7868 => ?_)
  refine WP_istore (ls' := [(0, _), (1, _), (2, _), (3, _), (4, _), (5, _), (6, _)]) dX9_sleep_4 (by decide) rfl ?_
  refine WP_aload_n dX9_sleep_6 rfl ?_
  refine WP_getr dX9_sleep_7 fX9_25 rfl (lyx_is hy 49 9 rfl) (rfx hr 49 2 5 (by decide)) ?_
  refine WP_getr dX9_sleep_10 fX9_49 rfl (lyx_is hy 5 0 rfl) hT ?_
  refine WP_getr dX9_sleep_13 fX9_71 rfl (lyx_is hy 6 7 rfl) (rfx hr 6 6 8 (by decide)) ?_
  refine WP_iload_n dX9_sleep_16 rfl ?_
  refine WQ_iald dX9_sleep_17 (lyx_is hy 8 13 rfl) (lyx_n hy 8 4 rfl) (by omega) (by omega) (fun q hq => BT_get hI.1 8 0 4 (0) (0) (99) (by decide) q (Nat.zero_le _) hq) (fun v7869 av7869 bv7869 ev7869 => ?_)
  clear ev7869
  refine WP_istore (ls' := [(0, _), (1, _), (2, _), (3, _), (4, _), (5, _), (6, _), (7, _)]) dX9_sleep_18 (by decide) rfl ?_
  refine WP_iload dX9_sleep_20 rfl ?_
  refine WP_iload dX9_sleep_22 rfl ?_
  refine WP_aload_n dX9_sleep_24 rfl ?_
  refine WP_getr dX9_sleep_25 fX9_25 rfl (lyx_is hy 49 9 rfl) (rfx hr 49 2 5 (by decide)) ?_
  refine WP_getr dX9_sleep_28 fX9_128 rfl (lyx_is hy 5 0 rfl) (rfx hr 5 2 23 (by decide)) ?_
  refine WP_iload_n dX9_sleep_31 rfl ?_
  refine WQ_iald dX9_sleep_32 (lyx_is hy 23 13 rfl) (lyx_n hy 23 7 rfl) (by omega) (by omega) (fun q hq => BT_get hI.1 23 0 7 (0) (0) (900) (by decide) q (Nat.zero_le _) hq) (fun v7870 av7870 bv7870 ev7870 => ?_)
  clear ev7870
  refine WP_callN2 dX9_sleep_33 ⟨⟨⟨by decide, by decide⟩, zX10_stampsOf⟩, lX9_131, tX10_stampsOf⟩ (sx_stampsOf hy hr hI co v7870 (by omega) (by omega) (by omega) (by omega)) (Nat.le_of_ble_eq_true rfl) ?_
  intro r Ia Ja Ra hq
  obtain ⟨⟨ea, eb, ec⟩, v7871, rfl, av7871, bv7871, cv7871⟩ := hq
  show WP _ _ _ _ (.int _ :: _) _ _ _ _
  rw [ea, eb, ec]
  clear ea eb ec Ia Ja Ra
  refine WQ_imulb (99) (999) dX9_sleep_36 ⟨by omega, by omega⟩ ⟨by omega, by omega⟩ (by decide) (fun v7872 pv7872 av7872 bv7872 cv7872 => ?_)
  refine WP_istore (ls' := [(0, _), (1, _), (2, _), (3, _), (4, _), (5, _), (6, _), (7, _), (8, _)]) dX9_sleep_37 (by decide) rfl ?_
  refine WP_aload_n dX9_sleep_39 rfl ?_
  refine WP_getr dX9_sleep_40 fX9_25 rfl (lyx_is hy 49 9 rfl) (rfx hr 49 2 5 (by decide)) ?_
  refine WP_getr dX9_sleep_43 fX9_134 rfl (lyx_is hy 5 0 rfl) (rfx hr 5 5 26 (by decide)) ?_
  refine WP_iload dX9_sleep_46 rfl ?_
  refine WQ_iald dX9_sleep_48 (lyx_is hy 26 13 rfl) (lyx_n hy 26 6 rfl) (by omega) (by omega) (fun q hq => BT_get hI.1 26 0 6 (0) (0) (5) (by decide) q (Nat.zero_le _) hq) (fun v7873 av7873 bv7873 ev7873 => ?_)
  clear ev7873
  refine WP_istore (ls' := [(0, _), (1, _), (2, _), (3, _), (4, _), (5, _), (6, _), (7, _), (8, _), (9, _)]) dX9_sleep_49 (by decide) rfl ?_
  refine WP_aload_n dX9_sleep_51 rfl ?_
  refine WP_dup dX9_sleep_52 rfl ?_
  refine WQ_getim dX9_sleep_53 fX9_74 rfl (lyx_is hy 53 4 rfl) ew7866 ?_
  refine WP_iload dX9_sleep_56 rfl ?_
  refine WQ_iadd dX9_sleep_58 (by omega) (by omega) (fun v7874 hv7874 => ?_)
  refine WQ_puti dX9_sleep_59 fX9_74 rfl rfl (lyx_is hy 53 4 rfl) (fun I7875 eI7875 => ?_)
  have hI7875 : XI g n L I7875 := by rw [eI7875]; exact (xi_f hy hI (c := 53) (0) (23760) (0) (by decide) (Or.inl (by decide)) (by decide) (by omega) (by omega))
  have e7876 : I7875 (ad g 1) 1 = L := by rw [eI7875, pp_ne _ _ (Or.inl (lyx_ne hy (by decide) (by decide) (by decide)))]; exact e7864
  have e7877 : I7875 (ad g 53) 1 = v7874 := by rw [eI7875, pp_self]
  have fr7878 : fz 74 g [53, 55] I I7875 := by rw [eI7875]; exact fzx_pp hy fr0 (by decide) (by decide)
  clear eI7875
  refine WP_aload_n dX9_sleep_62 rfl ?_
  refine WP_getr dX9_sleep_63 fX9_75 rfl (lyx_is hy 53 4 rfl) (rfx hr 53 5 55 (by decide)) ?_
  refine WP_iload dX9_sleep_66 rfl ?_
  refine WQ_iconst (3) (3) dX9_sleep_68 rfl rfl (fun v7879 hv7879 => ?_)
  refine WQ_iadd dX9_sleep_69 (by omega) (by omega) (fun v7880 hv7880 => ?_)
  refine WP_dup2 dX9_sleep_70 rfl rfl ?_
  refine WQ_ialdu dX9_sleep_71 (lyx_is hy 55 13 rfl) (lyx_n hy 55 28 rfl) (by omega) (by omega) (fun v7881 => ?_)
  refine WP_iload dX9_sleep_72 rfl ?_
  refine WQ_iaddu dX9_sleep_74 (fun v7882 => ?_)
  refine WQ_iast dX9_sleep_75 (lyx_is hy 55 13 rfl) (lyx_n hy 55 28 rfl) (by omega) (by omega) (fun I7883 eI7883 => ?_)
  have hI7883 : XI g n L I7883 := by rw [eI7883]; exact (fa_put hy hI7875 (c := 55) (k := 3) (s := so.toInt.toNat) (by decide) (by omega) (by decide) (by rw [cl (n := 7 * so.toInt.toNat + 3) (by omega)]) (fun h => absurd h (by decide)) (fun h => absurd h (by decide)))
  have e7884 : I7883 (ad g 1) 1 = L := by rw [eI7883, pp_ne _ _ (Or.inl (lyx_ne hy (by decide) (by decide) (by decide)))]; exact e7876
  have e7885 : I7883 (ad g 53) 1 = v7874 := by rw [eI7883, pp_ne _ _ (Or.inl (lyx_ne hy (by decide) (by decide) (by decide)))]; exact e7877
  have fr7886 : fz 74 g [53, 55] I I7883 := by rw [eI7883]; exact fzx_pp hy fr7878 (by decide) (by decide)
  clear eI7883
  refine WP_aload_n dX9_sleep_76 rfl ?_
  refine WP_getr dX9_sleep_77 fX9_75 rfl (lyx_is hy 53 4 rfl) (rfx hr 53 5 55 (by decide)) ?_
  refine WP_iload dX9_sleep_80 rfl ?_
  refine WQ_iconst (5) (5) dX9_sleep_82 rfl rfl (fun v7887 hv7887 => ?_)
  refine WQ_iadd dX9_sleep_83 (by omega) (by omega) (fun v7888 hv7888 => ?_)
  refine WP_dup2 dX9_sleep_84 rfl rfl ?_
  refine WQ_ialdu dX9_sleep_85 (lyx_is hy 55 13 rfl) (lyx_n hy 55 28 rfl) (by omega) (by omega) (fun v7889 => ?_)
  refine WP_iload dX9_sleep_86 rfl ?_
  refine WP_iload dX9_sleep_88 rfl ?_
  refine WP_iload dX9_sleep_90 rfl ?_
  refine WQ_isub dX9_sleep_92 (by omega) (by omega) (fun v7890 hv7890 => ?_)
  refine WQ_imulu dX9_sleep_93 (fun v7891 => ?_)
  refine WQ_iaddu dX9_sleep_94 (fun v7892 => ?_)
  refine WQ_iast dX9_sleep_95 (lyx_is hy 55 13 rfl) (lyx_n hy 55 28 rfl) (by omega) (by omega) (fun I7893 eI7893 => ?_)
  have hI7893 : XI g n L I7893 := by rw [eI7893]; exact (fa_put hy hI7883 (c := 55) (k := 5) (s := so.toInt.toNat) (by decide) (by omega) (by decide) (by rw [cl (n := 7 * so.toInt.toNat + 5) (by omega)]) (fun h => absurd h (by decide)) (fun h => absurd h (by decide)))
  have e7894 : I7893 (ad g 1) 1 = L := by rw [eI7893, pp_ne _ _ (Or.inl (lyx_ne hy (by decide) (by decide) (by decide)))]; exact e7884
  have e7895 : I7893 (ad g 53) 1 = v7874 := by rw [eI7893, pp_ne _ _ (Or.inl (lyx_ne hy (by decide) (by decide) (by decide)))]; exact e7885
  have fr7896 : fz 74 g [53, 55] I I7893 := by rw [eI7893]; exact fzx_pp hy fr7886 (by decide) (by decide)
  clear eI7893
  refine WP_aload_n dX9_sleep_96 rfl ?_
  refine WP_getr dX9_sleep_97 fX9_75 rfl (lyx_is hy 53 4 rfl) (rfx hr 53 5 55 (by decide)) ?_
  refine WP_iload dX9_sleep_100 rfl ?_
  refine WQ_iconst (0) (0) dX9_sleep_102 rfl rfl (fun v7897 hv7897 => ?_)
  refine WQ_iadd dX9_sleep_103 (by omega) (by omega) (fun v7898 hv7898 => ?_)
  refine WP_aload_n dX9_sleep_104 rfl ?_
  refine WP_getr dX9_sleep_105 fX9_25 rfl (lyx_is hy 49 9 rfl) (rfx hr 49 2 5 (by decide)) ?_
  refine WP_iload dX9_sleep_108 rfl ?_
  refine WP_iload dX9_sleep_110 rfl ?_
  refine WP_iload_n dX9_sleep_112 rfl ?_
  refine WP_callV3 (k := 0) dX9_sleep_113 ⟨⟨⟨by decide, by decide⟩, zX0_coinsBehind⟩, lX9_137, by decide, rfl, vX0_coinsBehind.1, vX0_coinsBehind.2⟩ (lyx_is hy 5 0 rfl) (sx_coinsBehind hy hr hI7893 co st da (by omega) (by omega) (by omega) (by omega) (by omega) (by omega)) (Nat.le_of_ble_eq_true rfl) ?_
  intro r Ia Ja Ra hq
  obtain ⟨⟨ea, eb, ec⟩, v7899, rfl, av7899, bv7899⟩ := hq
  show WP _ _ _ _ (.int _ :: _) _ _ _ _
  rw [ea, eb, ec]
  clear ea eb ec Ia Ja Ra
  refine WQ_iast dX9_sleep_116 (lyx_is hy 55 13 rfl) (lyx_n hy 55 28 rfl) (by omega) (by omega) (fun I7900 eI7900 => ?_)
  have hI7900 : XI g n L I7900 := by rw [eI7900]; exact (fa_put hy hI7893 (c := 55) (k := 0) (s := so.toInt.toNat) (by decide) (by omega) (by decide) (by rw [cl (n := 7 * so.toInt.toNat + 0) (by omega)]) (fun _ => by omega) (fun _ => by omega))
  have e7901 : I7900 (ad g 1) 1 = L := by rw [eI7900, pp_ne _ _ (Or.inl (lyx_ne hy (by decide) (by decide) (by decide)))]; exact e7894
  have e7902 : I7900 (ad g 53) 1 = v7874 := by rw [eI7900, pp_ne _ _ (Or.inl (lyx_ne hy (by decide) (by decide) (by decide)))]; exact e7895
  have fr7903 : fz 74 g [53, 55] I I7900 := by rw [eI7900]; exact fzx_pp hy fr7896 (by decide) (by decide)
  clear eI7900
  refine WP_aload_n dX9_sleep_117 rfl ?_
  refine WP_getr dX9_sleep_118 fX9_75 rfl (lyx_is hy 53 4 rfl) (rfx hr 53 5 55 (by decide)) ?_
  refine WP_iload dX9_sleep_121 rfl ?_
  refine WQ_iconst (1) (1) dX9_sleep_123 rfl rfl (fun v7904 hv7904 => ?_)
  refine WQ_iadd dX9_sleep_124 (by omega) (by omega) (fun v7905 hv7905 => ?_)
  refine WP_iload dX9_sleep_125 rfl ?_
  refine WQ_iast dX9_sleep_127 (lyx_is hy 55 13 rfl) (lyx_n hy 55 28 rfl) (by omega) (by omega) (fun I7906 eI7906 => ?_)
  have hI7906 : XI g n L I7906 := by rw [eI7906]; exact (fa_put hy hI7900 (c := 55) (k := 1) (s := so.toInt.toNat) (by decide) (by omega) (by decide) (by rw [cl (n := 7 * so.toInt.toNat + 1) (by omega)]) (fun _ => by omega) (fun _ => by omega))
  have e7907 : I7906 (ad g 1) 1 = L := by rw [eI7906, pp_ne _ _ (Or.inl (lyx_ne hy (by decide) (by decide) (by decide)))]; exact e7901
  have e7908 : I7906 (ad g 53) 1 = v7874 := by rw [eI7906, pp_ne _ _ (Or.inl (lyx_ne hy (by decide) (by decide) (by decide)))]; exact e7902
  have fr7909 : fz 74 g [53, 55] I I7906 := by rw [eI7906]; exact fzx_pp hy fr7903 (by decide) (by decide)
  clear eI7906
  exact WP_vret dX9_sleep_128 rfl ⟨⟨hI7906, rfl, fr7909, frj0, (by rw [e7908, ew7866]; omega)⟩, rfl⟩
set_option maxHeartbeats 4000000 in
set_option maxRecDepth 100000 in
theorem sx_openChest_53_27 {g : GG} {n : Int} {L : Int32} (hy : LyX g)  {I : pI} {J : pJ} {R : pR} (hr : RfX g R) (hT : R (ad g 5) 0 = some (ad g 27)) (hI : XI g n L I)   (hn : 0 ≤ n ∧ n ≤ 40000) : SP g mX9_openChest [.ref (ad g 49), .ref (ad g 53)] I J R (fun r I' J' R' => (XI g n L I' ∧ R' = R ∧ fz 74 g [53, 55] I I' ∧ fz 74 g [] J J' ∧ (I' (ad g 53) 1).toInt ≤ (I (ad g 53) 1).toInt) ∧ r = none) := by
  refine SP_of ⟨by decide, rfl⟩ (Nat.le_of_ble_eq_true rfl) ?_
  have e7910 : I (ad g 1) 1 = L := hI.2
  have b7911 := BT_get hI.1 1 1 2 (0) (0) (900) (by decide) 1 (by decide) (by decide)
  rw [e7910] at b7911
  have fr0 : fz 74 g [53, 55] I I := fz_rf
  have frj0 : fz 74 g [] J J := fz_rf
  obtain ⟨w7912, ew7912⟩ : ∃ w : Int32, I (ad g 53) 1 = w := ⟨_, rfl⟩
  have bw7912 := BT_get hI.1 53 1 2 (0) (23760) (0) (by decide) 1 (by decide) (by decide)
  rw [ew7912] at bw7912
  refine WP_aload_n dX9_openChest_0 rfl ?_
  refine WP_getr dX9_openChest_1 fX9_25 rfl (lyx_is hy 49 9 rfl) (rfx hr 49 2 5 (by decide)) ?_
  refine WP_getr dX9_openChest_4 fX9_49 rfl (lyx_is hy 5 0 rfl) hT ?_
  refine WQ_geti dX9_openChest_7 fX9_68 rfl (lyx_is hy 27 7 rfl) (BT_get hI.1 27 3 4 (-1) (0) (3) (by decide) 3 (by decide) (by decide)) (fun v7913 ev7913 av7913 bv7913 => ?_)
  refine WP_istore_n (ls' := [(0, _), (1, _), (2, _)]) dX9_openChest_10 (by decide) rfl ?_
  refine WP_iload_n dX9_openChest_11 rfl ?_
  refine WQ_iconst (-1) (-1) dX9_openChest_12 rfl rfl (fun v7914 hv7914 => ?_)
  refine WQ_icmp_eq 32 dX9_openChest_13 rfl (fun c7914 => ?_) (fun c7914 => ?_)
  · exact WP_vret dX9_openChest_32 rfl ⟨⟨hI, rfl, fr0, frj0, (by omega)⟩, rfl⟩
  · refine WP_aload_n dX9_openChest_16 rfl ?_
    refine WP_getr dX9_openChest_17 fX9_25 rfl (lyx_is hy 49 9 rfl) (rfx hr 49 2 5 (by decide)) ?_
    refine WP_getr dX9_openChest_20 fX9_49 rfl (lyx_is hy 5 0 rfl) hT ?_
    refine WP_getr dX9_openChest_23 fX9_71 rfl (lyx_is hy 27 7 rfl) (rfx hr 27 6 29 (by decide)) ?_
    refine WP_iload_n dX9_openChest_26 rfl ?_
    refine WQ_iald dX9_openChest_27 (lyx_is hy 29 13 rfl) (lyx_n hy 29 4 rfl) (by omega) (by omega) (fun q hq => BT_get hI.1 29 0 4 (0) (0) (99) (by decide) q (Nat.zero_le _) hq) (fun v7916 av7916 bv7916 ev7916 => ?_)
    refine WQ_iconst (1) (1) dX9_openChest_28 rfl rfl (fun v7917 hv7917 => ?_)
    refine WQ_icmp_ge 33 dX9_openChest_29 rfl (fun c7917 => ?_) (fun c7917 => ?_)
    · refine WP_aload_n dX9_openChest_33 rfl ?_
      refine WP_getr dX9_openChest_34 fX9_25 rfl (lyx_is hy 49 9 rfl) (rfx hr 49 2 5 (by decide)) ?_
      refine WP_getr dX9_openChest_37 fX9_49 rfl (lyx_is hy 5 0 rfl) hT ?_
      refine WP_getr dX9_openChest_40 fX9_71 rfl (lyx_is hy 27 7 rfl) (rfx hr 27 6 29 (by decide)) ?_
      refine WP_iload_n dX9_openChest_43 rfl ?_
      refine WQ_ialde dX9_openChest_44 (lyx_is hy 29 13 rfl) (lyx_n hy 29 4 rfl) (by omega) (by omega) ev7916 ?_
      refine WP_istore_n (ls' := [(0, _), (1, _), (2, _), (3, _)]) dX9_openChest_45 (by decide) rfl ?_
      refine WP_aload_n dX9_openChest_46 rfl ?_
      refine WQ_getim dX9_openChest_47 fX9_74 rfl (lyx_is hy 53 4 rfl) ew7912 ?_
      refine WP_iload_n dX9_openChest_50 rfl ?_
      refine WQ_idivb dX9_openChest_51 (by omega) (by omega) (fun v7920 pv7920 av7920 bv7920 cv7920 => ?_)
      refine WP_istore (ls' := [(0, _), (1, _), (2, _), (3, _), (4, _)]) dX9_openChest_52 (by decide) rfl ?_
      refine WP_iload_n dX9_openChest_54 rfl ?_
      refine WQ_bipush (7) (7) dX9_openChest_55 rfl rfl (fun v7921 hv7921 => ?_)
      refine WQ_imulk (7) dX9_openChest_57 hv7921 (by omega) (by omega) (fun v7922 hv7922 => ?_)
      refine WP_istore (ls' := [(0, _), (1, _), (2, _), (3, _), (4, _), (5, _)]) dX9_openChest_58 (by decide) rfl ?_
      refine WP_aload_n dX9_openChest_60 rfl ?_
      refine WP_dup dX9_openChest_61 rfl ?_
      refine WQ_getim dX9_openChest_62 fX9_74 rfl (lyx_is hy 53 4 rfl) ew7912 ?_
      refine WP_iload dX9_openChest_65 rfl ?_
      refine WP_iload_n dX9_openChest_67 rfl ?_
      have knv7923 : 0 ≤ v7920.toInt * v7916.toInt := Int.mul_nonneg (by omega) (by omega)
      refine WQ_imulx dX9_openChest_68 (by omega) (by omega) (fun v7923 pv7923 => ?_)
      refine WQ_isub dX9_openChest_69 (by omega) (by omega) (fun v7924 hv7924 => ?_)
      refine WQ_puti dX9_openChest_70 fX9_74 rfl rfl (lyx_is hy 53 4 rfl) (fun I7925 eI7925 => ?_)
      have hI7925 : XI g n L I7925 := by rw [eI7925]; exact (xi_f hy hI (c := 53) (0) (23760) (0) (by decide) (Or.inl (by decide)) (by decide) (by omega) (by omega))
      have e7926 : I7925 (ad g 1) 1 = L := by rw [eI7925, pp_ne _ _ (Or.inl (lyx_ne hy (by decide) (by decide) (by decide)))]; exact e7910
      have e7927 : I7925 (ad g 27) 3 = v7913 := by rw [eI7925, pp_ne _ _ (Or.inl (lyx_ne hy (by decide) (by decide) (by decide)))]; exact ev7913
      have e7928 : I7925 (ad g 29) v7913.toNatClampNeg = v7916 := by rw [eI7925, pp_ne _ _ (Or.inl (lyx_ne hy (by decide) (by decide) (by decide)))]; exact ev7916
      have e7929 : I7925 (ad g 53) 1 = v7924 := by rw [eI7925, pp_self]
      have fr7930 : fz 74 g [53, 55] I I7925 := by rw [eI7925]; exact fzx_pp hy fr0 (by decide) (by decide)
      clear eI7925
      refine WP_aload_n dX9_openChest_73 rfl ?_
      refine WP_getr dX9_openChest_74 fX9_75 rfl (lyx_is hy 53 4 rfl) (rfx hr 53 5 55 (by decide)) ?_
      refine WP_iload dX9_openChest_77 rfl ?_
      refine WQ_bipush (6) (6) dX9_openChest_79 rfl rfl (fun v7931 hv7931 => ?_)
      refine WQ_iadd dX9_openChest_81 (by omega) (by omega) (fun v7932 hv7932 => ?_)
      refine WP_dup2 dX9_openChest_82 rfl rfl ?_
      refine WQ_ialdu dX9_openChest_83 (lyx_is hy 55 13 rfl) (lyx_n hy 55 28 rfl) (by omega) (by omega) (fun v7933 => ?_)
      refine WP_iload dX9_openChest_84 rfl ?_
      refine WP_iload_n dX9_openChest_86 rfl ?_
      have knv7934 : 0 ≤ v7920.toInt * v7916.toInt := Int.mul_nonneg (by omega) (by omega)
      refine WQ_imulx dX9_openChest_87 (by omega) (by omega) (fun v7934 pv7934 => ?_)
      refine WQ_iaddu dX9_openChest_88 (fun v7935 => ?_)
      refine WQ_iast dX9_openChest_89 (lyx_is hy 55 13 rfl) (lyx_n hy 55 28 rfl) (by omega) (by omega) (fun I7936 eI7936 => ?_)
      have hI7936 : XI g n L I7936 := by rw [eI7936]; exact (fa_put hy hI7925 (c := 55) (k := 6) (s := v7913.toInt.toNat) (by decide) (by omega) (by decide) (by rw [cl (n := 7 * v7913.toInt.toNat + 6) (by omega)]) (fun h => absurd h (by decide)) (fun h => absurd h (by decide)))
      have e7937 : I7936 (ad g 1) 1 = L := by rw [eI7936, pp_ne _ _ (Or.inl (lyx_ne hy (by decide) (by decide) (by decide)))]; exact e7926
      have e7938 : I7936 (ad g 27) 3 = v7913 := by rw [eI7936, pp_ne _ _ (Or.inl (lyx_ne hy (by decide) (by decide) (by decide)))]; exact e7927
      have e7939 : I7936 (ad g 29) v7913.toNatClampNeg = v7916 := by rw [eI7936, pp_ne _ _ (Or.inl (lyx_ne hy (by decide) (by decide) (by decide)))]; exact e7928
      have e7940 : I7936 (ad g 53) 1 = v7924 := by rw [eI7936, pp_ne _ _ (Or.inl (lyx_ne hy (by decide) (by decide) (by decide)))]; exact e7929
      have fr7941 : fz 74 g [53, 55] I I7936 := by rw [eI7936]; exact fzx_pp hy fr7930 (by decide) (by decide)
      clear eI7936
      refine WP_aload_n dX9_openChest_90 rfl ?_
      refine WP_getr dX9_openChest_91 fX9_75 rfl (lyx_is hy 53 4 rfl) (rfx hr 53 5 55 (by decide)) ?_
      refine WP_iload dX9_openChest_94 rfl ?_
      refine WQ_iconst (0) (0) dX9_openChest_96 rfl rfl (fun v7942 hv7942 => ?_)
      refine WQ_iadd dX9_openChest_97 (by omega) (by omega) (fun v7943 hv7943 => ?_)
      refine WQ_bipush (60) (60) dX9_openChest_98 rfl rfl (fun v7944 hv7944 => ?_)
      refine WP_aload_n dX9_openChest_100 rfl ?_
      refine WP_getr dX9_openChest_101 fX9_75 rfl (lyx_is hy 53 4 rfl) (rfx hr 53 5 55 (by decide)) ?_
      refine WP_iload dX9_openChest_104 rfl ?_
      refine WQ_iconst (0) (0) dX9_openChest_106 rfl rfl (fun v7945 hv7945 => ?_)
      refine WQ_iadd dX9_openChest_107 (by omega) (by omega) (fun v7946 hv7946 => ?_)
      refine WQ_ialdf (q := 7 * v7913.toInt.toNat) dX9_openChest_108 (lyx_is hy 55 13 rfl) (lyx_n hy 55 28 rfl) (by omega) (by omega) (by omega) (fa_get0 hI7936 (c := 55) (by decide) (by omega)) (fun v7947 av7947 bv7947 => ?_)
      refine WP_iload dX9_openChest_109 rfl ?_
      refine WQ_iadd dX9_openChest_111 (by omega) (by omega) (fun v7948 hv7948 => ?_)
      refine WQ_min dX9_openChest_112 lX9_78 ⟨by decide, Nat.le_of_ble_eq_true rfl⟩ (fun v7949 av7949 bv7949 cv7949 => ?_)
      refine WQ_iast dX9_openChest_115 (lyx_is hy 55 13 rfl) (lyx_n hy 55 28 rfl) (by omega) (by omega) (fun I7950 eI7950 => ?_)
      have hI7950 : XI g n L I7950 := by rw [eI7950]; exact (fa_put hy hI7936 (c := 55) (k := 0) (s := v7913.toInt.toNat) (by decide) (by omega) (by decide) (by rw [cl (n := 7 * v7913.toInt.toNat + 0) (by omega)]) (fun _ => by omega) (fun _ => by omega))
      have e7951 : I7950 (ad g 1) 1 = L := by rw [eI7950, pp_ne _ _ (Or.inl (lyx_ne hy (by decide) (by decide) (by decide)))]; exact e7937
      have e7952 : I7950 (ad g 27) 3 = v7913 := by rw [eI7950, pp_ne _ _ (Or.inl (lyx_ne hy (by decide) (by decide) (by decide)))]; exact e7938
      have e7953 : I7950 (ad g 29) v7913.toNatClampNeg = v7916 := by rw [eI7950, pp_ne _ _ (Or.inl (lyx_ne hy (by decide) (by decide) (by decide)))]; exact e7939
      have e7954 : I7950 (ad g 53) 1 = v7924 := by rw [eI7950, pp_ne _ _ (Or.inl (lyx_ne hy (by decide) (by decide) (by decide)))]; exact e7940
      have fr7955 : fz 74 g [53, 55] I I7950 := by rw [eI7950]; exact fzx_pp hy fr7941 (by decide) (by decide)
      clear eI7950
      exact WP_vret dX9_openChest_116 rfl ⟨⟨hI7950, rfl, fr7955, frj0, (by rw [e7954, ew7912]; omega)⟩, rfl⟩
    · exact WP_vret dX9_openChest_32 rfl ⟨⟨hI, rfl, fr0, frj0, (by omega)⟩, rfl⟩
set_option maxHeartbeats 4000000 in
set_option maxRecDepth 100000 in
theorem sx_wsleep_53_27 {g : GG} {n : Int} {L : Int32} (hy : LyX g)  {I : pI} {J : pJ} {R : pR} (hr : RfX g R) (hT : R (ad g 5) 0 = some (ad g 27)) (hI : XI g n L I) (so : Int32) (da : Int32) (co : Int32) (st : Int32) (so_lo : 0 ≤ so.toInt) (so_hi : so.toInt ≤ 3) (da_lo : 0 ≤ da.toInt) (da_hi : da.toInt ≤ 6) (co_lo : 0 ≤ co.toInt) (co_hi : co.toInt ≤ 60) (st_lo : 0 ≤ st.toInt) (st_hi : st.toInt ≤ 5) (hn : 0 ≤ n ∧ n ≤ 40000) (hb : (I (ad g 53) 1).toInt ≤ 23760 * n + 0 - 5940) : SP g mX9_sleep [.ref (ad g 49), .ref (ad g 53), .int so, .int da, .int co, .int st] I J R (fun r I' J' R' => (XI g n L I' ∧ R' = R ∧ fz 74 g [53, 55] I I' ∧ fz 74 g [] J J' ∧ (I' (ad g 53) 1).toInt ≤ (I (ad g 53) 1).toInt + 5940) ∧ r = none) := by
  refine SP_of ⟨by decide, rfl⟩ (Nat.le_of_ble_eq_true rfl) ?_
  have e7956 : I (ad g 1) 1 = L := hI.2
  have b7957 := BT_get hI.1 1 1 2 (0) (0) (900) (by decide) 1 (by decide) (by decide)
  rw [e7956] at b7957
  have fr0 : fz 74 g [53, 55] I I := fz_rf
  have frj0 : fz 74 g [] J J := fz_rf
  obtain ⟨w7958, ew7958⟩ : ∃ w : Int32, I (ad g 53) 1 = w := ⟨_, rfl⟩
  have bw7958 := BT_get hI.1 53 1 2 (0) (23760) (0) (by decide) 1 (by decide) (by decide)
  rw [ew7958] at bw7958
  rw [ew7958] at hb
  refine WP_iload_n dX9_sleep_0 rfl ?_
  refine WQ_bipush (7) (7) dX9_sleep_1 rfl rfl (fun v7959 hv7959 => ?_)
  refine WQ_imulk (7) dX9_sleep_3 hv7959 (by omega) (by omega) (fun v7960 hv7960 => ?_)
  refine WP_istore (ls' := [(0, _), (1, _), (2, _), (3, _), (4, _), (5, _), (6, _)]) dX9_sleep_4 (by decide) rfl ?_
  refine WP_aload_n dX9_sleep_6 rfl ?_
  refine WP_getr dX9_sleep_7 fX9_25 rfl (lyx_is hy 49 9 rfl) (rfx hr 49 2 5 (by decide)) ?_
  refine WP_getr dX9_sleep_10 fX9_49 rfl (lyx_is hy 5 0 rfl) hT ?_
  refine WP_getr dX9_sleep_13 fX9_71 rfl (lyx_is hy 27 7 rfl) (rfx hr 27 6 29 (by decide)) ?_
  refine WP_iload_n dX9_sleep_16 rfl ?_
  refine WQ_iald dX9_sleep_17 (lyx_is hy 29 13 rfl) (lyx_n hy 29 4 rfl) (by omega) (by omega) (fun q hq => BT_get hI.1 29 0 4 (0) (0) (99) (by decide) q (Nat.zero_le _) hq) (fun v7961 av7961 bv7961 ev7961 => ?_)
  clear ev7961
  refine WP_istore (ls' := [(0, _), (1, _), (2, _), (3, _), (4, _), (5, _), (6, _), (7, _)]) dX9_sleep_18 (by decide) rfl ?_
  refine WP_iload dX9_sleep_20 rfl ?_
  refine WP_iload dX9_sleep_22 rfl ?_
  refine WP_aload_n dX9_sleep_24 rfl ?_
  refine WP_getr dX9_sleep_25 fX9_25 rfl (lyx_is hy 49 9 rfl) (rfx hr 49 2 5 (by decide)) ?_
  refine WP_getr dX9_sleep_28 fX9_128 rfl (lyx_is hy 5 0 rfl) (rfx hr 5 2 23 (by decide)) ?_
  refine WP_iload_n dX9_sleep_31 rfl ?_
  refine WQ_iald dX9_sleep_32 (lyx_is hy 23 13 rfl) (lyx_n hy 23 7 rfl) (by omega) (by omega) (fun q hq => BT_get hI.1 23 0 7 (0) (0) (900) (by decide) q (Nat.zero_le _) hq) (fun v7962 av7962 bv7962 ev7962 => ?_)
  clear ev7962
  refine WP_callN2 dX9_sleep_33 ⟨⟨⟨by decide, by decide⟩, zX10_stampsOf⟩, lX9_131, tX10_stampsOf⟩ (sx_stampsOf hy hr hI co v7962 (by omega) (by omega) (by omega) (by omega)) (Nat.le_of_ble_eq_true rfl) ?_
  intro r Ia Ja Ra hq
  obtain ⟨⟨ea, eb, ec⟩, v7963, rfl, av7963, bv7963, cv7963⟩ := hq
  show WP _ _ _ _ (.int _ :: _) _ _ _ _
  rw [ea, eb, ec]
  clear ea eb ec Ia Ja Ra
  refine WQ_imulb (99) (999) dX9_sleep_36 ⟨by omega, by omega⟩ ⟨by omega, by omega⟩ (by decide) (fun v7964 pv7964 av7964 bv7964 cv7964 => ?_)
  refine WP_istore (ls' := [(0, _), (1, _), (2, _), (3, _), (4, _), (5, _), (6, _), (7, _), (8, _)]) dX9_sleep_37 (by decide) rfl ?_
  refine WP_aload_n dX9_sleep_39 rfl ?_
  refine WP_getr dX9_sleep_40 fX9_25 rfl (lyx_is hy 49 9 rfl) (rfx hr 49 2 5 (by decide)) ?_
  refine WP_getr dX9_sleep_43 fX9_134 rfl (lyx_is hy 5 0 rfl) (rfx hr 5 5 26 (by decide)) ?_
  refine WP_iload dX9_sleep_46 rfl ?_
  refine WQ_iald dX9_sleep_48 (lyx_is hy 26 13 rfl) (lyx_n hy 26 6 rfl) (by omega) (by omega) (fun q hq => BT_get hI.1 26 0 6 (0) (0) (5) (by decide) q (Nat.zero_le _) hq) (fun v7965 av7965 bv7965 ev7965 => ?_)
  clear ev7965
  refine WP_istore (ls' := [(0, _), (1, _), (2, _), (3, _), (4, _), (5, _), (6, _), (7, _), (8, _), (9, _)]) dX9_sleep_49 (by decide) rfl ?_
  refine WP_aload_n dX9_sleep_51 rfl ?_
  refine WP_dup dX9_sleep_52 rfl ?_
  refine WQ_getim dX9_sleep_53 fX9_74 rfl (lyx_is hy 53 4 rfl) ew7958 ?_
  refine WP_iload dX9_sleep_56 rfl ?_
  refine WQ_iadd dX9_sleep_58 (by omega) (by omega) (fun v7966 hv7966 => ?_)
  refine WQ_puti dX9_sleep_59 fX9_74 rfl rfl (lyx_is hy 53 4 rfl) (fun I7967 eI7967 => ?_)
  have hI7967 : XI g n L I7967 := by rw [eI7967]; exact (xi_f hy hI (c := 53) (0) (23760) (0) (by decide) (Or.inl (by decide)) (by decide) (by omega) (by omega))
  have e7968 : I7967 (ad g 1) 1 = L := by rw [eI7967, pp_ne _ _ (Or.inl (lyx_ne hy (by decide) (by decide) (by decide)))]; exact e7956
  have e7969 : I7967 (ad g 53) 1 = v7966 := by rw [eI7967, pp_self]
  have fr7970 : fz 74 g [53, 55] I I7967 := by rw [eI7967]; exact fzx_pp hy fr0 (by decide) (by decide)
  clear eI7967
  refine WP_aload_n dX9_sleep_62 rfl ?_
  refine WP_getr dX9_sleep_63 fX9_75 rfl (lyx_is hy 53 4 rfl) (rfx hr 53 5 55 (by decide)) ?_
  refine WP_iload dX9_sleep_66 rfl ?_
  refine WQ_iconst (3) (3) dX9_sleep_68 rfl rfl (fun v7971 hv7971 => ?_)
  refine WQ_iadd dX9_sleep_69 (by omega) (by omega) (fun v7972 hv7972 => ?_)
  refine WP_dup2 dX9_sleep_70 rfl rfl ?_
  refine WQ_ialdu dX9_sleep_71 (lyx_is hy 55 13 rfl) (lyx_n hy 55 28 rfl) (by omega) (by omega) (fun v7973 => ?_)
  refine WP_iload dX9_sleep_72 rfl ?_
  refine WQ_iaddu dX9_sleep_74 (fun v7974 => ?_)
  refine WQ_iast dX9_sleep_75 (lyx_is hy 55 13 rfl) (lyx_n hy 55 28 rfl) (by omega) (by omega) (fun I7975 eI7975 => ?_)
  have hI7975 : XI g n L I7975 := by rw [eI7975]; exact (fa_put hy hI7967 (c := 55) (k := 3) (s := so.toInt.toNat) (by decide) (by omega) (by decide) (by rw [cl (n := 7 * so.toInt.toNat + 3) (by omega)]) (fun h => absurd h (by decide)) (fun h => absurd h (by decide)))
  have e7976 : I7975 (ad g 1) 1 = L := by rw [eI7975, pp_ne _ _ (Or.inl (lyx_ne hy (by decide) (by decide) (by decide)))]; exact e7968
  have e7977 : I7975 (ad g 53) 1 = v7966 := by rw [eI7975, pp_ne _ _ (Or.inl (lyx_ne hy (by decide) (by decide) (by decide)))]; exact e7969
  have fr7978 : fz 74 g [53, 55] I I7975 := by rw [eI7975]; exact fzx_pp hy fr7970 (by decide) (by decide)
  clear eI7975
  refine WP_aload_n dX9_sleep_76 rfl ?_
  refine WP_getr dX9_sleep_77 fX9_75 rfl (lyx_is hy 53 4 rfl) (rfx hr 53 5 55 (by decide)) ?_
  refine WP_iload dX9_sleep_80 rfl ?_
  refine WQ_iconst (5) (5) dX9_sleep_82 rfl rfl (fun v7979 hv7979 => ?_)
  refine WQ_iadd dX9_sleep_83 (by omega) (by omega) (fun v7980 hv7980 => ?_)
  refine WP_dup2 dX9_sleep_84 rfl rfl ?_
  refine WQ_ialdu dX9_sleep_85 (lyx_is hy 55 13 rfl) (lyx_n hy 55 28 rfl) (by omega) (by omega) (fun v7981 => ?_)
  refine WP_iload dX9_sleep_86 rfl ?_
  refine WP_iload dX9_sleep_88 rfl ?_
  refine WP_iload dX9_sleep_90 rfl ?_
  refine WQ_isub dX9_sleep_92 (by omega) (by omega) (fun v7982 hv7982 => ?_)
  refine WQ_imulu dX9_sleep_93 (fun v7983 => ?_)
  refine WQ_iaddu dX9_sleep_94 (fun v7984 => ?_)
  refine WQ_iast dX9_sleep_95 (lyx_is hy 55 13 rfl) (lyx_n hy 55 28 rfl) (by omega) (by omega) (fun I7985 eI7985 => ?_)
  have hI7985 : XI g n L I7985 := by rw [eI7985]; exact (fa_put hy hI7975 (c := 55) (k := 5) (s := so.toInt.toNat) (by decide) (by omega) (by decide) (by rw [cl (n := 7 * so.toInt.toNat + 5) (by omega)]) (fun h => absurd h (by decide)) (fun h => absurd h (by decide)))
  have e7986 : I7985 (ad g 1) 1 = L := by rw [eI7985, pp_ne _ _ (Or.inl (lyx_ne hy (by decide) (by decide) (by decide)))]; exact e7976
  have e7987 : I7985 (ad g 53) 1 = v7966 := by rw [eI7985, pp_ne _ _ (Or.inl (lyx_ne hy (by decide) (by decide) (by decide)))]; exact e7977
  have fr7988 : fz 74 g [53, 55] I I7985 := by rw [eI7985]; exact fzx_pp hy fr7978 (by decide) (by decide)
  clear eI7985
  refine WP_aload_n dX9_sleep_96 rfl ?_
  refine WP_getr dX9_sleep_97 fX9_75 rfl (lyx_is hy 53 4 rfl) (rfx hr 53 5 55 (by decide)) ?_
  refine WP_iload dX9_sleep_100 rfl ?_
  refine WQ_iconst (0) (0) dX9_sleep_102 rfl rfl (fun v7989 hv7989 => ?_)
  refine WQ_iadd dX9_sleep_103 (by omega) (by omega) (fun v7990 hv7990 => ?_)
  refine WP_aload_n dX9_sleep_104 rfl ?_
  refine WP_getr dX9_sleep_105 fX9_25 rfl (lyx_is hy 49 9 rfl) (rfx hr 49 2 5 (by decide)) ?_
  refine WP_iload dX9_sleep_108 rfl ?_
  refine WP_iload dX9_sleep_110 rfl ?_
  refine WP_iload_n dX9_sleep_112 rfl ?_
  refine WP_callV3 (k := 0) dX9_sleep_113 ⟨⟨⟨by decide, by decide⟩, zX0_coinsBehind⟩, lX9_137, by decide, rfl, vX0_coinsBehind.1, vX0_coinsBehind.2⟩ (lyx_is hy 5 0 rfl) (sx_coinsBehind hy hr hI7985 co st da (by omega) (by omega) (by omega) (by omega) (by omega) (by omega)) (Nat.le_of_ble_eq_true rfl) ?_
  intro r Ia Ja Ra hq
  obtain ⟨⟨ea, eb, ec⟩, v7991, rfl, av7991, bv7991⟩ := hq
  show WP _ _ _ _ (.int _ :: _) _ _ _ _
  rw [ea, eb, ec]
  clear ea eb ec Ia Ja Ra
  refine WQ_iast dX9_sleep_116 (lyx_is hy 55 13 rfl) (lyx_n hy 55 28 rfl) (by omega) (by omega) (fun I7992 eI7992 => ?_)
  have hI7992 : XI g n L I7992 := by rw [eI7992]; exact (fa_put hy hI7985 (c := 55) (k := 0) (s := so.toInt.toNat) (by decide) (by omega) (by decide) (by rw [cl (n := 7 * so.toInt.toNat + 0) (by omega)]) (fun _ => by omega) (fun _ => by omega))
  have e7993 : I7992 (ad g 1) 1 = L := by rw [eI7992, pp_ne _ _ (Or.inl (lyx_ne hy (by decide) (by decide) (by decide)))]; exact e7986
  have e7994 : I7992 (ad g 53) 1 = v7966 := by rw [eI7992, pp_ne _ _ (Or.inl (lyx_ne hy (by decide) (by decide) (by decide)))]; exact e7987
  have fr7995 : fz 74 g [53, 55] I I7992 := by rw [eI7992]; exact fzx_pp hy fr7988 (by decide) (by decide)
  clear eI7992
  refine WP_aload_n dX9_sleep_117 rfl ?_
  refine WP_getr dX9_sleep_118 fX9_75 rfl (lyx_is hy 53 4 rfl) (rfx hr 53 5 55 (by decide)) ?_
  refine WP_iload dX9_sleep_121 rfl ?_
  refine WQ_iconst (1) (1) dX9_sleep_123 rfl rfl (fun v7996 hv7996 => ?_)
  refine WQ_iadd dX9_sleep_124 (by omega) (by omega) (fun v7997 hv7997 => ?_)
  refine WP_iload dX9_sleep_125 rfl ?_
  refine WQ_iast dX9_sleep_127 (lyx_is hy 55 13 rfl) (lyx_n hy 55 28 rfl) (by omega) (by omega) (fun I7998 eI7998 => ?_)
  have hI7998 : XI g n L I7998 := by rw [eI7998]; exact (fa_put hy hI7992 (c := 55) (k := 1) (s := so.toInt.toNat) (by decide) (by omega) (by decide) (by rw [cl (n := 7 * so.toInt.toNat + 1) (by omega)]) (fun _ => by omega) (fun _ => by omega))
  have e7999 : I7998 (ad g 1) 1 = L := by rw [eI7998, pp_ne _ _ (Or.inl (lyx_ne hy (by decide) (by decide) (by decide)))]; exact e7993
  have e8000 : I7998 (ad g 53) 1 = v7966 := by rw [eI7998, pp_ne _ _ (Or.inl (lyx_ne hy (by decide) (by decide) (by decide)))]; exact e7994
  have fr8001 : fz 74 g [53, 55] I I7998 := by rw [eI7998]; exact fzx_pp hy fr7995 (by decide) (by decide)
  clear eI7998
  exact WP_vret dX9_sleep_128 rfl ⟨⟨hI7998, rfl, fr8001, frj0, (by rw [e8000, ew7958]; omega)⟩, rfl⟩
set_option maxHeartbeats 4000000 in
set_option maxRecDepth 100000 in
theorem sx_openChest_56_6 {g : GG} {n : Int} {L : Int32} (hy : LyX g)  {I : pI} {J : pJ} {R : pR} (hr : RfX g R) (hT : R (ad g 5) 0 = some (ad g 6)) (hI : XI g n L I)   (hn : 0 ≤ n ∧ n ≤ 40000) : SP g mX9_openChest [.ref (ad g 49), .ref (ad g 56)] I J R (fun r I' J' R' => (XI g n L I' ∧ R' = R ∧ fz 74 g [56, 58] I I' ∧ fz 74 g [] J J' ∧ (I' (ad g 56) 1).toInt ≤ (I (ad g 56) 1).toInt) ∧ r = none) := by
  refine SP_of ⟨by decide, rfl⟩ (Nat.le_of_ble_eq_true rfl) ?_
  have e8002 : I (ad g 1) 1 = L := hI.2
  have b8003 := BT_get hI.1 1 1 2 (0) (0) (900) (by decide) 1 (by decide) (by decide)
  rw [e8002] at b8003
  have fr0 : fz 74 g [56, 58] I I := fz_rf
  have frj0 : fz 74 g [] J J := fz_rf
  obtain ⟨w8004, ew8004⟩ : ∃ w : Int32, I (ad g 56) 1 = w := ⟨_, rfl⟩
  have bw8004 := BT_get hI.1 56 1 2 (0) (23760) (700000) (by decide) 1 (by decide) (by decide)
  rw [ew8004] at bw8004
  refine WP_aload_n dX9_openChest_0 rfl ?_
  refine WP_getr dX9_openChest_1 fX9_25 rfl (lyx_is hy 49 9 rfl) (rfx hr 49 2 5 (by decide)) ?_
  refine WP_getr dX9_openChest_4 fX9_49 rfl (lyx_is hy 5 0 rfl) hT ?_
  refine WQ_geti dX9_openChest_7 fX9_68 rfl (lyx_is hy 6 7 rfl) (BT_get hI.1 6 3 4 (-1) (0) (3) (by decide) 3 (by decide) (by decide)) (fun v8005 ev8005 av8005 bv8005 => ?_)
  refine WP_istore_n (ls' := [(0, _), (1, _), (2, _)]) dX9_openChest_10 (by decide) rfl ?_
  refine WP_iload_n dX9_openChest_11 rfl ?_
  refine WQ_iconst (-1) (-1) dX9_openChest_12 rfl rfl (fun v8006 hv8006 => ?_)
  refine WQ_icmp_eq 32 dX9_openChest_13 rfl (fun c8006 => ?_) (fun c8006 => ?_)
  · exact WP_vret dX9_openChest_32 rfl ⟨⟨hI, rfl, fr0, frj0, (by omega)⟩, rfl⟩
  · refine WP_aload_n dX9_openChest_16 rfl ?_
    refine WP_getr dX9_openChest_17 fX9_25 rfl (lyx_is hy 49 9 rfl) (rfx hr 49 2 5 (by decide)) ?_
    refine WP_getr dX9_openChest_20 fX9_49 rfl (lyx_is hy 5 0 rfl) hT ?_
    refine WP_getr dX9_openChest_23 fX9_71 rfl (lyx_is hy 6 7 rfl) (rfx hr 6 6 8 (by decide)) ?_
    refine WP_iload_n dX9_openChest_26 rfl ?_
    refine WQ_iald dX9_openChest_27 (lyx_is hy 8 13 rfl) (lyx_n hy 8 4 rfl) (by omega) (by omega) (fun q hq => BT_get hI.1 8 0 4 (0) (0) (99) (by decide) q (Nat.zero_le _) hq) (fun v8008 av8008 bv8008 ev8008 => ?_)
    refine WQ_iconst (1) (1) dX9_openChest_28 rfl rfl (fun v8009 hv8009 => ?_)
    refine WQ_icmp_ge 33 dX9_openChest_29 rfl (fun c8009 => ?_) (fun c8009 => ?_)
    · refine WP_aload_n dX9_openChest_33 rfl ?_
      refine WP_getr dX9_openChest_34 fX9_25 rfl (lyx_is hy 49 9 rfl) (rfx hr 49 2 5 (by decide)) ?_
      refine WP_getr dX9_openChest_37 fX9_49 rfl (lyx_is hy 5 0 rfl) hT ?_
      refine WP_getr dX9_openChest_40 fX9_71 rfl (lyx_is hy 6 7 rfl) (rfx hr 6 6 8 (by decide)) ?_
      refine WP_iload_n dX9_openChest_43 rfl ?_
      refine WQ_ialde dX9_openChest_44 (lyx_is hy 8 13 rfl) (lyx_n hy 8 4 rfl) (by omega) (by omega) ev8008 ?_
      refine WP_istore_n (ls' := [(0, _), (1, _), (2, _), (3, _)]) dX9_openChest_45 (by decide) rfl ?_
      refine WP_aload_n dX9_openChest_46 rfl ?_
      refine WQ_getim dX9_openChest_47 fX9_74 rfl (lyx_is hy 56 4 rfl) ew8004 ?_
      refine WP_iload_n dX9_openChest_50 rfl ?_
      refine WQ_idivb dX9_openChest_51 (by omega) (by omega) (fun v8012 pv8012 av8012 bv8012 cv8012 => ?_)
      refine WP_istore (ls' := [(0, _), (1, _), (2, _), (3, _), (4, _)]) dX9_openChest_52 (by decide) rfl ?_
      refine WP_iload_n dX9_openChest_54 rfl ?_
      refine WQ_bipush (7) (7) dX9_openChest_55 rfl rfl (fun v8013 hv8013 => ?_)
      refine WQ_imulk (7) dX9_openChest_57 hv8013 (by omega) (by omega) (fun v8014 hv8014 => ?_)
      refine WP_istore (ls' := [(0, _), (1, _), (2, _), (3, _), (4, _), (5, _)]) dX9_openChest_58 (by decide) rfl ?_
      refine WP_aload_n dX9_openChest_60 rfl ?_
      refine WP_dup dX9_openChest_61 rfl ?_
      refine WQ_getim dX9_openChest_62 fX9_74 rfl (lyx_is hy 56 4 rfl) ew8004 ?_
      refine WP_iload dX9_openChest_65 rfl ?_
      refine WP_iload_n dX9_openChest_67 rfl ?_
      have knv8015 : 0 ≤ v8012.toInt * v8008.toInt := Int.mul_nonneg (by omega) (by omega)
      refine WQ_imulx dX9_openChest_68 (by omega) (by omega) (fun v8015 pv8015 => ?_)
      refine WQ_isub dX9_openChest_69 (by omega) (by omega) (fun v8016 hv8016 => ?_)
      refine WQ_puti dX9_openChest_70 fX9_74 rfl rfl (lyx_is hy 56 4 rfl) (fun I8017 eI8017 => ?_)
      have hI8017 : XI g n L I8017 := by rw [eI8017]; exact (xi_f hy hI (c := 56) (0) (23760) (700000) (by decide) (Or.inl (by decide)) (by decide) (by omega) (by omega))
      have e8018 : I8017 (ad g 1) 1 = L := by rw [eI8017, pp_ne _ _ (Or.inl (lyx_ne hy (by decide) (by decide) (by decide)))]; exact e8002
      have e8019 : I8017 (ad g 6) 3 = v8005 := by rw [eI8017, pp_ne _ _ (Or.inl (lyx_ne hy (by decide) (by decide) (by decide)))]; exact ev8005
      have e8020 : I8017 (ad g 8) v8005.toNatClampNeg = v8008 := by rw [eI8017, pp_ne _ _ (Or.inl (lyx_ne hy (by decide) (by decide) (by decide)))]; exact ev8008
      have e8021 : I8017 (ad g 56) 1 = v8016 := by rw [eI8017, pp_self]
      have fr8022 : fz 74 g [56, 58] I I8017 := by rw [eI8017]; exact fzx_pp hy fr0 (by decide) (by decide)
      clear eI8017
      refine WP_aload_n dX9_openChest_73 rfl ?_
      refine WP_getr dX9_openChest_74 fX9_75 rfl (lyx_is hy 56 4 rfl) (rfx hr 56 5 58 (by decide)) ?_
      refine WP_iload dX9_openChest_77 rfl ?_
      refine WQ_bipush (6) (6) dX9_openChest_79 rfl rfl (fun v8023 hv8023 => ?_)
      refine WQ_iadd dX9_openChest_81 (by omega) (by omega) (fun v8024 hv8024 => ?_)
      refine WP_dup2 dX9_openChest_82 rfl rfl ?_
      refine WQ_ialdu dX9_openChest_83 (lyx_is hy 58 13 rfl) (lyx_n hy 58 28 rfl) (by omega) (by omega) (fun v8025 => ?_)
      refine WP_iload dX9_openChest_84 rfl ?_
      refine WP_iload_n dX9_openChest_86 rfl ?_
      have knv8026 : 0 ≤ v8012.toInt * v8008.toInt := Int.mul_nonneg (by omega) (by omega)
      refine WQ_imulx dX9_openChest_87 (by omega) (by omega) (fun v8026 pv8026 => ?_)
      refine WQ_iaddu dX9_openChest_88 (fun v8027 => ?_)
      refine WQ_iast dX9_openChest_89 (lyx_is hy 58 13 rfl) (lyx_n hy 58 28 rfl) (by omega) (by omega) (fun I8028 eI8028 => ?_)
      have hI8028 : XI g n L I8028 := by rw [eI8028]; exact (fa_put hy hI8017 (c := 58) (k := 6) (s := v8005.toInt.toNat) (by decide) (by omega) (by decide) (by rw [cl (n := 7 * v8005.toInt.toNat + 6) (by omega)]) (fun h => absurd h (by decide)) (fun h => absurd h (by decide)))
      have e8029 : I8028 (ad g 1) 1 = L := by rw [eI8028, pp_ne _ _ (Or.inl (lyx_ne hy (by decide) (by decide) (by decide)))]; exact e8018
      have e8030 : I8028 (ad g 6) 3 = v8005 := by rw [eI8028, pp_ne _ _ (Or.inl (lyx_ne hy (by decide) (by decide) (by decide)))]; exact e8019
      have e8031 : I8028 (ad g 8) v8005.toNatClampNeg = v8008 := by rw [eI8028, pp_ne _ _ (Or.inl (lyx_ne hy (by decide) (by decide) (by decide)))]; exact e8020
      have e8032 : I8028 (ad g 56) 1 = v8016 := by rw [eI8028, pp_ne _ _ (Or.inl (lyx_ne hy (by decide) (by decide) (by decide)))]; exact e8021
      have fr8033 : fz 74 g [56, 58] I I8028 := by rw [eI8028]; exact fzx_pp hy fr8022 (by decide) (by decide)
      clear eI8028
      refine WP_aload_n dX9_openChest_90 rfl ?_
      refine WP_getr dX9_openChest_91 fX9_75 rfl (lyx_is hy 56 4 rfl) (rfx hr 56 5 58 (by decide)) ?_
      refine WP_iload dX9_openChest_94 rfl ?_
      refine WQ_iconst (0) (0) dX9_openChest_96 rfl rfl (fun v8034 hv8034 => ?_)
      refine WQ_iadd dX9_openChest_97 (by omega) (by omega) (fun v8035 hv8035 => ?_)
      refine WQ_bipush (60) (60) dX9_openChest_98 rfl rfl (fun v8036 hv8036 => ?_)
      refine WP_aload_n dX9_openChest_100 rfl ?_
      refine WP_getr dX9_openChest_101 fX9_75 rfl (lyx_is hy 56 4 rfl) (rfx hr 56 5 58 (by decide)) ?_
      refine WP_iload dX9_openChest_104 rfl ?_
      refine WQ_iconst (0) (0) dX9_openChest_106 rfl rfl (fun v8037 hv8037 => ?_)
      refine WQ_iadd dX9_openChest_107 (by omega) (by omega) (fun v8038 hv8038 => ?_)
      refine WQ_ialdf (q := 7 * v8005.toInt.toNat) dX9_openChest_108 (lyx_is hy 58 13 rfl) (lyx_n hy 58 28 rfl) (by omega) (by omega) (by omega) (fa_get0 hI8028 (c := 58) (by decide) (by omega)) (fun v8039 av8039 bv8039 => ?_)
      refine WP_iload dX9_openChest_109 rfl ?_
      refine WQ_iadd dX9_openChest_111 (by omega) (by omega) (fun v8040 hv8040 => ?_)
      refine WQ_min dX9_openChest_112 lX9_78 ⟨by decide, Nat.le_of_ble_eq_true rfl⟩ (fun v8041 av8041 bv8041 cv8041 => ?_)
      refine WQ_iast dX9_openChest_115 (lyx_is hy 58 13 rfl) (lyx_n hy 58 28 rfl) (by omega) (by omega) (fun I8042 eI8042 => ?_)
      have hI8042 : XI g n L I8042 := by rw [eI8042]; exact (fa_put hy hI8028 (c := 58) (k := 0) (s := v8005.toInt.toNat) (by decide) (by omega) (by decide) (by rw [cl (n := 7 * v8005.toInt.toNat + 0) (by omega)]) (fun _ => by omega) (fun _ => by omega))
      have e8043 : I8042 (ad g 1) 1 = L := by rw [eI8042, pp_ne _ _ (Or.inl (lyx_ne hy (by decide) (by decide) (by decide)))]; exact e8029
      have e8044 : I8042 (ad g 6) 3 = v8005 := by rw [eI8042, pp_ne _ _ (Or.inl (lyx_ne hy (by decide) (by decide) (by decide)))]; exact e8030
      have e8045 : I8042 (ad g 8) v8005.toNatClampNeg = v8008 := by rw [eI8042, pp_ne _ _ (Or.inl (lyx_ne hy (by decide) (by decide) (by decide)))]; exact e8031
      have e8046 : I8042 (ad g 56) 1 = v8016 := by rw [eI8042, pp_ne _ _ (Or.inl (lyx_ne hy (by decide) (by decide) (by decide)))]; exact e8032
      have fr8047 : fz 74 g [56, 58] I I8042 := by rw [eI8042]; exact fzx_pp hy fr8033 (by decide) (by decide)
      clear eI8042
      exact WP_vret dX9_openChest_116 rfl ⟨⟨hI8042, rfl, fr8047, frj0, (by rw [e8046, ew8004]; omega)⟩, rfl⟩
    · exact WP_vret dX9_openChest_32 rfl ⟨⟨hI, rfl, fr0, frj0, (by omega)⟩, rfl⟩
set_option maxHeartbeats 4000000 in
set_option maxRecDepth 100000 in
theorem sx_wsleep_56_6 {g : GG} {n : Int} {L : Int32} (hy : LyX g)  {I : pI} {J : pJ} {R : pR} (hr : RfX g R) (hT : R (ad g 5) 0 = some (ad g 6)) (hI : XI g n L I) (so : Int32) (da : Int32) (co : Int32) (st : Int32) (so_lo : 0 ≤ so.toInt) (so_hi : so.toInt ≤ 3) (da_lo : 0 ≤ da.toInt) (da_hi : da.toInt ≤ 6) (co_lo : 0 ≤ co.toInt) (co_hi : co.toInt ≤ 60) (st_lo : 0 ≤ st.toInt) (st_hi : st.toInt ≤ 5) (hn : 0 ≤ n ∧ n ≤ 40000) (hb : (I (ad g 56) 1).toInt ≤ 23760 * n + 700000 - 5940) : SP g mX9_sleep [.ref (ad g 49), .ref (ad g 56), .int so, .int da, .int co, .int st] I J R (fun r I' J' R' => (XI g n L I' ∧ R' = R ∧ fz 74 g [56, 58] I I' ∧ fz 74 g [] J J' ∧ (I' (ad g 56) 1).toInt ≤ (I (ad g 56) 1).toInt + 5940) ∧ r = none) := by
  refine SP_of ⟨by decide, rfl⟩ (Nat.le_of_ble_eq_true rfl) ?_
  have e8048 : I (ad g 1) 1 = L := hI.2
  have b8049 := BT_get hI.1 1 1 2 (0) (0) (900) (by decide) 1 (by decide) (by decide)
  rw [e8048] at b8049
  have fr0 : fz 74 g [56, 58] I I := fz_rf
  have frj0 : fz 74 g [] J J := fz_rf
  obtain ⟨w8050, ew8050⟩ : ∃ w : Int32, I (ad g 56) 1 = w := ⟨_, rfl⟩
  have bw8050 := BT_get hI.1 56 1 2 (0) (23760) (700000) (by decide) 1 (by decide) (by decide)
  rw [ew8050] at bw8050
  rw [ew8050] at hb
  refine WP_iload_n dX9_sleep_0 rfl ?_
  refine WQ_bipush (7) (7) dX9_sleep_1 rfl rfl (fun v8051 hv8051 => ?_)
  refine WQ_imulk (7) dX9_sleep_3 hv8051 (by omega) (by omega) (fun v8052 hv8052 => ?_)
  refine WP_istore (ls' := [(0, _), (1, _), (2, _), (3, _), (4, _), (5, _), (6, _)]) dX9_sleep_4 (by decide) rfl ?_
  refine WP_aload_n dX9_sleep_6 rfl ?_
  refine WP_getr dX9_sleep_7 fX9_25 rfl (lyx_is hy 49 9 rfl) (rfx hr 49 2 5 (by decide)) ?_
  refine WP_getr dX9_sleep_10 fX9_49 rfl (lyx_is hy 5 0 rfl) hT ?_
  refine WP_getr dX9_sleep_13 fX9_71 rfl (lyx_is hy 6 7 rfl) (rfx hr 6 6 8 (by decide)) ?_
  refine WP_iload_n dX9_sleep_16 rfl ?_
  refine WQ_iald dX9_sleep_17 (lyx_is hy 8 13 rfl) (lyx_n hy 8 4 rfl) (by omega) (by omega) (fun q hq => BT_get hI.1 8 0 4 (0) (0) (99) (by decide) q (Nat.zero_le _) hq) (fun v8053 av8053 bv8053 ev8053 => ?_)
  clear ev8053
  refine WP_istore (ls' := [(0, _), (1, _), (2, _), (3, _), (4, _), (5, _), (6, _), (7, _)]) dX9_sleep_18 (by decide) rfl ?_
  refine WP_iload dX9_sleep_20 rfl ?_
  refine WP_iload dX9_sleep_22 rfl ?_
  refine WP_aload_n dX9_sleep_24 rfl ?_
  refine WP_getr dX9_sleep_25 fX9_25 rfl (lyx_is hy 49 9 rfl) (rfx hr 49 2 5 (by decide)) ?_
  refine WP_getr dX9_sleep_28 fX9_128 rfl (lyx_is hy 5 0 rfl) (rfx hr 5 2 23 (by decide)) ?_
  refine WP_iload_n dX9_sleep_31 rfl ?_
  refine WQ_iald dX9_sleep_32 (lyx_is hy 23 13 rfl) (lyx_n hy 23 7 rfl) (by omega) (by omega) (fun q hq => BT_get hI.1 23 0 7 (0) (0) (900) (by decide) q (Nat.zero_le _) hq) (fun v8054 av8054 bv8054 ev8054 => ?_)
  clear ev8054
  refine WP_callN2 dX9_sleep_33 ⟨⟨⟨by decide, by decide⟩, zX10_stampsOf⟩, lX9_131, tX10_stampsOf⟩ (sx_stampsOf hy hr hI co v8054 (by omega) (by omega) (by omega) (by omega)) (Nat.le_of_ble_eq_true rfl) ?_
  intro r Ia Ja Ra hq
  obtain ⟨⟨ea, eb, ec⟩, v8055, rfl, av8055, bv8055, cv8055⟩ := hq
  show WP _ _ _ _ (.int _ :: _) _ _ _ _
  rw [ea, eb, ec]
  clear ea eb ec Ia Ja Ra
  refine WQ_imulb (99) (999) dX9_sleep_36 ⟨by omega, by omega⟩ ⟨by omega, by omega⟩ (by decide) (fun v8056 pv8056 av8056 bv8056 cv8056 => ?_)
  refine WP_istore (ls' := [(0, _), (1, _), (2, _), (3, _), (4, _), (5, _), (6, _), (7, _), (8, _)]) dX9_sleep_37 (by decide) rfl ?_
  refine WP_aload_n dX9_sleep_39 rfl ?_
  refine WP_getr dX9_sleep_40 fX9_25 rfl (lyx_is hy 49 9 rfl) (rfx hr 49 2 5 (by decide)) ?_
  refine WP_getr dX9_sleep_43 fX9_134 rfl (lyx_is hy 5 0 rfl) (rfx hr 5 5 26 (by decide)) ?_
  refine WP_iload dX9_sleep_46 rfl ?_
  refine WQ_iald dX9_sleep_48 (lyx_is hy 26 13 rfl) (lyx_n hy 26 6 rfl) (by omega) (by omega) (fun q hq => BT_get hI.1 26 0 6 (0) (0) (5) (by decide) q (Nat.zero_le _) hq) (fun v8057 av8057 bv8057 ev8057 => ?_)
  clear ev8057
  refine WP_istore (ls' := [(0, _), (1, _), (2, _), (3, _), (4, _), (5, _), (6, _), (7, _), (8, _), (9, _)]) dX9_sleep_49 (by decide) rfl ?_
  refine WP_aload_n dX9_sleep_51 rfl ?_
  refine WP_dup dX9_sleep_52 rfl ?_
  refine WQ_getim dX9_sleep_53 fX9_74 rfl (lyx_is hy 56 4 rfl) ew8050 ?_
  refine WP_iload dX9_sleep_56 rfl ?_
  refine WQ_iadd dX9_sleep_58 (by omega) (by omega) (fun v8058 hv8058 => ?_)
  refine WQ_puti dX9_sleep_59 fX9_74 rfl rfl (lyx_is hy 56 4 rfl) (fun I8059 eI8059 => ?_)
  have hI8059 : XI g n L I8059 := by rw [eI8059]; exact (xi_f hy hI (c := 56) (0) (23760) (700000) (by decide) (Or.inl (by decide)) (by decide) (by omega) (by omega))
  have e8060 : I8059 (ad g 1) 1 = L := by rw [eI8059, pp_ne _ _ (Or.inl (lyx_ne hy (by decide) (by decide) (by decide)))]; exact e8048
  have e8061 : I8059 (ad g 56) 1 = v8058 := by rw [eI8059, pp_self]
  have fr8062 : fz 74 g [56, 58] I I8059 := by rw [eI8059]; exact fzx_pp hy fr0 (by decide) (by decide)
  clear eI8059
  refine WP_aload_n dX9_sleep_62 rfl ?_
  refine WP_getr dX9_sleep_63 fX9_75 rfl (lyx_is hy 56 4 rfl) (rfx hr 56 5 58 (by decide)) ?_
  refine WP_iload dX9_sleep_66 rfl ?_
  refine WQ_iconst (3) (3) dX9_sleep_68 rfl rfl (fun v8063 hv8063 => ?_)
  refine WQ_iadd dX9_sleep_69 (by omega) (by omega) (fun v8064 hv8064 => ?_)
  refine WP_dup2 dX9_sleep_70 rfl rfl ?_
  refine WQ_ialdu dX9_sleep_71 (lyx_is hy 58 13 rfl) (lyx_n hy 58 28 rfl) (by omega) (by omega) (fun v8065 => ?_)
  refine WP_iload dX9_sleep_72 rfl ?_
  refine WQ_iaddu dX9_sleep_74 (fun v8066 => ?_)
  refine WQ_iast dX9_sleep_75 (lyx_is hy 58 13 rfl) (lyx_n hy 58 28 rfl) (by omega) (by omega) (fun I8067 eI8067 => ?_)
  have hI8067 : XI g n L I8067 := by rw [eI8067]; exact (fa_put hy hI8059 (c := 58) (k := 3) (s := so.toInt.toNat) (by decide) (by omega) (by decide) (by rw [cl (n := 7 * so.toInt.toNat + 3) (by omega)]) (fun h => absurd h (by decide)) (fun h => absurd h (by decide)))
  have e8068 : I8067 (ad g 1) 1 = L := by rw [eI8067, pp_ne _ _ (Or.inl (lyx_ne hy (by decide) (by decide) (by decide)))]; exact e8060
  have e8069 : I8067 (ad g 56) 1 = v8058 := by rw [eI8067, pp_ne _ _ (Or.inl (lyx_ne hy (by decide) (by decide) (by decide)))]; exact e8061
  have fr8070 : fz 74 g [56, 58] I I8067 := by rw [eI8067]; exact fzx_pp hy fr8062 (by decide) (by decide)
  clear eI8067
  refine WP_aload_n dX9_sleep_76 rfl ?_
  refine WP_getr dX9_sleep_77 fX9_75 rfl (lyx_is hy 56 4 rfl) (rfx hr 56 5 58 (by decide)) ?_
  refine WP_iload dX9_sleep_80 rfl ?_
  refine WQ_iconst (5) (5) dX9_sleep_82 rfl rfl (fun v8071 hv8071 => ?_)
  refine WQ_iadd dX9_sleep_83 (by omega) (by omega) (fun v8072 hv8072 => ?_)
  refine WP_dup2 dX9_sleep_84 rfl rfl ?_
  refine WQ_ialdu dX9_sleep_85 (lyx_is hy 58 13 rfl) (lyx_n hy 58 28 rfl) (by omega) (by omega) (fun v8073 => ?_)
  refine WP_iload dX9_sleep_86 rfl ?_
  refine WP_iload dX9_sleep_88 rfl ?_
  refine WP_iload dX9_sleep_90 rfl ?_
  refine WQ_isub dX9_sleep_92 (by omega) (by omega) (fun v8074 hv8074 => ?_)
  refine WQ_imulu dX9_sleep_93 (fun v8075 => ?_)
  refine WQ_iaddu dX9_sleep_94 (fun v8076 => ?_)
  refine WQ_iast dX9_sleep_95 (lyx_is hy 58 13 rfl) (lyx_n hy 58 28 rfl) (by omega) (by omega) (fun I8077 eI8077 => ?_)
  have hI8077 : XI g n L I8077 := by rw [eI8077]; exact (fa_put hy hI8067 (c := 58) (k := 5) (s := so.toInt.toNat) (by decide) (by omega) (by decide) (by rw [cl (n := 7 * so.toInt.toNat + 5) (by omega)]) (fun h => absurd h (by decide)) (fun h => absurd h (by decide)))
  have e8078 : I8077 (ad g 1) 1 = L := by rw [eI8077, pp_ne _ _ (Or.inl (lyx_ne hy (by decide) (by decide) (by decide)))]; exact e8068
  have e8079 : I8077 (ad g 56) 1 = v8058 := by rw [eI8077, pp_ne _ _ (Or.inl (lyx_ne hy (by decide) (by decide) (by decide)))]; exact e8069
  have fr8080 : fz 74 g [56, 58] I I8077 := by rw [eI8077]; exact fzx_pp hy fr8070 (by decide) (by decide)
  clear eI8077
  refine WP_aload_n dX9_sleep_96 rfl ?_
  refine WP_getr dX9_sleep_97 fX9_75 rfl (lyx_is hy 56 4 rfl) (rfx hr 56 5 58 (by decide)) ?_
  refine WP_iload dX9_sleep_100 rfl ?_
  refine WQ_iconst (0) (0) dX9_sleep_102 rfl rfl (fun v8081 hv8081 => ?_)
  refine WQ_iadd dX9_sleep_103 (by omega) (by omega) (fun v8082 hv8082 => ?_)
  refine WP_aload_n dX9_sleep_104 rfl ?_
  refine WP_getr dX9_sleep_105 fX9_25 rfl (lyx_is hy 49 9 rfl) (rfx hr 49 2 5 (by decide)) ?_
  refine WP_iload dX9_sleep_108 rfl ?_
  refine WP_iload dX9_sleep_110 rfl ?_
  refine WP_iload_n dX9_sleep_112 rfl ?_
  refine WP_callV3 (k := 0) dX9_sleep_113 ⟨⟨⟨by decide, by decide⟩, zX0_coinsBehind⟩, lX9_137, by decide, rfl, vX0_coinsBehind.1, vX0_coinsBehind.2⟩ (lyx_is hy 5 0 rfl) (sx_coinsBehind hy hr hI8077 co st da (by omega) (by omega) (by omega) (by omega) (by omega) (by omega)) (Nat.le_of_ble_eq_true rfl) ?_
  intro r Ia Ja Ra hq
  obtain ⟨⟨ea, eb, ec⟩, v8083, rfl, av8083, bv8083⟩ := hq
  show WP _ _ _ _ (.int _ :: _) _ _ _ _
  rw [ea, eb, ec]
  clear ea eb ec Ia Ja Ra
  refine WQ_iast dX9_sleep_116 (lyx_is hy 58 13 rfl) (lyx_n hy 58 28 rfl) (by omega) (by omega) (fun I8084 eI8084 => ?_)
  have hI8084 : XI g n L I8084 := by rw [eI8084]; exact (fa_put hy hI8077 (c := 58) (k := 0) (s := so.toInt.toNat) (by decide) (by omega) (by decide) (by rw [cl (n := 7 * so.toInt.toNat + 0) (by omega)]) (fun _ => by omega) (fun _ => by omega))
  have e8085 : I8084 (ad g 1) 1 = L := by rw [eI8084, pp_ne _ _ (Or.inl (lyx_ne hy (by decide) (by decide) (by decide)))]; exact e8078
  have e8086 : I8084 (ad g 56) 1 = v8058 := by rw [eI8084, pp_ne _ _ (Or.inl (lyx_ne hy (by decide) (by decide) (by decide)))]; exact e8079
  have fr8087 : fz 74 g [56, 58] I I8084 := by rw [eI8084]; exact fzx_pp hy fr8080 (by decide) (by decide)
  clear eI8084
  refine WP_aload_n dX9_sleep_117 rfl ?_
  refine WP_getr dX9_sleep_118 fX9_75 rfl (lyx_is hy 56 4 rfl) (rfx hr 56 5 58 (by decide)) ?_
  refine WP_iload dX9_sleep_121 rfl ?_
  refine WQ_iconst (1) (1) dX9_sleep_123 rfl rfl (fun v8088 hv8088 => ?_)
  refine WQ_iadd dX9_sleep_124 (by omega) (by omega) (fun v8089 hv8089 => ?_)
  refine WP_iload dX9_sleep_125 rfl ?_
  refine WQ_iast dX9_sleep_127 (lyx_is hy 58 13 rfl) (lyx_n hy 58 28 rfl) (by omega) (by omega) (fun I8090 eI8090 => ?_)
  have hI8090 : XI g n L I8090 := by rw [eI8090]; exact (fa_put hy hI8084 (c := 58) (k := 1) (s := so.toInt.toNat) (by decide) (by omega) (by decide) (by rw [cl (n := 7 * so.toInt.toNat + 1) (by omega)]) (fun _ => by omega) (fun _ => by omega))
  have e8091 : I8090 (ad g 1) 1 = L := by rw [eI8090, pp_ne _ _ (Or.inl (lyx_ne hy (by decide) (by decide) (by decide)))]; exact e8085
  have e8092 : I8090 (ad g 56) 1 = v8058 := by rw [eI8090, pp_ne _ _ (Or.inl (lyx_ne hy (by decide) (by decide) (by decide)))]; exact e8086
  have fr8093 : fz 74 g [56, 58] I I8090 := by rw [eI8090]; exact fzx_pp hy fr8087 (by decide) (by decide)
  clear eI8090
  exact WP_vret dX9_sleep_128 rfl ⟨⟨hI8090, rfl, fr8093, frj0, (by rw [e8092, ew8050]; omega)⟩, rfl⟩
set_option maxHeartbeats 4000000 in
set_option maxRecDepth 100000 in
theorem sx_openChest_56_27 {g : GG} {n : Int} {L : Int32} (hy : LyX g)  {I : pI} {J : pJ} {R : pR} (hr : RfX g R) (hT : R (ad g 5) 0 = some (ad g 27)) (hI : XI g n L I)   (hn : 0 ≤ n ∧ n ≤ 40000) : SP g mX9_openChest [.ref (ad g 49), .ref (ad g 56)] I J R (fun r I' J' R' => (XI g n L I' ∧ R' = R ∧ fz 74 g [56, 58] I I' ∧ fz 74 g [] J J' ∧ (I' (ad g 56) 1).toInt ≤ (I (ad g 56) 1).toInt) ∧ r = none) := by
  refine SP_of ⟨by decide, rfl⟩ (Nat.le_of_ble_eq_true rfl) ?_
  have e8094 : I (ad g 1) 1 = L := hI.2
  have b8095 := BT_get hI.1 1 1 2 (0) (0) (900) (by decide) 1 (by decide) (by decide)
  rw [e8094] at b8095
  have fr0 : fz 74 g [56, 58] I I := fz_rf
  have frj0 : fz 74 g [] J J := fz_rf
  obtain ⟨w8096, ew8096⟩ : ∃ w : Int32, I (ad g 56) 1 = w := ⟨_, rfl⟩
  have bw8096 := BT_get hI.1 56 1 2 (0) (23760) (700000) (by decide) 1 (by decide) (by decide)
  rw [ew8096] at bw8096
  refine WP_aload_n dX9_openChest_0 rfl ?_
  refine WP_getr dX9_openChest_1 fX9_25 rfl (lyx_is hy 49 9 rfl) (rfx hr 49 2 5 (by decide)) ?_
  refine WP_getr dX9_openChest_4 fX9_49 rfl (lyx_is hy 5 0 rfl) hT ?_
  refine WQ_geti dX9_openChest_7 fX9_68 rfl (lyx_is hy 27 7 rfl) (BT_get hI.1 27 3 4 (-1) (0) (3) (by decide) 3 (by decide) (by decide)) (fun v8097 ev8097 av8097 bv8097 => ?_)
  refine WP_istore_n (ls' := [(0, _), (1, _), (2, _)]) dX9_openChest_10 (by decide) rfl ?_
  refine WP_iload_n dX9_openChest_11 rfl ?_
  refine WQ_iconst (-1) (-1) dX9_openChest_12 rfl rfl (fun v8098 hv8098 => ?_)
  refine WQ_icmp_eq 32 dX9_openChest_13 rfl (fun c8098 => ?_) (fun c8098 => ?_)
  · exact WP_vret dX9_openChest_32 rfl ⟨⟨hI, rfl, fr0, frj0, (by omega)⟩, rfl⟩
  · refine WP_aload_n dX9_openChest_16 rfl ?_
    refine WP_getr dX9_openChest_17 fX9_25 rfl (lyx_is hy 49 9 rfl) (rfx hr 49 2 5 (by decide)) ?_
    refine WP_getr dX9_openChest_20 fX9_49 rfl (lyx_is hy 5 0 rfl) hT ?_
    refine WP_getr dX9_openChest_23 fX9_71 rfl (lyx_is hy 27 7 rfl) (rfx hr 27 6 29 (by decide)) ?_
    refine WP_iload_n dX9_openChest_26 rfl ?_
    refine WQ_iald dX9_openChest_27 (lyx_is hy 29 13 rfl) (lyx_n hy 29 4 rfl) (by omega) (by omega) (fun q hq => BT_get hI.1 29 0 4 (0) (0) (99) (by decide) q (Nat.zero_le _) hq) (fun v8100 av8100 bv8100 ev8100 => ?_)
    refine WQ_iconst (1) (1) dX9_openChest_28 rfl rfl (fun v8101 hv8101 => ?_)
    refine WQ_icmp_ge 33 dX9_openChest_29 rfl (fun c8101 => ?_) (fun c8101 => ?_)
    · refine WP_aload_n dX9_openChest_33 rfl ?_
      refine WP_getr dX9_openChest_34 fX9_25 rfl (lyx_is hy 49 9 rfl) (rfx hr 49 2 5 (by decide)) ?_
      refine WP_getr dX9_openChest_37 fX9_49 rfl (lyx_is hy 5 0 rfl) hT ?_
      refine WP_getr dX9_openChest_40 fX9_71 rfl (lyx_is hy 27 7 rfl) (rfx hr 27 6 29 (by decide)) ?_
      refine WP_iload_n dX9_openChest_43 rfl ?_
      refine WQ_ialde dX9_openChest_44 (lyx_is hy 29 13 rfl) (lyx_n hy 29 4 rfl) (by omega) (by omega) ev8100 ?_
      refine WP_istore_n (ls' := [(0, _), (1, _), (2, _), (3, _)]) dX9_openChest_45 (by decide) rfl ?_
      refine WP_aload_n dX9_openChest_46 rfl ?_
      refine WQ_getim dX9_openChest_47 fX9_74 rfl (lyx_is hy 56 4 rfl) ew8096 ?_
      refine WP_iload_n dX9_openChest_50 rfl ?_
      refine WQ_idivb dX9_openChest_51 (by omega) (by omega) (fun v8104 pv8104 av8104 bv8104 cv8104 => ?_)
      refine WP_istore (ls' := [(0, _), (1, _), (2, _), (3, _), (4, _)]) dX9_openChest_52 (by decide) rfl ?_
      refine WP_iload_n dX9_openChest_54 rfl ?_
      refine WQ_bipush (7) (7) dX9_openChest_55 rfl rfl (fun v8105 hv8105 => ?_)
      refine WQ_imulk (7) dX9_openChest_57 hv8105 (by omega) (by omega) (fun v8106 hv8106 => ?_)
      refine WP_istore (ls' := [(0, _), (1, _), (2, _), (3, _), (4, _), (5, _)]) dX9_openChest_58 (by decide) rfl ?_
      refine WP_aload_n dX9_openChest_60 rfl ?_
      refine WP_dup dX9_openChest_61 rfl ?_
      refine WQ_getim dX9_openChest_62 fX9_74 rfl (lyx_is hy 56 4 rfl) ew8096 ?_
      refine WP_iload dX9_openChest_65 rfl ?_
      refine WP_iload_n dX9_openChest_67 rfl ?_
      have knv8107 : 0 ≤ v8104.toInt * v8100.toInt := Int.mul_nonneg (by omega) (by omega)
      refine WQ_imulx dX9_openChest_68 (by omega) (by omega) (fun v8107 pv8107 => ?_)
      refine WQ_isub dX9_openChest_69 (by omega) (by omega) (fun v8108 hv8108 => ?_)
      refine WQ_puti dX9_openChest_70 fX9_74 rfl rfl (lyx_is hy 56 4 rfl) (fun I8109 eI8109 => ?_)
      have hI8109 : XI g n L I8109 := by rw [eI8109]; exact (xi_f hy hI (c := 56) (0) (23760) (700000) (by decide) (Or.inl (by decide)) (by decide) (by omega) (by omega))
      have e8110 : I8109 (ad g 1) 1 = L := by rw [eI8109, pp_ne _ _ (Or.inl (lyx_ne hy (by decide) (by decide) (by decide)))]; exact e8094
      have e8111 : I8109 (ad g 27) 3 = v8097 := by rw [eI8109, pp_ne _ _ (Or.inl (lyx_ne hy (by decide) (by decide) (by decide)))]; exact ev8097
      have e8112 : I8109 (ad g 29) v8097.toNatClampNeg = v8100 := by rw [eI8109, pp_ne _ _ (Or.inl (lyx_ne hy (by decide) (by decide) (by decide)))]; exact ev8100
      have e8113 : I8109 (ad g 56) 1 = v8108 := by rw [eI8109, pp_self]
      have fr8114 : fz 74 g [56, 58] I I8109 := by rw [eI8109]; exact fzx_pp hy fr0 (by decide) (by decide)
      clear eI8109
      refine WP_aload_n dX9_openChest_73 rfl ?_
      refine WP_getr dX9_openChest_74 fX9_75 rfl (lyx_is hy 56 4 rfl) (rfx hr 56 5 58 (by decide)) ?_
      refine WP_iload dX9_openChest_77 rfl ?_
      refine WQ_bipush (6) (6) dX9_openChest_79 rfl rfl (fun v8115 hv8115 => ?_)
      refine WQ_iadd dX9_openChest_81 (by omega) (by omega) (fun v8116 hv8116 => ?_)
      refine WP_dup2 dX9_openChest_82 rfl rfl ?_
      refine WQ_ialdu dX9_openChest_83 (lyx_is hy 58 13 rfl) (lyx_n hy 58 28 rfl) (by omega) (by omega) (fun v8117 => ?_)
      refine WP_iload dX9_openChest_84 rfl ?_
      refine WP_iload_n dX9_openChest_86 rfl ?_
      have knv8118 : 0 ≤ v8104.toInt * v8100.toInt := Int.mul_nonneg (by omega) (by omega)
      refine WQ_imulx dX9_openChest_87 (by omega) (by omega) (fun v8118 pv8118 => ?_)
      refine WQ_iaddu dX9_openChest_88 (fun v8119 => ?_)
      refine WQ_iast dX9_openChest_89 (lyx_is hy 58 13 rfl) (lyx_n hy 58 28 rfl) (by omega) (by omega) (fun I8120 eI8120 => ?_)
      have hI8120 : XI g n L I8120 := by rw [eI8120]; exact (fa_put hy hI8109 (c := 58) (k := 6) (s := v8097.toInt.toNat) (by decide) (by omega) (by decide) (by rw [cl (n := 7 * v8097.toInt.toNat + 6) (by omega)]) (fun h => absurd h (by decide)) (fun h => absurd h (by decide)))
      have e8121 : I8120 (ad g 1) 1 = L := by rw [eI8120, pp_ne _ _ (Or.inl (lyx_ne hy (by decide) (by decide) (by decide)))]; exact e8110
      have e8122 : I8120 (ad g 27) 3 = v8097 := by rw [eI8120, pp_ne _ _ (Or.inl (lyx_ne hy (by decide) (by decide) (by decide)))]; exact e8111
      have e8123 : I8120 (ad g 29) v8097.toNatClampNeg = v8100 := by rw [eI8120, pp_ne _ _ (Or.inl (lyx_ne hy (by decide) (by decide) (by decide)))]; exact e8112
      have e8124 : I8120 (ad g 56) 1 = v8108 := by rw [eI8120, pp_ne _ _ (Or.inl (lyx_ne hy (by decide) (by decide) (by decide)))]; exact e8113
      have fr8125 : fz 74 g [56, 58] I I8120 := by rw [eI8120]; exact fzx_pp hy fr8114 (by decide) (by decide)
      clear eI8120
      refine WP_aload_n dX9_openChest_90 rfl ?_
      refine WP_getr dX9_openChest_91 fX9_75 rfl (lyx_is hy 56 4 rfl) (rfx hr 56 5 58 (by decide)) ?_
      refine WP_iload dX9_openChest_94 rfl ?_
      refine WQ_iconst (0) (0) dX9_openChest_96 rfl rfl (fun v8126 hv8126 => ?_)
      refine WQ_iadd dX9_openChest_97 (by omega) (by omega) (fun v8127 hv8127 => ?_)
      refine WQ_bipush (60) (60) dX9_openChest_98 rfl rfl (fun v8128 hv8128 => ?_)
      refine WP_aload_n dX9_openChest_100 rfl ?_
      refine WP_getr dX9_openChest_101 fX9_75 rfl (lyx_is hy 56 4 rfl) (rfx hr 56 5 58 (by decide)) ?_
      refine WP_iload dX9_openChest_104 rfl ?_
      refine WQ_iconst (0) (0) dX9_openChest_106 rfl rfl (fun v8129 hv8129 => ?_)
      refine WQ_iadd dX9_openChest_107 (by omega) (by omega) (fun v8130 hv8130 => ?_)
      refine WQ_ialdf (q := 7 * v8097.toInt.toNat) dX9_openChest_108 (lyx_is hy 58 13 rfl) (lyx_n hy 58 28 rfl) (by omega) (by omega) (by omega) (fa_get0 hI8120 (c := 58) (by decide) (by omega)) (fun v8131 av8131 bv8131 => ?_)
      refine WP_iload dX9_openChest_109 rfl ?_
      refine WQ_iadd dX9_openChest_111 (by omega) (by omega) (fun v8132 hv8132 => ?_)
      refine WQ_min dX9_openChest_112 lX9_78 ⟨by decide, Nat.le_of_ble_eq_true rfl⟩ (fun v8133 av8133 bv8133 cv8133 => ?_)
      refine WQ_iast dX9_openChest_115 (lyx_is hy 58 13 rfl) (lyx_n hy 58 28 rfl) (by omega) (by omega) (fun I8134 eI8134 => ?_)
      have hI8134 : XI g n L I8134 := by rw [eI8134]; exact (fa_put hy hI8120 (c := 58) (k := 0) (s := v8097.toInt.toNat) (by decide) (by omega) (by decide) (by rw [cl (n := 7 * v8097.toInt.toNat + 0) (by omega)]) (fun _ => by omega) (fun _ => by omega))
      have e8135 : I8134 (ad g 1) 1 = L := by rw [eI8134, pp_ne _ _ (Or.inl (lyx_ne hy (by decide) (by decide) (by decide)))]; exact e8121
      have e8136 : I8134 (ad g 27) 3 = v8097 := by rw [eI8134, pp_ne _ _ (Or.inl (lyx_ne hy (by decide) (by decide) (by decide)))]; exact e8122
      have e8137 : I8134 (ad g 29) v8097.toNatClampNeg = v8100 := by rw [eI8134, pp_ne _ _ (Or.inl (lyx_ne hy (by decide) (by decide) (by decide)))]; exact e8123
      have e8138 : I8134 (ad g 56) 1 = v8108 := by rw [eI8134, pp_ne _ _ (Or.inl (lyx_ne hy (by decide) (by decide) (by decide)))]; exact e8124
      have fr8139 : fz 74 g [56, 58] I I8134 := by rw [eI8134]; exact fzx_pp hy fr8125 (by decide) (by decide)
      clear eI8134
      exact WP_vret dX9_openChest_116 rfl ⟨⟨hI8134, rfl, fr8139, frj0, (by rw [e8138, ew8096]; omega)⟩, rfl⟩
    · exact WP_vret dX9_openChest_32 rfl ⟨⟨hI, rfl, fr0, frj0, (by omega)⟩, rfl⟩
set_option maxHeartbeats 4000000 in
set_option maxRecDepth 100000 in
theorem sx_wsleep_56_27 {g : GG} {n : Int} {L : Int32} (hy : LyX g)  {I : pI} {J : pJ} {R : pR} (hr : RfX g R) (hT : R (ad g 5) 0 = some (ad g 27)) (hI : XI g n L I) (so : Int32) (da : Int32) (co : Int32) (st : Int32) (so_lo : 0 ≤ so.toInt) (so_hi : so.toInt ≤ 3) (da_lo : 0 ≤ da.toInt) (da_hi : da.toInt ≤ 6) (co_lo : 0 ≤ co.toInt) (co_hi : co.toInt ≤ 60) (st_lo : 0 ≤ st.toInt) (st_hi : st.toInt ≤ 5) (hn : 0 ≤ n ∧ n ≤ 40000) (hb : (I (ad g 56) 1).toInt ≤ 23760 * n + 700000 - 5940) : SP g mX9_sleep [.ref (ad g 49), .ref (ad g 56), .int so, .int da, .int co, .int st] I J R (fun r I' J' R' => (XI g n L I' ∧ R' = R ∧ fz 74 g [56, 58] I I' ∧ fz 74 g [] J J' ∧ (I' (ad g 56) 1).toInt ≤ (I (ad g 56) 1).toInt + 5940) ∧ r = none) := by
  refine SP_of ⟨by decide, rfl⟩ (Nat.le_of_ble_eq_true rfl) ?_
  have e8140 : I (ad g 1) 1 = L := hI.2
  have b8141 := BT_get hI.1 1 1 2 (0) (0) (900) (by decide) 1 (by decide) (by decide)
  rw [e8140] at b8141
  have fr0 : fz 74 g [56, 58] I I := fz_rf
  have frj0 : fz 74 g [] J J := fz_rf
  obtain ⟨w8142, ew8142⟩ : ∃ w : Int32, I (ad g 56) 1 = w := ⟨_, rfl⟩
  have bw8142 := BT_get hI.1 56 1 2 (0) (23760) (700000) (by decide) 1 (by decide) (by decide)
  rw [ew8142] at bw8142
  rw [ew8142] at hb
  refine WP_iload_n dX9_sleep_0 rfl ?_
  refine WQ_bipush (7) (7) dX9_sleep_1 rfl rfl (fun v8143 hv8143 => ?_)
  refine WQ_imulk (7) dX9_sleep_3 hv8143 (by omega) (by omega) (fun v8144 hv8144 => ?_)
  refine WP_istore (ls' := [(0, _), (1, _), (2, _), (3, _), (4, _), (5, _), (6, _)]) dX9_sleep_4 (by decide) rfl ?_
  refine WP_aload_n dX9_sleep_6 rfl ?_
  refine WP_getr dX9_sleep_7 fX9_25 rfl (lyx_is hy 49 9 rfl) (rfx hr 49 2 5 (by decide)) ?_
  refine WP_getr dX9_sleep_10 fX9_49 rfl (lyx_is hy 5 0 rfl) hT ?_
  refine WP_getr dX9_sleep_13 fX9_71 rfl (lyx_is hy 27 7 rfl) (rfx hr 27 6 29 (by decide)) ?_
  refine WP_iload_n dX9_sleep_16 rfl ?_
  refine WQ_iald dX9_sleep_17 (lyx_is hy 29 13 rfl) (lyx_n hy 29 4 rfl) (by omega) (by omega) (fun q hq => BT_get hI.1 29 0 4 (0) (0) (99) (by decide) q (Nat.zero_le _) hq) (fun v8145 av8145 bv8145 ev8145 => ?_)
  clear ev8145
  refine WP_istore (ls' := [(0, _), (1, _), (2, _), (3, _), (4, _), (5, _), (6, _), (7, _)]) dX9_sleep_18 (by decide) rfl ?_
  refine WP_iload dX9_sleep_20 rfl ?_
  refine WP_iload dX9_sleep_22 rfl ?_
  refine WP_aload_n dX9_sleep_24 rfl ?_
  refine WP_getr dX9_sleep_25 fX9_25 rfl (lyx_is hy 49 9 rfl) (rfx hr 49 2 5 (by decide)) ?_
  refine WP_getr dX9_sleep_28 fX9_128 rfl (lyx_is hy 5 0 rfl) (rfx hr 5 2 23 (by decide)) ?_
  refine WP_iload_n dX9_sleep_31 rfl ?_
  refine WQ_iald dX9_sleep_32 (lyx_is hy 23 13 rfl) (lyx_n hy 23 7 rfl) (by omega) (by omega) (fun q hq => BT_get hI.1 23 0 7 (0) (0) (900) (by decide) q (Nat.zero_le _) hq) (fun v8146 av8146 bv8146 ev8146 => ?_)
  clear ev8146
  refine WP_callN2 dX9_sleep_33 ⟨⟨⟨by decide, by decide⟩, zX10_stampsOf⟩, lX9_131, tX10_stampsOf⟩ (sx_stampsOf hy hr hI co v8146 (by omega) (by omega) (by omega) (by omega)) (Nat.le_of_ble_eq_true rfl) ?_
  intro r Ia Ja Ra hq
  obtain ⟨⟨ea, eb, ec⟩, v8147, rfl, av8147, bv8147, cv8147⟩ := hq
  show WP _ _ _ _ (.int _ :: _) _ _ _ _
  rw [ea, eb, ec]
  clear ea eb ec Ia Ja Ra
  refine WQ_imulb (99) (999) dX9_sleep_36 ⟨by omega, by omega⟩ ⟨by omega, by omega⟩ (by decide) (fun v8148 pv8148 av8148 bv8148 cv8148 => ?_)
  refine WP_istore (ls' := [(0, _), (1, _), (2, _), (3, _), (4, _), (5, _), (6, _), (7, _), (8, _)]) dX9_sleep_37 (by decide) rfl ?_
  refine WP_aload_n dX9_sleep_39 rfl ?_
  refine WP_getr dX9_sleep_40 fX9_25 rfl (lyx_is hy 49 9 rfl) (rfx hr 49 2 5 (by decide)) ?_
  refine WP_getr dX9_sleep_43 fX9_134 rfl (lyx_is hy 5 0 rfl) (rfx hr 5 5 26 (by decide)) ?_
  refine WP_iload dX9_sleep_46 rfl ?_
  refine WQ_iald dX9_sleep_48 (lyx_is hy 26 13 rfl) (lyx_n hy 26 6 rfl) (by omega) (by omega) (fun q hq => BT_get hI.1 26 0 6 (0) (0) (5) (by decide) q (Nat.zero_le _) hq) (fun v8149 av8149 bv8149 ev8149 => ?_)
  clear ev8149
  refine WP_istore (ls' := [(0, _), (1, _), (2, _), (3, _), (4, _), (5, _), (6, _), (7, _), (8, _), (9, _)]) dX9_sleep_49 (by decide) rfl ?_
  refine WP_aload_n dX9_sleep_51 rfl ?_
  refine WP_dup dX9_sleep_52 rfl ?_
  refine WQ_getim dX9_sleep_53 fX9_74 rfl (lyx_is hy 56 4 rfl) ew8142 ?_
  refine WP_iload dX9_sleep_56 rfl ?_
  refine WQ_iadd dX9_sleep_58 (by omega) (by omega) (fun v8150 hv8150 => ?_)
  refine WQ_puti dX9_sleep_59 fX9_74 rfl rfl (lyx_is hy 56 4 rfl) (fun I8151 eI8151 => ?_)
  have hI8151 : XI g n L I8151 := by rw [eI8151]; exact (xi_f hy hI (c := 56) (0) (23760) (700000) (by decide) (Or.inl (by decide)) (by decide) (by omega) (by omega))
  have e8152 : I8151 (ad g 1) 1 = L := by rw [eI8151, pp_ne _ _ (Or.inl (lyx_ne hy (by decide) (by decide) (by decide)))]; exact e8140
  have e8153 : I8151 (ad g 56) 1 = v8150 := by rw [eI8151, pp_self]
  have fr8154 : fz 74 g [56, 58] I I8151 := by rw [eI8151]; exact fzx_pp hy fr0 (by decide) (by decide)
  clear eI8151
  refine WP_aload_n dX9_sleep_62 rfl ?_
  refine WP_getr dX9_sleep_63 fX9_75 rfl (lyx_is hy 56 4 rfl) (rfx hr 56 5 58 (by decide)) ?_
  refine WP_iload dX9_sleep_66 rfl ?_
  refine WQ_iconst (3) (3) dX9_sleep_68 rfl rfl (fun v8155 hv8155 => ?_)
  refine WQ_iadd dX9_sleep_69 (by omega) (by omega) (fun v8156 hv8156 => ?_)
  refine WP_dup2 dX9_sleep_70 rfl rfl ?_
  refine WQ_ialdu dX9_sleep_71 (lyx_is hy 58 13 rfl) (lyx_n hy 58 28 rfl) (by omega) (by omega) (fun v8157 => ?_)
  refine WP_iload dX9_sleep_72 rfl ?_
  refine WQ_iaddu dX9_sleep_74 (fun v8158 => ?_)
  refine WQ_iast dX9_sleep_75 (lyx_is hy 58 13 rfl) (lyx_n hy 58 28 rfl) (by omega) (by omega) (fun I8159 eI8159 => ?_)
  have hI8159 : XI g n L I8159 := by rw [eI8159]; exact (fa_put hy hI8151 (c := 58) (k := 3) (s := so.toInt.toNat) (by decide) (by omega) (by decide) (by rw [cl (n := 7 * so.toInt.toNat + 3) (by omega)]) (fun h => absurd h (by decide)) (fun h => absurd h (by decide)))
  have e8160 : I8159 (ad g 1) 1 = L := by rw [eI8159, pp_ne _ _ (Or.inl (lyx_ne hy (by decide) (by decide) (by decide)))]; exact e8152
  have e8161 : I8159 (ad g 56) 1 = v8150 := by rw [eI8159, pp_ne _ _ (Or.inl (lyx_ne hy (by decide) (by decide) (by decide)))]; exact e8153
  have fr8162 : fz 74 g [56, 58] I I8159 := by rw [eI8159]; exact fzx_pp hy fr8154 (by decide) (by decide)
  clear eI8159
  refine WP_aload_n dX9_sleep_76 rfl ?_
  refine WP_getr dX9_sleep_77 fX9_75 rfl (lyx_is hy 56 4 rfl) (rfx hr 56 5 58 (by decide)) ?_
  refine WP_iload dX9_sleep_80 rfl ?_
  refine WQ_iconst (5) (5) dX9_sleep_82 rfl rfl (fun v8163 hv8163 => ?_)
  refine WQ_iadd dX9_sleep_83 (by omega) (by omega) (fun v8164 hv8164 => ?_)
  refine WP_dup2 dX9_sleep_84 rfl rfl ?_
  refine WQ_ialdu dX9_sleep_85 (lyx_is hy 58 13 rfl) (lyx_n hy 58 28 rfl) (by omega) (by omega) (fun v8165 => ?_)
  refine WP_iload dX9_sleep_86 rfl ?_
  refine WP_iload dX9_sleep_88 rfl ?_
  refine WP_iload dX9_sleep_90 rfl ?_
  refine WQ_isub dX9_sleep_92 (by omega) (by omega) (fun v8166 hv8166 => ?_)
  refine WQ_imulu dX9_sleep_93 (fun v8167 => ?_)
  refine WQ_iaddu dX9_sleep_94 (fun v8168 => ?_)
  refine WQ_iast dX9_sleep_95 (lyx_is hy 58 13 rfl) (lyx_n hy 58 28 rfl) (by omega) (by omega) (fun I8169 eI8169 => ?_)
  have hI8169 : XI g n L I8169 := by rw [eI8169]; exact (fa_put hy hI8159 (c := 58) (k := 5) (s := so.toInt.toNat) (by decide) (by omega) (by decide) (by rw [cl (n := 7 * so.toInt.toNat + 5) (by omega)]) (fun h => absurd h (by decide)) (fun h => absurd h (by decide)))
  have e8170 : I8169 (ad g 1) 1 = L := by rw [eI8169, pp_ne _ _ (Or.inl (lyx_ne hy (by decide) (by decide) (by decide)))]; exact e8160
  have e8171 : I8169 (ad g 56) 1 = v8150 := by rw [eI8169, pp_ne _ _ (Or.inl (lyx_ne hy (by decide) (by decide) (by decide)))]; exact e8161
  have fr8172 : fz 74 g [56, 58] I I8169 := by rw [eI8169]; exact fzx_pp hy fr8162 (by decide) (by decide)
  clear eI8169
  refine WP_aload_n dX9_sleep_96 rfl ?_
  refine WP_getr dX9_sleep_97 fX9_75 rfl (lyx_is hy 56 4 rfl) (rfx hr 56 5 58 (by decide)) ?_
  refine WP_iload dX9_sleep_100 rfl ?_
  refine WQ_iconst (0) (0) dX9_sleep_102 rfl rfl (fun v8173 hv8173 => ?_)
  refine WQ_iadd dX9_sleep_103 (by omega) (by omega) (fun v8174 hv8174 => ?_)
  refine WP_aload_n dX9_sleep_104 rfl ?_
  refine WP_getr dX9_sleep_105 fX9_25 rfl (lyx_is hy 49 9 rfl) (rfx hr 49 2 5 (by decide)) ?_
  refine WP_iload dX9_sleep_108 rfl ?_
  refine WP_iload dX9_sleep_110 rfl ?_
  refine WP_iload_n dX9_sleep_112 rfl ?_
  refine WP_callV3 (k := 0) dX9_sleep_113 ⟨⟨⟨by decide, by decide⟩, zX0_coinsBehind⟩, lX9_137, by decide, rfl, vX0_coinsBehind.1, vX0_coinsBehind.2⟩ (lyx_is hy 5 0 rfl) (sx_coinsBehind hy hr hI8169 co st da (by omega) (by omega) (by omega) (by omega) (by omega) (by omega)) (Nat.le_of_ble_eq_true rfl) ?_
  intro r Ia Ja Ra hq
  obtain ⟨⟨ea, eb, ec⟩, v8175, rfl, av8175, bv8175⟩ := hq
  show WP _ _ _ _ (.int _ :: _) _ _ _ _
  rw [ea, eb, ec]
  clear ea eb ec Ia Ja Ra
  refine WQ_iast dX9_sleep_116 (lyx_is hy 58 13 rfl) (lyx_n hy 58 28 rfl) (by omega) (by omega) (fun I8176 eI8176 => ?_)
  have hI8176 : XI g n L I8176 := by rw [eI8176]; exact (fa_put hy hI8169 (c := 58) (k := 0) (s := so.toInt.toNat) (by decide) (by omega) (by decide) (by rw [cl (n := 7 * so.toInt.toNat + 0) (by omega)]) (fun _ => by omega) (fun _ => by omega))
  have e8177 : I8176 (ad g 1) 1 = L := by rw [eI8176, pp_ne _ _ (Or.inl (lyx_ne hy (by decide) (by decide) (by decide)))]; exact e8170
  have e8178 : I8176 (ad g 56) 1 = v8150 := by rw [eI8176, pp_ne _ _ (Or.inl (lyx_ne hy (by decide) (by decide) (by decide)))]; exact e8171
  have fr8179 : fz 74 g [56, 58] I I8176 := by rw [eI8176]; exact fzx_pp hy fr8172 (by decide) (by decide)
  clear eI8176
  refine WP_aload_n dX9_sleep_117 rfl ?_
  refine WP_getr dX9_sleep_118 fX9_75 rfl (lyx_is hy 56 4 rfl) (rfx hr 56 5 58 (by decide)) ?_
  refine WP_iload dX9_sleep_121 rfl ?_
  refine WQ_iconst (1) (1) dX9_sleep_123 rfl rfl (fun v8180 hv8180 => ?_)
  refine WQ_iadd dX9_sleep_124 (by omega) (by omega) (fun v8181 hv8181 => ?_)
  refine WP_iload dX9_sleep_125 rfl ?_
  refine WQ_iast dX9_sleep_127 (lyx_is hy 58 13 rfl) (lyx_n hy 58 28 rfl) (by omega) (by omega) (fun I8182 eI8182 => ?_)
  have hI8182 : XI g n L I8182 := by rw [eI8182]; exact (fa_put hy hI8176 (c := 58) (k := 1) (s := so.toInt.toNat) (by decide) (by omega) (by decide) (by rw [cl (n := 7 * so.toInt.toNat + 1) (by omega)]) (fun _ => by omega) (fun _ => by omega))
  have e8183 : I8182 (ad g 1) 1 = L := by rw [eI8182, pp_ne _ _ (Or.inl (lyx_ne hy (by decide) (by decide) (by decide)))]; exact e8177
  have e8184 : I8182 (ad g 56) 1 = v8150 := by rw [eI8182, pp_ne _ _ (Or.inl (lyx_ne hy (by decide) (by decide) (by decide)))]; exact e8178
  have fr8185 : fz 74 g [56, 58] I I8182 := by rw [eI8182]; exact fzx_pp hy fr8179 (by decide) (by decide)
  clear eI8182
  exact WP_vret dX9_sleep_128 rfl ⟨⟨hI8182, rfl, fr8185, frj0, (by rw [e8184, ew8142]; omega)⟩, rfl⟩
