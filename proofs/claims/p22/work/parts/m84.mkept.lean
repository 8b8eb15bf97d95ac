set_option maxHeartbeats 4000000 in
set_option maxRecDepth 100000 in
theorem sm_begin_38 {g : GG} {n : Int} {L : Int32} (hy : Ly g)  {I : pI} {J : pJ} {R : pR} (hr : Rf g R) (hI : MP g n L I)   (hn : 0 ≤ n) : SP g mX11_begin [.ref (ad g 0), .ref (ad g 38)] I J R (fun r I' J' R' => (MP g n L I' ∧ R' = R ∧ fz 49 g [38] I I' ∧ fz 49 g [] J J' ∧ fs g [] I I') ∧ r = none) := by
  refine SP_of ⟨by decide, rfl⟩ (Nat.le_of_ble_eq_true rfl) ?_
  have e2700 : I (ad g 0) 1 = L := hI.1.2
  have b2701 := BT_get hI.1.1 0 1 2 (0) (0) (900) (by decide) 1 (by decide) (by decide)
  rw [e2700] at b2701
  have fr0 : fz 49 g [38] I I := fz_rf
  have frj0 : fz 49 g [] J J := fz_rf
  have frq0 : fs g [] I I := fs_rf
  refine WQ_iconst (0) (0) dX11_begin_0 rfl rfl (fun v2702 hv2702 => ?_)
  refine WP_istore_n (ls' := [(0, _), (1, _), (2, _)]) dX11_begin_1 (by decide) rfl ?_
  have lp2_2705 : ∀ (mz : Nat) (i2703 : Int32) (I2704 : pI) (J2705 : pJ), MP g n L I2704 → fz 49 g [38] I I2704 → fz 49 g [] J J2705 → fs g [] I I2704 → 0 ≤ i2703.toInt → i2703.toInt ≤ 35 → (36 - i2703.toInt).toNat < mz → WP g mX11_begin 2 [(0, .ref (ad g 0)), (1, .ref (ad g 38)), (2, .int i2703)] [] I2704 J2705 R (fun r I' J' R' => (MP g n L I' ∧ R' = R ∧ fz 49 g [38] I I' ∧ fz 49 g [] J J' ∧ fs g [] I I') ∧ r = none) := by
    intro mz
    induction mz with
    | zero =>
      intro i2703 I2704 J2705 hI2704 fiI2704 fjJ2705 fqI2704 ai2703 bi2703 hmlp2_2705
      exact absurd hmlp2_2705 (Nat.not_lt_zero _)
    | succ mz ihlp2_2705 =>
      intro i2703 I2704 J2705 hI2704 fiI2704 fjJ2705 fqI2704 ai2703 bi2703 hmlp2_2705
      have e2707 : I2704 (ad g 0) 1 = L := hI2704.1.2
      have b2708 := BT_get hI2704.1.1 0 1 2 (0) (0) (900) (by decide) 1 (by decide) (by decide)
      rw [e2707] at b2708
      refine WP_iload_n dX11_begin_2 rfl ?_
      refine WQ_bipush (35) (35) dX11_begin_3 rfl rfl (fun v2709 hv2709 => ?_)
      refine WQ_icmp_ge 30 dX11_begin_5 rfl (fun c2709 => ?_) (fun c2709 => ?_)
      · refine WQ_iconst (0) (0) dX11_begin_30 rfl rfl (fun v2711 hv2711 => ?_)
        refine WP_istore_n (ls' := [(0, _), (1, _), (2, _)]) dX11_begin_31 (by decide) rfl ?_
        have lp32_2714 : ∀ (mz : Nat) (i2712 : Int32) (I2713 : pI) (J2714 : pJ), MP g n L I2713 → fz 49 g [38] I I2713 → fz 49 g [] J J2714 → fs g [] I I2713 → 0 ≤ i2712.toInt → i2712.toInt ≤ 4 → (5 - i2712.toInt).toNat < mz → WP g mX11_begin 32 [(0, .ref (ad g 0)), (1, .ref (ad g 38)), (2, .int i2712)] [] I2713 J2714 R (fun r I' J' R' => (MP g n L I' ∧ R' = R ∧ fz 49 g [38] I I' ∧ fz 49 g [] J J' ∧ fs g [] I I') ∧ r = none) := by
          intro mz
          induction mz with
          | zero =>
            intro i2712 I2713 J2714 hI2713 fiI2713 fjJ2714 fqI2713 ai2712 bi2712 hmlp32_2714
            exact absurd hmlp32_2714 (Nat.not_lt_zero _)
          | succ mz ihlp32_2714 =>
            intro i2712 I2713 J2714 hI2713 fiI2713 fjJ2714 fqI2713 ai2712 bi2712 hmlp32_2714
            have e2716 : I2713 (ad g 0) 1 = L := hI2713.1.2
            have b2717 := BT_get hI2713.1.1 0 1 2 (0) (0) (900) (by decide) 1 (by decide) (by decide)
            rw [e2716] at b2717
            refine WP_iload_n dX11_begin_32 rfl ?_
            refine WP_aload_n dX11_begin_33 rfl ?_
            refine WQ_geti dX11_begin_34 fX11_329 rfl (ly_is hy 0 11 rfl) (BT_get hI2713.1.1 0 10 11 (0) (0) (4) (by decide) 10 (by decide) (by decide)) (fun v2718 ev2718 av2718 bv2718 => ?_)
            refine WQ_icmp_ge 57 dX11_begin_37 rfl (fun c2718 => ?_) (fun c2718 => ?_)
            · exact WP_vret dX11_begin_57 rfl ⟨⟨hI2713, rfl, fiI2713, fjJ2714, fqI2713⟩, rfl⟩
            · refine WP_aload_n dX11_begin_40 rfl ?_
              refine WQ_iconst (0) (0) dX11_begin_41 rfl rfl (fun v2720 hv2720 => ?_)
              refine WP_iload_n dX11_begin_42 rfl ?_
              refine WQ_iadd dX11_begin_43 (by omega) (by omega) (fun v2721 hv2721 => ?_)
              refine WP_aload_n dX11_begin_44 rfl ?_
              refine WP_getr dX11_begin_45 fX11_241 rfl (ly_is hy 0 11 rfl) (rf hr 0 28 10 (by decide)) ?_
              refine WP_iload_n dX11_begin_48 rfl ?_
              refine WQ_iald dX11_begin_49 (ly_is hy 10 13 rfl) (ly_n hy 10 4 rfl) (by omega) (by omega) (fun q hq => BT_get hI2713.1.1 10 0 4 (0) (0) (60) (by decide) q (Nat.zero_le _) hq) (fun v2722 av2722 bv2722 ev2722 => ?_)
              clear ev2722
              refine WQ_iast dX11_begin_50 (ly_is hy 38 13 rfl) (ly_n hy 38 35 rfl) (by omega) (by omega) (fun I2723 eI2723 => ?_)
              have hI2723 : MP g n L I2723 := by rw [eI2723]; exact (mp_w hy hI2713 (c := 38) (mi_rr hy hI2713.1 (c := 38) (0) (3) (0) (0) (60) (by decide) (Or.inl (by decide)) (by rw [cl (n := v2721.toInt.toNat) (by omega)]; omega) (by decide) (fun _ => ⟨by omega, by omega⟩)) (by decide) (by decide) (Or.inl (by decide)))
              have e2724 : I2723 (ad g 0) 1 = L := by rw [eI2723, pp_ne _ _ (Or.inl (ly_ne hy (by decide) (by decide) (by decide)))]; exact e2716
              have e2725 : I2723 (ad g 0) 10 = v2718 := by rw [eI2723, pp_ne _ _ (Or.inl (ly_ne hy (by decide) (by decide) (by decide)))]; exact ev2718
              have fr2726 : fs g [] I I2723 := by rw [eI2723]; exact fs_ppn hy fqI2713 (by decide) (by decide)
              have fr2727 : fz 49 g [38] I I2723 := by rw [eI2723]; exact fzm_pp hy fiI2713 (by decide) (by decide)
              clear eI2723
              refine WP_iinc (ls' := [(0, _), (1, _), (2, _)]) dX11_begin_51 rfl (by decide) rfl ?_
              have hv2728 : (i2712 + Int32.ofInt (1)).toInt = i2712.toInt + (1) := ia_n rfl (by omega) (by omega)
              generalize i2712 + Int32.ofInt (1) = v2728 at hv2728 ⊢
              refine WP_goto 32 dX11_begin_54 rfl ?_
              exact WP_sub (fc rfl (fc rfl (fc rfl fn))) (ihlp32_2714 v2728 I2723 J2714 hI2723 fr2727 fjJ2714 fr2726 (by omega) (by omega) (by omega))
        exact WP_sub (fc rfl (fc rfl (fc rfl fn))) (lp32_2714 _ v2711 I2704 J2705 hI2704 fiI2704 fjJ2705 fqI2704 (by omega) (by omega) (Nat.lt_succ_self _))
      · refine WP_iload_n dX11_begin_8 rfl ?_
        refine WQ_bipush (28) (28) dX11_begin_9 rfl rfl (fun v2729 hv2729 => ?_)
        refine WQ_icmp_lt 20 dX11_begin_11 rfl (fun c2729 => ?_) (fun c2729 => ?_)
        · rcases (show (0 ≤ i2703.toInt ∧ i2703.toInt ≤ 3) ∨ (4 ≤ i2703.toInt ∧ i2703.toInt ≤ 7) ∨ (8 ≤ i2703.toInt ∧ i2703.toInt ≤ 31) by omega) with ⟨k2731_0, k2731_1⟩ | ⟨k2731_2, k2731_3⟩ | ⟨k2731_4, k2731_5⟩
          · refine WP_aload_n dX11_begin_20 rfl ?_
            refine WP_iload_n dX11_begin_21 rfl ?_
            refine WQ_iconst (0) (0) dX11_begin_22 rfl rfl (fun v2732 hv2732 => ?_)
            refine WQ_iast dX11_begin_23 (ly_is hy 38 13 rfl) (ly_n hy 38 35 rfl) (by omega) (by omega) (fun I2733 eI2733 => ?_)
            have hI2733 : MP g n L I2733 := by rw [eI2733]; exact (mp_w hy hI2704 (c := 38) (mi_rr hy hI2704.1 (c := 38) (0) (3) (0) (0) (60) (by decide) (Or.inl (by decide)) (by rw [cl (n := i2703.toInt.toNat) (by omega)]; omega) (by decide) (fun _ => ⟨by omega, by omega⟩)) (by decide) (by decide) (Or.inl (by decide)))
            have e2734 : I2733 (ad g 0) 1 = L := by rw [eI2733, pp_ne _ _ (Or.inl (ly_ne hy (by decide) (by decide) (by decide)))]; exact e2707
            have fr2735 : fs g [] I I2733 := by rw [eI2733]; exact fs_ppn hy fqI2704 (by decide) (by decide)
            have fr2736 : fz 49 g [38] I I2733 := by rw [eI2733]; exact fzm_pp hy fiI2704 (by decide) (by decide)
            clear eI2733
            refine WP_iinc (ls' := [(0, _), (1, _), (2, _)]) dX11_begin_24 rfl (by decide) rfl ?_
            have hv2737 : (i2703 + Int32.ofInt (1)).toInt = i2703.toInt + (1) := ia_n rfl (by omega) (by omega)
            generalize i2703 + Int32.ofInt (1) = v2737 at hv2737 ⊢
            refine WP_goto 2 dX11_begin_27 rfl ?_
            exact WP_sub (fc rfl (fc rfl (fc rfl fn))) (ihlp2_2705 v2737 I2733 J2705 hI2733 fr2736 fjJ2705 fr2735 (by omega) (by omega) (by omega))
          · refine WP_aload_n dX11_begin_20 rfl ?_
            refine WP_iload_n dX11_begin_21 rfl ?_
            refine WQ_iconst (0) (0) dX11_begin_22 rfl rfl (fun v2738 hv2738 => ?_)
            refine WQ_iast dX11_begin_23 (ly_is hy 38 13 rfl) (ly_n hy 38 35 rfl) (by omega) (by omega) (fun I2739 eI2739 => ?_)
            have hI2739 : MP g n L I2739 := by rw [eI2739]; exact (mp_w hy hI2704 (c := 38) (mi_rr hy hI2704.1 (c := 38) (4) (7) (0) (0) (5) (by decide) (Or.inl (by decide)) (by rw [cl (n := i2703.toInt.toNat) (by omega)]; omega) (by decide) (fun _ => ⟨by omega, by omega⟩)) (by decide) (by decide) (Or.inl (by decide)))
            have e2740 : I2739 (ad g 0) 1 = L := by rw [eI2739, pp_ne _ _ (Or.inl (ly_ne hy (by decide) (by decide) (by decide)))]; exact e2707
            have fr2741 : fs g [] I I2739 := by rw [eI2739]; exact fs_ppn hy fqI2704 (by decide) (by decide)
            have fr2742 : fz 49 g [38] I I2739 := by rw [eI2739]; exact fzm_pp hy fiI2704 (by decide) (by decide)
            clear eI2739
            refine WP_iinc (ls' := [(0, _), (1, _), (2, _)]) dX11_begin_24 rfl (by decide) rfl ?_
            have hv2743 : (i2703 + Int32.ofInt (1)).toInt = i2703.toInt + (1) := ia_n rfl (by omega) (by omega)
            generalize i2703 + Int32.ofInt (1) = v2743 at hv2743 ⊢
            refine WP_goto 2 dX11_begin_27 rfl ?_
            exact WP_sub (fc rfl (fc rfl (fc rfl fn))) (ihlp2_2705 v2743 I2739 J2705 hI2739 fr2742 fjJ2705 fr2741 (by omega) (by omega) (by omega))
          · refine WP_aload_n dX11_begin_20 rfl ?_
            refine WP_iload_n dX11_begin_21 rfl ?_
            refine WQ_iconst (0) (0) dX11_begin_22 rfl rfl (fun v2744 hv2744 => ?_)
            refine WQ_iast dX11_begin_23 (ly_is hy 38 13 rfl) (ly_n hy 38 35 rfl) (by omega) (by omega) (fun I2745 eI2745 => ?_)
            have hI2745 : MP g n L I2745 := by rw [eI2745]; exact (mp_w hy hI2704 (c := 38) (mi_rr hy hI2704.1 (c := 38) (8) (27) (0) (0) (0) (by decide) (Or.inl (by decide)) (by rw [cl (n := i2703.toInt.toNat) (by omega)]; omega) (by decide) (fun h => absurd h (by decide))) (by decide) (by decide) (Or.inl (by decide)))
            have e2746 : I2745 (ad g 0) 1 = L := by rw [eI2745, pp_ne _ _ (Or.inl (ly_ne hy (by decide) (by decide) (by decide)))]; exact e2707
            have fr2747 : fs g [] I I2745 := by rw [eI2745]; exact fs_ppn hy fqI2704 (by decide) (by decide)
            have fr2748 : fz 49 g [38] I I2745 := by rw [eI2745]; exact fzm_pp hy fiI2704 (by decide) (by decide)
            clear eI2745
            refine WP_iinc (ls' := [(0, _), (1, _), (2, _)]) dX11_begin_24 rfl (by decide) rfl ?_
            have hv2749 : (i2703 + Int32.ofInt (1)).toInt = i2703.toInt + (1) := ia_n rfl (by omega) (by omega)
            generalize i2703 + Int32.ofInt (1) = v2749 at hv2749 ⊢
            refine WP_goto 2 dX11_begin_27 rfl ?_
            exact WP_sub (fc rfl (fc rfl (fc rfl fn))) (ihlp2_2705 v2749 I2745 J2705 hI2745 fr2748 fjJ2705 fr2747 (by omega) (by omega) (by omega))
        · refine WP_iload_n dX11_begin_14 rfl ?_
          refine WQ_bipush (32) (32) dX11_begin_15 rfl rfl (fun v2750 hv2750 => ?_)
          refine WQ_icmp_lt 24 dX11_begin_17 rfl (fun c2750 => ?_) (fun c2750 => ?_)
          · refine WP_iinc (ls' := [(0, _), (1, _), (2, _)]) dX11_begin_24 rfl (by decide) rfl ?_
            have hv2752 : (i2703 + Int32.ofInt (1)).toInt = i2703.toInt + (1) := ia_n rfl (by omega) (by omega)
            generalize i2703 + Int32.ofInt (1) = v2752 at hv2752 ⊢
            refine WP_goto 2 dX11_begin_27 rfl ?_
            exact WP_sub (fc rfl (fc rfl (fc rfl fn))) (ihlp2_2705 v2752 I2704 J2705 hI2704 fiI2704 fjJ2705 fqI2704 (by omega) (by omega) (by omega))
          · rcases (show (32 ≤ i2703.toInt ∧ i2703.toInt ≤ 32) ∨ (33 ≤ i2703.toInt ∧ i2703.toInt ≤ 33) ∨ (34 ≤ i2703.toInt ∧ i2703.toInt ≤ 34) by omega) with ⟨k2753_0, k2753_1⟩ | ⟨k2753_2, k2753_3⟩ | ⟨k2753_4, k2753_5⟩
            · refine WP_aload_n dX11_begin_20 rfl ?_
              refine WP_iload_n dX11_begin_21 rfl ?_
              refine WQ_iconst (0) (0) dX11_begin_22 rfl rfl (fun v2754 hv2754 => ?_)
              refine WQ_iast dX11_begin_23 (ly_is hy 38 13 rfl) (ly_n hy 38 35 rfl) (by omega) (by omega) (fun I2755 eI2755 => ?_)
              have hI2755 : MP g n L I2755 := by rw [eI2755]; exact (mp_w hy hI2704 (c := 38) (mi_rr hy hI2704.1 (c := 38) (32) (32) (0) (23760) (0) (by decide) (Or.inl (by decide)) (by rw [cl (n := i2703.toInt.toNat) (by omega)]; omega) (by decide) (fun _ => ⟨by omega, by omega⟩)) (by decide) (by decide) (Or.inl (by decide)))
              have e2756 : I2755 (ad g 0) 1 = L := by rw [eI2755, pp_ne _ _ (Or.inl (ly_ne hy (by decide) (by decide) (by decide)))]; exact e2707
              have fr2757 : fs g [] I I2755 := by rw [eI2755]; exact fs_ppn hy fqI2704 (by decide) (by decide)
              have fr2758 : fz 49 g [38] I I2755 := by rw [eI2755]; exact fzm_pp hy fiI2704 (by decide) (by decide)
              clear eI2755
              refine WP_iinc (ls' := [(0, _), (1, _), (2, _)]) dX11_begin_24 rfl (by decide) rfl ?_
              have hv2759 : (i2703 + Int32.ofInt (1)).toInt = i2703.toInt + (1) := ia_n rfl (by omega) (by omega)
              generalize i2703 + Int32.ofInt (1) = v2759 at hv2759 ⊢
              refine WP_goto 2 dX11_begin_27 rfl ?_
              exact WP_sub (fc rfl (fc rfl (fc rfl fn))) (ihlp2_2705 v2759 I2755 J2705 hI2755 fr2758 fjJ2705 fr2757 (by omega) (by omega) (by omega))
            · refine WP_aload_n dX11_begin_20 rfl ?_
              refine WP_iload_n dX11_begin_21 rfl ?_
              refine WQ_iconst (0) (0) dX11_begin_22 rfl rfl (fun v2760 hv2760 => ?_)
              refine WQ_iast dX11_begin_23 (ly_is hy 38 13 rfl) (ly_n hy 38 35 rfl) (by omega) (by omega) (fun I2761 eI2761 => ?_)
              have hI2761 : MP g n L I2761 := by rw [eI2761]; exact (mp_w hy hI2704 (c := 38) (mi_rr hy hI2704.1 (c := 38) (33) (33) (0) (1) (0) (by decide) (Or.inl (by decide)) (by rw [cl (n := i2703.toInt.toNat) (by omega)]; omega) (by decide) (fun _ => ⟨by omega, by omega⟩)) (by decide) (by decide) (Or.inl (by decide)))
              have e2762 : I2761 (ad g 0) 1 = L := by rw [eI2761, pp_ne _ _ (Or.inl (ly_ne hy (by decide) (by decide) (by decide)))]; exact e2707
              have fr2763 : fs g [] I I2761 := by rw [eI2761]; exact fs_ppn hy fqI2704 (by decide) (by decide)
              have fr2764 : fz 49 g [38] I I2761 := by rw [eI2761]; exact fzm_pp hy fiI2704 (by decide) (by decide)
              clear eI2761
              refine WP_iinc (ls' := [(0, _), (1, _), (2, _)]) dX11_begin_24 rfl (by decide) rfl ?_
              have hv2765 : (i2703 + Int32.ofInt (1)).toInt = i2703.toInt + (1) := ia_n rfl (by omega) (by omega)
              generalize i2703 + Int32.ofInt (1) = v2765 at hv2765 ⊢
              refine WP_goto 2 dX11_begin_27 rfl ?_
              exact WP_sub (fc rfl (fc rfl (fc rfl fn))) (ihlp2_2705 v2765 I2761 J2705 hI2761 fr2764 fjJ2705 fr2763 (by omega) (by omega) (by omega))
            · refine WP_aload_n dX11_begin_20 rfl ?_
              refine WP_iload_n dX11_begin_21 rfl ?_
              refine WQ_iconst (0) (0) dX11_begin_22 rfl rfl (fun v2766 hv2766 => ?_)
              refine WQ_iast dX11_begin_23 (ly_is hy 38 13 rfl) (ly_n hy 38 35 rfl) (by omega) (by omega) (fun I2767 eI2767 => ?_)
              have hI2767 : MP g n L I2767 := by rw [eI2767]; exact (mp_w hy hI2704 (c := 38) (mi_rr hy hI2704.1 (c := 38) (34) (34) (0) (0) (0) (by decide) (Or.inl (by decide)) (by rw [cl (n := i2703.toInt.toNat) (by omega)]; omega) (by decide) (fun h => absurd h (by decide))) (by decide) (by decide) (Or.inl (by decide)))
              have e2768 : I2767 (ad g 0) 1 = L := by rw [eI2767, pp_ne _ _ (Or.inl (ly_ne hy (by decide) (by decide) (by decide)))]; exact e2707
              have fr2769 : fs g [] I I2767 := by rw [eI2767]; exact fs_ppn hy fqI2704 (by decide) (by decide)
              have fr2770 : fz 49 g [38] I I2767 := by rw [eI2767]; exact fzm_pp hy fiI2704 (by decide) (by decide)
              clear eI2767
              refine WP_iinc (ls' := [(0, _), (1, _), (2, _)]) dX11_begin_24 rfl (by decide) rfl ?_
              have hv2771 : (i2703 + Int32.ofInt (1)).toInt = i2703.toInt + (1) := ia_n rfl (by omega) (by omega)
              generalize i2703 + Int32.ofInt (1) = v2771 at hv2771 ⊢
              refine WP_goto 2 dX11_begin_27 rfl ?_
              exact WP_sub (fc rfl (fc rfl (fc rfl fn))) (ihlp2_2705 v2771 I2767 J2705 hI2767 fr2770 fjJ2705 fr2769 (by omega) (by omega) (by omega))
  exact WP_sub (fc rfl (fc rfl (fc rfl fn))) (lp2_2705 _ v2702 I J hI fr0 frj0 frq0 (by omega) (by omega) (Nat.lt_succ_self _))
set_option maxHeartbeats 4000000 in
set_option maxRecDepth 100000 in
theorem sm_anew {g : GG} {n : Int} {L : Int32} (hy : Ly g)  {I : pI} {J : pJ} {R : pR} (hr : Rf g R) (hI : MP g n L I)   (hn : 0 ≤ n) : SP g mX11_anew [.ref (ad g 0)] I J R (fun r I' J' R' => (MP g n L I' ∧ R' = R ∧ fz 49 g [38] I I' ∧ fz 49 g [0] J J' ∧ fs g [] I I') ∧ ∃ v : Int32, r = some (.int v)) := by
  refine SP_of ⟨by decide, rfl⟩ (Nat.le_of_ble_eq_true rfl) ?_
  have e2844 : I (ad g 0) 1 = L := hI.1.2
  have b2845 := BT_get hI.1.1 0 1 2 (0) (0) (900) (by decide) 1 (by decide) (by decide)
  rw [e2844] at b2845
  have fr0 : fz 49 g [38] I I := fz_rf
  have frj0 : fz 49 g [0] J J := fz_rf
  have frq0 : fs g [] I I := fs_rf
  refine WP_aload_n dX11_anew_0 rfl ?_
  refine WP_getr dX11_anew_1 fX11_283 rfl (ly_is hy 0 11 rfl) (rf hr 0 59 38 (by decide)) ?_
  refine WQ_bipush (33) (33) dX11_anew_4 rfl rfl (fun v2846 hv2846 => ?_)
  refine WQ_ialdr dX11_anew_6 (ly_is hy 38 13 rfl) (ly_n hy 38 35 rfl) (by omega) (by omega) (a := 33) (b := 34) (by omega) (by omega) (fun q hq1 hq2 => BT_get hI.1.1 38 33 34 (0) (1) (0) (by decide) q hq1 hq2) (fun v2847 av2847 bv2847 => ?_)
  refine WP_istore_n (ls' := [(0, _), (1, _)]) dX11_anew_7 (by decide) rfl ?_
  refine WP_aload_n dX11_anew_8 rfl ?_
  refine WP_aload_n dX11_anew_9 rfl ?_
  refine WP_getr dX11_anew_10 fX11_283 rfl (ly_is hy 0 11 rfl) (rf hr 0 59 38 (by decide)) ?_
  refine WP_callV1 (k := 11) dX11_anew_13 ⟨⟨⟨by decide, by decide⟩, zX11_begin⟩, lX11_342, by decide, rfl, vX11_begin.1, vX11_begin.2⟩ (ly_is hy 0 11 rfl) (sm_begin_38 hy hr hI   (by omega)) (Nat.le_of_ble_eq_true rfl) ?_
  intro r I2848 J2849 Ra hq
  obtain ⟨⟨hI2848, ec, fiI2848, fjI2848, fqI2848⟩, rfl⟩ := hq
  rw [ec]
  clear ec Ra
  have fr2850 : fz 49 g [38] I I2848 := fz_tr fr0 (fz_mono fiI2848 (by decide))
  have fr2851 : fs g [] I I2848 := fs_tr frq0 (fs_mono fqI2848 (by decide))
  have fr2852 : fz 49 g [0] J J2849 := fz_tr frj0 (fz_mono fjI2848 (by decide))
  have e2853 : I2848 (ad g 0) 1 = L := hI2848.1.2
  have b2854 := BT_get hI2848.1.1 0 1 2 (0) (0) (900) (by decide) 1 (by decide) (by decide)
  rw [e2853] at b2854
  refine WP_aload_n dX11_anew_16 rfl ?_
  refine WP_lconst (0) dX11_anew_17 rfl ?_
  obtain ⟨l2855, hl2855, el2855⟩ : ∃ v : Int64, v.toInt = 0 ∧ (0 : Int64) = v := ⟨_, rfl, rfl⟩
  rw [el2855]; clear el2855
  refine WQ_putl dX11_anew_18 fX11_346 rfl rfl (ly_is hy 0 11 rfl) (fun J2856 eJ2856 => ?_)
  have fr2857 : fz 49 g [0] J J2856 := by rw [eJ2856]; exact fzm_pp hy fr2852 (by decide) (by decide)
  clear eJ2856
  refine WP_iload_n dX11_anew_21 rfl ?_
  exact WP_iret dX11_anew_22 rfl ⟨⟨hI2848, rfl, fr2850, fr2857, fr2851⟩, _, rfl⟩
set_option maxHeartbeats 4000000 in
set_option maxRecDepth 100000 in
theorem sm_keep {g : GG} {n : Int} {L : Int32} (hy : Ly g)  {I : pI} {J : pJ} {R : pR} (hr : Rf g R) (hI : MP g n L I) (a : Int32)  : SP g mX11_keep [.ref (ad g 0), .int a] I J R (fun r I' J' R' => (MP g n L I' ∧ R' = R ∧ fz 49 g [42, 44] I I' ∧ fz 49 g [43] J J' ∧ fs g [] I I') ∧ ∃ v : Int32, r = some (.int v)) := by
  refine SP_of ⟨by decide, rfl⟩ (Nat.le_of_ble_eq_true rfl) ?_
  have e2858 : I (ad g 0) 1 = L := hI.1.2
  have b2859 := BT_get hI.1.1 0 1 2 (0) (0) (900) (by decide) 1 (by decide) (by decide)
  rw [e2858] at b2859
  have fr0 : fz 49 g [42, 44] I I := fz_rf
  have frj0 : fz 49 g [43] J J := fz_rf
  have frq0 : fs g [] I I := fs_rf
  refine WP_iload_n dX11_keep_0 rfl ?_
  refine WP_callS1 dX11_keep_1 ⟨⟨⟨by decide, by decide⟩, zX11_isSlot⟩, lX11_494, tX11_isSlot⟩ (sm_isSlot hy hr hI a ) (Nat.le_of_ble_eq_true rfl) ?_
  intro r Ia Ja Ra hq
  obtain ⟨⟨ea, eb, ec⟩, v2860, rfl, av2860, bv2860, cv2860⟩ := hq
  show WP _ _ _ _ (.int _ :: _) _ _ _ _
  rw [ea, eb, ec]
  clear ea eb ec Ia Ja Ra
  refine WQ_if_ne 10 dX11_keep_4 rfl (fun c2860 => ?_) (fun c2860 => ?_)
  · rcases (show (0 ≤ a.toInt ∧ a.toInt ≤ 0) ∨ (1 ≤ a.toInt ∧ a.toInt ≤ 1) ∨ (2 ≤ a.toInt ∧ a.toInt ≤ 2) by omega) with ⟨k2862_0, k2862_1⟩ | ⟨k2862_2, k2862_3⟩ | ⟨k2862_4, k2862_5⟩
    · refine WQ_iconst (0) (0) dX11_keep_10 rfl rfl (fun v2863 hv2863 => ?_)
      refine WP_istore_n (ls' := [(0, _), (1, _), (2, _)]) dX11_keep_11 (by decide) rfl ?_
      have lp12_2866 : ∀ (mz : Nat) (i2864 : Int32) (I2865 : pI) (J2866 : pJ), MP g n L I2865 → fz 49 g [42, 44] I I2865 → fz 49 g [43] J J2866 → fs g [] I I2865 → 0 ≤ i2864.toInt → i2864.toInt ≤ 35 → (36 - i2864.toInt).toNat < mz → WP g mX11_keep 12 [(0, .ref (ad g 0)), (1, .int a), (2, .int i2864)] [] I2865 J2866 R (fun r I' J' R' => (MP g n L I' ∧ R' = R ∧ fz 49 g [42, 44] I I' ∧ fz 49 g [43] J J' ∧ fs g [] I I') ∧ ∃ v : Int32, r = some (.int v)) := by
        intro mz
        induction mz with
        | zero =>
          intro i2864 I2865 J2866 hI2865 fiI2865 fjJ2866 fqI2865 ai2864 bi2864 hmlp12_2866
          exact absurd hmlp12_2866 (Nat.not_lt_zero _)
        | succ mz ihlp12_2866 =>
          intro i2864 I2865 J2866 hI2865 fiI2865 fjJ2866 fqI2865 ai2864 bi2864 hmlp12_2866
          have e2868 : I2865 (ad g 0) 1 = L := hI2865.1.2
          have b2869 := BT_get hI2865.1.1 0 1 2 (0) (0) (900) (by decide) 1 (by decide) (by decide)
          rw [e2868] at b2869
          refine WP_iload_n dX11_keep_12 rfl ?_
          refine WQ_bipush (35) (35) dX11_keep_13 rfl rfl (fun v2870 hv2870 => ?_)
          refine WQ_icmp_ge 41 dX11_keep_15 rfl (fun c2870 => ?_) (fun c2870 => ?_)
          · refine WP_aload_n dX11_keep_41 rfl ?_
            refine WP_getr dX11_keep_42 fX11_298 rfl (ly_is hy 0 11 rfl) (rf hr 0 66 43 (by decide)) ?_
            refine WP_iload_n dX11_keep_45 rfl ?_
            refine WP_aload_n dX11_keep_46 rfl ?_
            refine WQ_getl dX11_keep_47 fX11_346 rfl (ly_is hy 0 11 rfl) (fun l2872 el2872 => ?_)
            refine WQ_last dX11_keep_50 (ly_is hy 43 14 rfl) (ly_n hy 43 3 rfl) (by omega) (by omega) (fun J2873 eJ2873 => ?_)
            have fr2874 : fz 49 g [43] J J2873 := by rw [eJ2873]; exact fzm_pp hy fjJ2866 (by decide) (by decide)
            clear eJ2873
            refine WP_aload_n dX11_keep_51 rfl ?_
            refine WP_getr dX11_keep_52 fX11_301 rfl (ly_is hy 0 11 rfl) (rf hr 0 67 44 (by decide)) ?_
            refine WP_iload_n dX11_keep_55 rfl ?_
            refine WQ_iconst (1) (1) dX11_keep_56 rfl rfl (fun v2875 hv2875 => ?_)
            refine WQ_zast dX11_keep_57 (ly_is hy 44 15 rfl) (ly_n hy 44 3 rfl) (by omega) (by omega) (fun I2876 v2877 eI2876 => ?_)
            have hI2876 : MP g n L I2876 := by rw [eI2876]; exact (mp_w hy hI2865 (c := 44) (mi_r0 hy hI2865.1 (c := 44) (by decide) (Or.inl (by decide)) (by decide)) (by decide) (by decide) (Or.inl (by decide)))
            have e2878 : I2876 (ad g 0) 1 = L := by rw [eI2876, pp_ne _ _ (Or.inl (ly_ne hy (by decide) (by decide) (by decide)))]; exact e2868
            have fr2879 : fs g [] I I2876 := by rw [eI2876]; exact fs_ppn hy fqI2865 (by decide) (by decide)
            have fr2880 : fz 49 g [42, 44] I I2876 := by rw [eI2876]; exact fzm_pp hy fiI2865 (by decide) (by decide)
            clear eI2876
            refine WP_aload_n dX11_keep_58 rfl ?_
            refine WP_getr dX11_keep_59 fX11_283 rfl (ly_is hy 0 11 rfl) (rf hr 0 59 38 (by decide)) ?_
            refine WQ_bipush (33) (33) dX11_keep_62 rfl rfl (fun v2881 hv2881 => ?_)
            refine WQ_ialdr dX11_keep_64 (ly_is hy 38 13 rfl) (ly_n hy 38 35 rfl) (by omega) (by omega) (a := 33) (b := 34) (by omega) (by omega) (fun q hq1 hq2 => BT_get hI2876.1.1 38 33 34 (0) (1) (0) (by decide) q hq1 hq2) (fun v2882 av2882 bv2882 => ?_)
            exact WP_iret dX11_keep_65 rfl ⟨⟨hI2876, rfl, fr2880, fr2874, fr2879⟩, _, rfl⟩
          · rcases (show (0 ≤ i2864.toInt ∧ i2864.toInt ≤ 3) ∨ (4 ≤ i2864.toInt ∧ i2864.toInt ≤ 7) ∨ (8 ≤ i2864.toInt ∧ i2864.toInt ≤ 31) ∨ (32 ≤ i2864.toInt ∧ i2864.toInt ≤ 32) ∨ (33 ≤ i2864.toInt ∧ i2864.toInt ≤ 33) ∨ (34 ≤ i2864.toInt ∧ i2864.toInt ≤ 34) by omega) with ⟨k2883_0, k2883_1⟩ | ⟨k2883_2, k2883_3⟩ | ⟨k2883_4, k2883_5⟩ | ⟨k2883_6, k2883_7⟩ | ⟨k2883_8, k2883_9⟩ | ⟨k2883_10, k2883_11⟩
            · refine WP_aload_n dX11_keep_18 rfl ?_
              refine WP_getr dX11_keep_19 fX11_295 rfl (ly_is hy 0 11 rfl) (rf hr 0 65 42 (by decide)) ?_
              refine WQ_bipush (35) (35) dX11_keep_22 rfl rfl (fun v2884 hv2884 => ?_)
              refine WP_iload_n dX11_keep_24 rfl ?_
              refine WQ_imulK (35) dX11_keep_25 hv2884 (by omega) (by omega) (fun v2885 hv2885 => ?_)
              refine WP_iload_n dX11_keep_26 rfl ?_
              refine WQ_iadd dX11_keep_27 (by omega) (by omega) (fun v2886 hv2886 => ?_)
              refine WP_aload_n dX11_keep_28 rfl ?_
              refine WP_getr dX11_keep_29 fX11_283 rfl (ly_is hy 0 11 rfl) (rf hr 0 59 38 (by decide)) ?_
              refine WP_iload_n dX11_keep_32 rfl ?_
              refine WQ_ialdr dX11_keep_33 (ly_is hy 38 13 rfl) (ly_n hy 38 35 rfl) (by omega) (by omega) (a := 0) (b := 4) (by omega) (by omega) (fun q hq1 hq2 => BT_get hI2865.1.1 38 0 4 (0) (0) (60) (by decide) q hq1 hq2) (fun v2887 av2887 bv2887 => ?_)
              refine WQ_iast dX11_keep_34 (ly_is hy 42 13 rfl) (ly_n hy 42 105 rfl) (by omega) (by omega) (fun I2888 eI2888 => ?_)
              have hI2888 : MP g n L I2888 := by rw [eI2888]; exact (mp_w hy hI2865 (c := 42) (mi_rr hy hI2865.1 (c := 42) (0) (3) (0) (0) (60) (by decide) (Or.inl (by decide)) (by rw [cl (n := v2886.toInt.toNat) (by omega)]; omega) (by decide) (fun _ => ⟨by omega, by omega⟩)) (by decide) (by decide) (Or.inl (by decide)))
              have e2889 : I2888 (ad g 0) 1 = L := by rw [eI2888, pp_ne _ _ (Or.inl (ly_ne hy (by decide) (by decide) (by decide)))]; exact e2868
              have fr2890 : fs g [] I I2888 := by rw [eI2888]; exact fs_ppn hy fqI2865 (by decide) (by decide)
              have fr2891 : fz 49 g [42, 44] I I2888 := by rw [eI2888]; exact fzm_pp hy fiI2865 (by decide) (by decide)
              clear eI2888
              refine WP_iinc (ls' := [(0, _), (1, _), (2, _)]) dX11_keep_35 rfl (by decide) rfl ?_
              have hv2892 : (i2864 + Int32.ofInt (1)).toInt = i2864.toInt + (1) := ia_n rfl (by omega) (by omega)
              generalize i2864 + Int32.ofInt (1) = v2892 at hv2892 ⊢
              refine WP_goto 12 dX11_keep_38 rfl ?_
              exact WP_sub (fc rfl (fc rfl (fc rfl fn))) (ihlp12_2866 v2892 I2888 J2866 hI2888 fr2891 fjJ2866 fr2890 (by omega) (by omega) (by omega))
            · refine WP_aload_n dX11_keep_18 rfl ?_
              refine WP_getr dX11_keep_19 fX11_295 rfl (ly_is hy 0 11 rfl) (rf hr 0 65 42 (by decide)) ?_
              refine WQ_bipush (35) (35) dX11_keep_22 rfl rfl (fun v2893 hv2893 => ?_)
              refine WP_iload_n dX11_keep_24 rfl ?_
              refine WQ_imulK (35) dX11_keep_25 hv2893 (by omega) (by omega) (fun v2894 hv2894 => ?_)
              refine WP_iload_n dX11_keep_26 rfl ?_
              refine WQ_iadd dX11_keep_27 (by omega) (by omega) (fun v2895 hv2895 => ?_)
              refine WP_aload_n dX11_keep_28 rfl ?_
              refine WP_getr dX11_keep_29 fX11_283 rfl (ly_is hy 0 11 rfl) (rf hr 0 59 38 (by decide)) ?_
              refine WP_iload_n dX11_keep_32 rfl ?_
              refine WQ_ialdr dX11_keep_33 (ly_is hy 38 13 rfl) (ly_n hy 38 35 rfl) (by omega) (by omega) (a := 4) (b := 8) (by omega) (by omega) (fun q hq1 hq2 => BT_get hI2865.1.1 38 4 8 (0) (0) (5) (by decide) q hq1 hq2) (fun v2896 av2896 bv2896 => ?_)
              refine WQ_iast dX11_keep_34 (ly_is hy 42 13 rfl) (ly_n hy 42 105 rfl) (by omega) (by omega) (fun I2897 eI2897 => ?_)
              have hI2897 : MP g n L I2897 := by rw [eI2897]; exact (mp_w hy hI2865 (c := 42) (mi_rr hy hI2865.1 (c := 42) (4) (7) (0) (0) (5) (by decide) (Or.inl (by decide)) (by rw [cl (n := v2895.toInt.toNat) (by omega)]; omega) (by decide) (fun _ => ⟨by omega, by omega⟩)) (by decide) (by decide) (Or.inl (by decide)))
              have e2898 : I2897 (ad g 0) 1 = L := by rw [eI2897, pp_ne _ _ (Or.inl (ly_ne hy (by decide) (by decide) (by decide)))]; exact e2868
              have fr2899 : fs g [] I I2897 := by rw [eI2897]; exact fs_ppn hy fqI2865 (by decide) (by decide)
              have fr2900 : fz 49 g [42, 44] I I2897 := by rw [eI2897]; exact fzm_pp hy fiI2865 (by decide) (by decide)
              clear eI2897
              refine WP_iinc (ls' := [(0, _), (1, _), (2, _)]) dX11_keep_35 rfl (by decide) rfl ?_
              have hv2901 : (i2864 + Int32.ofInt (1)).toInt = i2864.toInt + (1) := ia_n rfl (by omega) (by omega)
              generalize i2864 + Int32.ofInt (1) = v2901 at hv2901 ⊢
              refine WP_goto 12 dX11_keep_38 rfl ?_
              exact WP_sub (fc rfl (fc rfl (fc rfl fn))) (ihlp12_2866 v2901 I2897 J2866 hI2897 fr2900 fjJ2866 fr2899 (by omega) (by omega) (by omega))
            · refine WP_aload_n dX11_keep_18 rfl ?_
              refine WP_getr dX11_keep_19 fX11_295 rfl (ly_is hy 0 11 rfl) (rf hr 0 65 42 (by decide)) ?_
              refine WQ_bipush (35) (35) dX11_keep_22 rfl rfl (fun v2902 hv2902 => ?_)
              refine WP_iload_n dX11_keep_24 rfl ?_
              refine WQ_imulK (35) dX11_keep_25 hv2902 (by omega) (by omega) (fun v2903 hv2903 => ?_)
              refine WP_iload_n dX11_keep_26 rfl ?_
              refine WQ_iadd dX11_keep_27 (by omega) (by omega) (fun v2904 hv2904 => ?_)
              refine WP_aload_n dX11_keep_28 rfl ?_
              refine WP_getr dX11_keep_29 fX11_283 rfl (ly_is hy 0 11 rfl) (rf hr 0 59 38 (by decide)) ?_
              refine WP_iload_n dX11_keep_32 rfl ?_
              refine WQ_ialdu dX11_keep_33 (ly_is hy 38 13 rfl) (ly_n hy 38 35 rfl) (by omega) (by omega) (fun v2905 => ?_)
              refine WQ_iast dX11_keep_34 (ly_is hy 42 13 rfl) (ly_n hy 42 105 rfl) (by omega) (by omega) (fun I2906 eI2906 => ?_)
              have hI2906 : MP g n L I2906 := by rw [eI2906]; exact (mp_w hy hI2865 (c := 42) (mi_rr hy hI2865.1 (c := 42) (8) (31) (0) (0) (0) (by decide) (Or.inl (by decide)) (by rw [cl (n := v2904.toInt.toNat) (by omega)]; omega) (by decide) (fun h => absurd h (by decide))) (by decide) (by decide) (Or.inl (by decide)))
              have e2907 : I2906 (ad g 0) 1 = L := by rw [eI2906, pp_ne _ _ (Or.inl (ly_ne hy (by decide) (by decide) (by decide)))]; exact e2868
              have fr2908 : fs g [] I I2906 := by rw [eI2906]; exact fs_ppn hy fqI2865 (by decide) (by decide)
              have fr2909 : fz 49 g [42, 44] I I2906 := by rw [eI2906]; exact fzm_pp hy fiI2865 (by decide) (by decide)
              clear eI2906
              refine WP_iinc (ls' := [(0, _), (1, _), (2, _)]) dX11_keep_35 rfl (by decide) rfl ?_
              have hv2910 : (i2864 + Int32.ofInt (1)).toInt = i2864.toInt + (1) := ia_n rfl (by omega) (by omega)
              generalize i2864 + Int32.ofInt (1) = v2910 at hv2910 ⊢
              refine WP_goto 12 dX11_keep_38 rfl ?_
              exact WP_sub (fc rfl (fc rfl (fc rfl fn))) (ihlp12_2866 v2910 I2906 J2866 hI2906 fr2909 fjJ2866 fr2908 (by omega) (by omega) (by omega))
            · refine WP_aload_n dX11_keep_18 rfl ?_
              refine WP_getr dX11_keep_19 fX11_295 rfl (ly_is hy 0 11 rfl) (rf hr 0 65 42 (by decide)) ?_
              refine WQ_bipush (35) (35) dX11_keep_22 rfl rfl (fun v2911 hv2911 => ?_)
              refine WP_iload_n dX11_keep_24 rfl ?_
              refine WQ_imulK (35) dX11_keep_25 hv2911 (by omega) (by omega) (fun v2912 hv2912 => ?_)
              refine WP_iload_n dX11_keep_26 rfl ?_
              refine WQ_iadd dX11_keep_27 (by omega) (by omega) (fun v2913 hv2913 => ?_)
              refine WP_aload_n dX11_keep_28 rfl ?_
              refine WP_getr dX11_keep_29 fX11_283 rfl (ly_is hy 0 11 rfl) (rf hr 0 59 38 (by decide)) ?_
              refine WP_iload_n dX11_keep_32 rfl ?_
              refine WQ_ialdr dX11_keep_33 (ly_is hy 38 13 rfl) (ly_n hy 38 35 rfl) (by omega) (by omega) (a := 32) (b := 33) (by omega) (by omega) (fun q hq1 hq2 => BT_get hI2865.1.1 38 32 33 (0) (23760) (0) (by decide) q hq1 hq2) (fun v2914 av2914 bv2914 => ?_)
              refine WQ_iast dX11_keep_34 (ly_is hy 42 13 rfl) (ly_n hy 42 105 rfl) (by omega) (by omega) (fun I2915 eI2915 => ?_)
              have hI2915 : MP g n L I2915 := by rw [eI2915]; exact (mp_w hy hI2865 (c := 42) (mi_rr hy hI2865.1 (c := 42) (32) (32) (0) (23760) (0) (by decide) (Or.inl (by decide)) (by rw [cl (n := v2913.toInt.toNat) (by omega)]; omega) (by decide) (fun _ => ⟨by omega, by omega⟩)) (by decide) (by decide) (Or.inl (by decide)))
              have e2916 : I2915 (ad g 0) 1 = L := by rw [eI2915, pp_ne _ _ (Or.inl (ly_ne hy (by decide) (by decide) (by decide)))]; exact e2868
              have fr2917 : fs g [] I I2915 := by rw [eI2915]; exact fs_ppn hy fqI2865 (by decide) (by decide)
              have fr2918 : fz 49 g [42, 44] I I2915 := by rw [eI2915]; exact fzm_pp hy fiI2865 (by decide) (by decide)
              clear eI2915
              refine WP_iinc (ls' := [(0, _), (1, _), (2, _)]) dX11_keep_35 rfl (by decide) rfl ?_
              have hv2919 : (i2864 + Int32.ofInt (1)).toInt = i2864.toInt + (1) := ia_n rfl (by omega) (by omega)
              generalize i2864 + Int32.ofInt (1) = v2919 at hv2919 ⊢
              refine WP_goto 12 dX11_keep_38 rfl ?_
              exact WP_sub (fc rfl (fc rfl (fc rfl fn))) (ihlp12_2866 v2919 I2915 J2866 hI2915 fr2918 fjJ2866 fr2917 (by omega) (by omega) (by omega))
            · refine WP_aload_n dX11_keep_18 rfl ?_
              refine WP_getr dX11_keep_19 fX11_295 rfl (ly_is hy 0 11 rfl) (rf hr 0 65 42 (by decide)) ?_
              refine WQ_bipush (35) (35) dX11_keep_22 rfl rfl (fun v2920 hv2920 => ?_)
              refine WP_iload_n dX11_keep_24 rfl ?_
              refine WQ_imulK (35) dX11_keep_25 hv2920 (by omega) (by omega) (fun v2921 hv2921 => ?_)
              refine WP_iload_n dX11_keep_26 rfl ?_
              refine WQ_iadd dX11_keep_27 (by omega) (by omega) (fun v2922 hv2922 => ?_)
              refine WP_aload_n dX11_keep_28 rfl ?_
              refine WP_getr dX11_keep_29 fX11_283 rfl (ly_is hy 0 11 rfl) (rf hr 0 59 38 (by decide)) ?_
              refine WP_iload_n dX11_keep_32 rfl ?_
              refine WQ_ialdr dX11_keep_33 (ly_is hy 38 13 rfl) (ly_n hy 38 35 rfl) (by omega) (by omega) (a := 33) (b := 34) (by omega) (by omega) (fun q hq1 hq2 => BT_get hI2865.1.1 38 33 34 (0) (1) (0) (by decide) q hq1 hq2) (fun v2923 av2923 bv2923 => ?_)
              refine WQ_iast dX11_keep_34 (ly_is hy 42 13 rfl) (ly_n hy 42 105 rfl) (by omega) (by omega) (fun I2924 eI2924 => ?_)
              have hI2924 : MP g n L I2924 := by rw [eI2924]; exact (mp_w hy hI2865 (c := 42) (mi_rr hy hI2865.1 (c := 42) (33) (33) (0) (1) (0) (by decide) (Or.inl (by decide)) (by rw [cl (n := v2922.toInt.toNat) (by omega)]; omega) (by decide) (fun _ => ⟨by omega, by omega⟩)) (by decide) (by decide) (Or.inl (by decide)))
              have e2925 : I2924 (ad g 0) 1 = L := by rw [eI2924, pp_ne _ _ (Or.inl (ly_ne hy (by decide) (by decide) (by decide)))]; exact e2868
              have fr2926 : fs g [] I I2924 := by rw [eI2924]; exact fs_ppn hy fqI2865 (by decide) (by decide)
              have fr2927 : fz 49 g [42, 44] I I2924 := by rw [eI2924]; exact fzm_pp hy fiI2865 (by decide) (by decide)
              clear eI2924
              refine WP_iinc (ls' := [(0, _), (1, _), (2, _)]) dX11_keep_35 rfl (by decide) rfl ?_
              have hv2928 : (i2864 + Int32.ofInt (1)).toInt = i2864.toInt + (1) := ia_n rfl (by omega) (by omega)
              generalize i2864 + Int32.ofInt (1) = v2928 at hv2928 ⊢
              refine WP_goto 12 dX11_keep_38 rfl ?_
              exact WP_sub (fc rfl (fc rfl (fc rfl fn))) (ihlp12_2866 v2928 I2924 J2866 hI2924 fr2927 fjJ2866 fr2926 (by omega) (by omega) (by omega))
            · refine WP_aload_n dX11_keep_18 rfl ?_
              refine WP_getr dX11_keep_19 fX11_295 rfl (ly_is hy 0 11 rfl) (rf hr 0 65 42 (by decide)) ?_
              refine WQ_bipush (35) (35) dX11_keep_22 rfl rfl (fun v2929 hv2929 => ?_)
              refine WP_iload_n dX11_keep_24 rfl ?_
              refine WQ_imulK (35) dX11_keep_25 hv2929 (by omega) (by omega) (fun v2930 hv2930 => ?_)
              refine WP_iload_n dX11_keep_26 rfl ?_
              refine WQ_iadd dX11_keep_27 (by omega) (by omega) (fun v2931 hv2931 => ?_)
              refine WP_aload_n dX11_keep_28 rfl ?_
              refine WP_getr dX11_keep_29 fX11_283 rfl (ly_is hy 0 11 rfl) (rf hr 0 59 38 (by decide)) ?_
              refine WP_iload_n dX11_keep_32 rfl ?_
              refine WQ_ialdu dX11_keep_33 (ly_is hy 38 13 rfl) (ly_n hy 38 35 rfl) (by omega) (by omega) (fun v2932 => ?_)
              refine WQ_iast dX11_keep_34 (ly_is hy 42 13 rfl) (ly_n hy 42 105 rfl) (by omega) (by omega) (fun I2933 eI2933 => ?_)
              have hI2933 : MP g n L I2933 := by rw [eI2933]; exact (mp_w hy hI2865 (c := 42) (mi_rr hy hI2865.1 (c := 42) (34) (34) (0) (0) (0) (by decide) (Or.inl (by decide)) (by rw [cl (n := v2931.toInt.toNat) (by omega)]; omega) (by decide) (fun h => absurd h (by decide))) (by decide) (by decide) (Or.inl (by decide)))
              have e2934 : I2933 (ad g 0) 1 = L := by rw [eI2933, pp_ne _ _ (Or.inl (ly_ne hy (by decide) (by decide) (by decide)))]; exact e2868
              have fr2935 : fs g [] I I2933 := by rw [eI2933]; exact fs_ppn hy fqI2865 (by decide) (by decide)
              have fr2936 : fz 49 g [42, 44] I I2933 := by rw [eI2933]; exact fzm_pp hy fiI2865 (by decide) (by decide)
              clear eI2933
              refine WP_iinc (ls' := [(0, _), (1, _), (2, _)]) dX11_keep_35 rfl (by decide) rfl ?_
              have hv2937 : (i2864 + Int32.ofInt (1)).toInt = i2864.toInt + (1) := ia_n rfl (by omega) (by omega)
              generalize i2864 + Int32.ofInt (1) = v2937 at hv2937 ⊢
              refine WP_goto 12 dX11_keep_38 rfl ?_
              exact WP_sub (fc rfl (fc rfl (fc rfl fn))) (ihlp12_2866 v2937 I2933 J2866 hI2933 fr2936 fjJ2866 fr2935 (by omega) (by omega) (by omega))
      exact WP_sub (fc rfl (fc rfl (fc rfl fn))) (lp12_2866 _ v2863 I J hI fr0 frj0 frq0 (by omega) (by omega) (Nat.lt_succ_self _))
    · refine WQ_iconst (0) (0) dX11_keep_10 rfl rfl (fun v2938 hv2938 => ?_)
      refine WP_istore_n (ls' := [(0, _), (1, _), (2, _)]) dX11_keep_11 (by decide) rfl ?_
      have lp12_2941 : ∀ (mz : Nat) (i2939 : Int32) (I2940 : pI) (J2941 : pJ), MP g n L I2940 → fz 49 g [42, 44] I I2940 → fz 49 g [43] J J2941 → fs g [] I I2940 → 0 ≤ i2939.toInt → i2939.toInt ≤ 35 → (36 - i2939.toInt).toNat < mz → WP g mX11_keep 12 [(0, .ref (ad g 0)), (1, .int a), (2, .int i2939)] [] I2940 J2941 R (fun r I' J' R' => (MP g n L I' ∧ R' = R ∧ fz 49 g [42, 44] I I' ∧ fz 49 g [43] J J' ∧ fs g [] I I') ∧ ∃ v : Int32, r = some (.int v)) := by
        intro mz
        induction mz with
        | zero =>
          intro i2939 I2940 J2941 hI2940 fiI2940 fjJ2941 fqI2940 ai2939 bi2939 hmlp12_2941
          exact absurd hmlp12_2941 (Nat.not_lt_zero _)
        | succ mz ihlp12_2941 =>
          intro i2939 I2940 J2941 hI2940 fiI2940 fjJ2941 fqI2940 ai2939 bi2939 hmlp12_2941
          have e2943 : I2940 (ad g 0) 1 = L := hI2940.1.2
          have b2944 := BT_get hI2940.1.1 0 1 2 (0) (0) (900) (by decide) 1 (by decide) (by decide)
          rw [e2943] at b2944
          refine WP_iload_n dX11_keep_12 rfl ?_
          refine WQ_bipush (35) (35) dX11_keep_13 rfl rfl (fun v2945 hv2945 => ?_)
          refine WQ_icmp_ge 41 dX11_keep_15 rfl (fun c2945 => ?_) (fun c2945 => ?_)
          · refine WP_aload_n dX11_keep_41 rfl ?_
            refine WP_getr dX11_keep_42 fX11_298 rfl (ly_is hy 0 11 rfl) (rf hr 0 66 43 (by decide)) ?_
            refine WP_iload_n dX11_keep_45 rfl ?_
            refine WP_aload_n dX11_keep_46 rfl ?_
            refine WQ_getl dX11_keep_47 fX11_346 rfl (ly_is hy 0 11 rfl) (fun l2947 el2947 => ?_)
            refine WQ_last dX11_keep_50 (ly_is hy 43 14 rfl) (ly_n hy 43 3 rfl) (by omega) (by omega) (fun J2948 eJ2948 => ?_)
            have fr2949 : fz 49 g [43] J J2948 := by rw [eJ2948]; exact fzm_pp hy fjJ2941 (by decide) (by decide)
            clear eJ2948
            refine WP_aload_n dX11_keep_51 rfl ?_
            refine WP_getr dX11_keep_52 fX11_301 rfl (ly_is hy 0 11 rfl) (rf hr 0 67 44 (by decide)) ?_
            refine WP_iload_n dX11_keep_55 rfl ?_
            refine WQ_iconst (1) (1) dX11_keep_56 rfl rfl (fun v2950 hv2950 => ?_)
            refine WQ_zast dX11_keep_57 (ly_is hy 44 15 rfl) (ly_n hy 44 3 rfl) (by omega) (by omega) (fun I2951 v2952 eI2951 => ?_)
            have hI2951 : MP g n L I2951 := by rw [eI2951]; exact (mp_w hy hI2940 (c := 44) (mi_r0 hy hI2940.1 (c := 44) (by decide) (Or.inl (by decide)) (by decide)) (by decide) (by decide) (Or.inl (by decide)))
            have e2953 : I2951 (ad g 0) 1 = L := by rw [eI2951, pp_ne _ _ (Or.inl (ly_ne hy (by decide) (by decide) (by decide)))]; exact e2943
            have fr2954 : fs g [] I I2951 := by rw [eI2951]; exact fs_ppn hy fqI2940 (by decide) (by decide)
            have fr2955 : fz 49 g [42, 44] I I2951 := by rw [eI2951]; exact fzm_pp hy fiI2940 (by decide) (by decide)
            clear eI2951
            refine WP_aload_n dX11_keep_58 rfl ?_
            refine WP_getr dX11_keep_59 fX11_283 rfl (ly_is hy 0 11 rfl) (rf hr 0 59 38 (by decide)) ?_
            refine WQ_bipush (33) (33) dX11_keep_62 rfl rfl (fun v2956 hv2956 => ?_)
            refine WQ_ialdr dX11_keep_64 (ly_is hy 38 13 rfl) (ly_n hy 38 35 rfl) (by omega) (by omega) (a := 33) (b := 34) (by omega) (by omega) (fun q hq1 hq2 => BT_get hI2951.1.1 38 33 34 (0) (1) (0) (by decide) q hq1 hq2) (fun v2957 av2957 bv2957 => ?_)
            exact WP_iret dX11_keep_65 rfl ⟨⟨hI2951, rfl, fr2955, fr2949, fr2954⟩, _, rfl⟩
          · rcases (show (0 ≤ i2939.toInt ∧ i2939.toInt ≤ 3) ∨ (4 ≤ i2939.toInt ∧ i2939.toInt ≤ 7) ∨ (8 ≤ i2939.toInt ∧ i2939.toInt ≤ 31) ∨ (32 ≤ i2939.toInt ∧ i2939.toInt ≤ 32) ∨ (33 ≤ i2939.toInt ∧ i2939.toInt ≤ 33) ∨ (34 ≤ i2939.toInt ∧ i2939.toInt ≤ 34) by omega) with ⟨k2958_0, k2958_1⟩ | ⟨k2958_2, k2958_3⟩ | ⟨k2958_4, k2958_5⟩ | ⟨k2958_6, k2958_7⟩ | ⟨k2958_8, k2958_9⟩ | ⟨k2958_10, k2958_11⟩
            · refine WP_aload_n dX11_keep_18 rfl ?_
              refine WP_getr dX11_keep_19 fX11_295 rfl (ly_is hy 0 11 rfl) (rf hr 0 65 42 (by decide)) ?_
              refine WQ_bipush (35) (35) dX11_keep_22 rfl rfl (fun v2959 hv2959 => ?_)
              refine WP_iload_n dX11_keep_24 rfl ?_
              refine WQ_imulK (35) dX11_keep_25 hv2959 (by omega) (by omega) (fun v2960 hv2960 => ?_)
              refine WP_iload_n dX11_keep_26 rfl ?_
              refine WQ_iadd dX11_keep_27 (by omega) (by omega) (fun v2961 hv2961 => ?_)
              refine WP_aload_n dX11_keep_28 rfl ?_
              refine WP_getr dX11_keep_29 fX11_283 rfl (ly_is hy 0 11 rfl) (rf hr 0 59 38 (by decide)) ?_
              refine WP_iload_n dX11_keep_32 rfl ?_
              refine WQ_ialdr dX11_keep_33 (ly_is hy 38 13 rfl) (ly_n hy 38 35 rfl) (by omega) (by omega) (a := 0) (b := 4) (by omega) (by omega) (fun q hq1 hq2 => BT_get hI2940.1.1 38 0 4 (0) (0) (60) (by decide) q hq1 hq2) (fun v2962 av2962 bv2962 => ?_)
              refine WQ_iast dX11_keep_34 (ly_is hy 42 13 rfl) (ly_n hy 42 105 rfl) (by omega) (by omega) (fun I2963 eI2963 => ?_)
              have hI2963 : MP g n L I2963 := by rw [eI2963]; exact (mp_w hy hI2940 (c := 42) (mi_rr hy hI2940.1 (c := 42) (35) (38) (0) (0) (60) (by decide) (Or.inl (by decide)) (by rw [cl (n := v2961.toInt.toNat) (by omega)]; omega) (by decide) (fun _ => ⟨by omega, by omega⟩)) (by decide) (by decide) (Or.inl (by decide)))
              have e2964 : I2963 (ad g 0) 1 = L := by rw [eI2963, pp_ne _ _ (Or.inl (ly_ne hy (by decide) (by decide) (by decide)))]; exact e2943
              have fr2965 : fs g [] I I2963 := by rw [eI2963]; exact fs_ppn hy fqI2940 (by decide) (by decide)
              have fr2966 : fz 49 g [42, 44] I I2963 := by rw [eI2963]; exact fzm_pp hy fiI2940 (by decide) (by decide)
              clear eI2963
              refine WP_iinc (ls' := [(0, _), (1, _), (2, _)]) dX11_keep_35 rfl (by decide) rfl ?_
              have hv2967 : (i2939 + Int32.ofInt (1)).toInt = i2939.toInt + (1) := ia_n rfl (by omega) (by omega)
              generalize i2939 + Int32.ofInt (1) = v2967 at hv2967 ⊢
              refine WP_goto 12 dX11_keep_38 rfl ?_
              exact WP_sub (fc rfl (fc rfl (fc rfl fn))) (ihlp12_2941 v2967 I2963 J2941 hI2963 fr2966 fjJ2941 fr2965 (by omega) (by omega) (by omega))
            · refine WP_aload_n dX11_keep_18 rfl ?_
              refine WP_getr dX11_keep_19 fX11_295 rfl (ly_is hy 0 11 rfl) (rf hr 0 65 42 (by decide)) ?_
              refine WQ_bipush (35) (35) dX11_keep_22 rfl rfl (fun v2968 hv2968 => ?_)
              refine WP_iload_n dX11_keep_24 rfl ?_
              refine WQ_imulK (35) dX11_keep_25 hv2968 (by omega) (by omega) (fun v2969 hv2969 => ?_)
              refine WP_iload_n dX11_keep_26 rfl ?_
              refine WQ_iadd dX11_keep_27 (by omega) (by omega) (fun v2970 hv2970 => ?_)
              refine WP_aload_n dX11_keep_28 rfl ?_
              refine WP_getr dX11_keep_29 fX11_283 rfl (ly_is hy 0 11 rfl) (rf hr 0 59 38 (by decide)) ?_
              refine WP_iload_n dX11_keep_32 rfl ?_
              refine WQ_ialdr dX11_keep_33 (ly_is hy 38 13 rfl) (ly_n hy 38 35 rfl) (by omega) (by omega) (a := 4) (b := 8) (by omega) (by omega) (fun q hq1 hq2 => BT_get hI2940.1.1 38 4 8 (0) (0) (5) (by decide) q hq1 hq2) (fun v2971 av2971 bv2971 => ?_)
              refine WQ_iast dX11_keep_34 (ly_is hy 42 13 rfl) (ly_n hy 42 105 rfl) (by omega) (by omega) (fun I2972 eI2972 => ?_)
              have hI2972 : MP g n L I2972 := by rw [eI2972]; exact (mp_w hy hI2940 (c := 42) (mi_rr hy hI2940.1 (c := 42) (39) (42) (0) (0) (5) (by decide) (Or.inl (by decide)) (by rw [cl (n := v2970.toInt.toNat) (by omega)]; omega) (by decide) (fun _ => ⟨by omega, by omega⟩)) (by decide) (by decide) (Or.inl (by decide)))
              have e2973 : I2972 (ad g 0) 1 = L := by rw [eI2972, pp_ne _ _ (Or.inl (ly_ne hy (by decide) (by decide) (by decide)))]; exact e2943
              have fr2974 : fs g [] I I2972 := by rw [eI2972]; exact fs_ppn hy fqI2940 (by decide) (by decide)
              have fr2975 : fz 49 g [42, 44] I I2972 := by rw [eI2972]; exact fzm_pp hy fiI2940 (by decide) (by decide)
              clear eI2972
              refine WP_iinc (ls' := [(0, _), (1, _), (2, _)]) dX11_keep_35 rfl (by decide) rfl ?_
              have hv2976 : (i2939 + Int32.ofInt (1)).toInt = i2939.toInt + (1) := ia_n rfl (by omega) (by omega)
              generalize i2939 + Int32.ofInt (1) = v2976 at hv2976 ⊢
              refine WP_goto 12 dX11_keep_38 rfl ?_
              exact WP_sub (fc rfl (fc rfl (fc rfl fn))) (ihlp12_2941 v2976 I2972 J2941 hI2972 fr2975 fjJ2941 fr2974 (by omega) (by omega) (by omega))
            · refine WP_aload_n dX11_keep_18 rfl ?_
              refine WP_getr dX11_keep_19 fX11_295 rfl (ly_is hy 0 11 rfl) (rf hr 0 65 42 (by decide)) ?_
              refine WQ_bipush (35) (35) dX11_keep_22 rfl rfl (fun v2977 hv2977 => ?_)
              refine WP_iload_n dX11_keep_24 rfl ?_
              refine WQ_imulK (35) dX11_keep_25 hv2977 (by omega) (by omega) (fun v2978 hv2978 => ?_)
              refine WP_iload_n dX11_keep_26 rfl ?_
              refine WQ_iadd dX11_keep_27 (by omega) (by omega) (fun v2979 hv2979 => ?_)
              refine WP_aload_n dX11_keep_28 rfl ?_
              refine WP_getr dX11_keep_29 fX11_283 rfl (ly_is hy 0 11 rfl) (rf hr 0 59 38 (by decide)) ?_
              refine WP_iload_n dX11_keep_32 rfl ?_
              refine WQ_ialdu dX11_keep_33 (ly_is hy 38 13 rfl) (ly_n hy 38 35 rfl) (by omega) (by omega) (fun v2980 => ?_)
              refine WQ_iast dX11_keep_34 (ly_is hy 42 13 rfl) (ly_n hy 42 105 rfl) (by omega) (by omega) (fun I2981 eI2981 => ?_)
              have hI2981 : MP g n L I2981 := by rw [eI2981]; exact (mp_w hy hI2940 (c := 42) (mi_rr hy hI2940.1 (c := 42) (43) (66) (0) (0) (0) (by decide) (Or.inl (by decide)) (by rw [cl (n := v2979.toInt.toNat) (by omega)]; omega) (by decide) (fun h => absurd h (by decide))) (by decide) (by decide) (Or.inl (by decide)))
              have e2982 : I2981 (ad g 0) 1 = L := by rw [eI2981, pp_ne _ _ (Or.inl (ly_ne hy (by decide) (by decide) (by decide)))]; exact e2943
              have fr2983 : fs g [] I I2981 := by rw [eI2981]; exact fs_ppn hy fqI2940 (by decide) (by decide)
              have fr2984 : fz 49 g [42, 44] I I2981 := by rw [eI2981]; exact fzm_pp hy fiI2940 (by decide) (by decide)
              clear eI2981
              refine WP_iinc (ls' := [(0, _), (1, _), (2, _)]) dX11_keep_35 rfl (by decide) rfl ?_
              have hv2985 : (i2939 + Int32.ofInt (1)).toInt = i2939.toInt + (1) := ia_n rfl (by omega) (by omega)
              generalize i2939 + Int32.ofInt (1) = v2985 at hv2985 ⊢
              refine WP_goto 12 dX11_keep_38 rfl ?_
              exact WP_sub (fc rfl (fc rfl (fc rfl fn))) (ihlp12_2941 v2985 I2981 J2941 hI2981 fr2984 fjJ2941 fr2983 (by omega) (by omega) (by omega))
            · refine WP_aload_n dX11_keep_18 rfl ?_
              refine WP_getr dX11_keep_19 fX11_295 rfl (ly_is hy 0 11 rfl) (rf hr 0 65 42 (by decide)) ?_
              refine WQ_bipush (35) (35) dX11_keep_22 rfl rfl (fun v2986 hv2986 => ?_)
              refine WP_iload_n dX11_keep_24 rfl ?_
              refine WQ_imulK (35) dX11_keep_25 hv2986 (by omega) (by omega) (fun v2987 hv2987 => ?_)
              refine WP_iload_n dX11_keep_26 rfl ?_
              refine WQ_iadd dX11_keep_27 (by omega) (by omega) (fun v2988 hv2988 => ?_)
              refine WP_aload_n dX11_keep_28 rfl ?_
              refine WP_getr dX11_keep_29 fX11_283 rfl (ly_is hy 0 11 rfl) (rf hr 0 59 38 (by decide)) ?_
              refine WP_iload_n dX11_keep_32 rfl ?_
              refine WQ_ialdr dX11_keep_33 (ly_is hy 38 13 rfl) (ly_n hy 38 35 rfl) (by omega) (by omega) (a := 32) (b := 33) (by omega) (by omega) (fun q hq1 hq2 => BT_get hI2940.1.1 38 32 33 (0) (23760) (0) (by decide) q hq1 hq2) (fun v2989 av2989 bv2989 => ?_)
              refine WQ_iast dX11_keep_34 (ly_is hy 42 13 rfl) (ly_n hy 42 105 rfl) (by omega) (by omega) (fun I2990 eI2990 => ?_)
              have hI2990 : MP g n L I2990 := by rw [eI2990]; exact (mp_w hy hI2940 (c := 42) (mi_rr hy hI2940.1 (c := 42) (67) (67) (0) (23760) (0) (by decide) (Or.inl (by decide)) (by rw [cl (n := v2988.toInt.toNat) (by omega)]; omega) (by decide) (fun _ => ⟨by omega, by omega⟩)) (by decide) (by decide) (Or.inl (by decide)))
              have e2991 : I2990 (ad g 0) 1 = L := by rw [eI2990, pp_ne _ _ (Or.inl (ly_ne hy (by decide) (by decide) (by decide)))]; exact e2943
              have fr2992 : fs g [] I I2990 := by rw [eI2990]; exact fs_ppn hy fqI2940 (by decide) (by decide)
              have fr2993 : fz 49 g [42, 44] I I2990 := by rw [eI2990]; exact fzm_pp hy fiI2940 (by decide) (by decide)
              clear eI2990
              refine WP_iinc (ls' := [(0, _), (1, _), (2, _)]) dX11_keep_35 rfl (by decide) rfl ?_
              have hv2994 : (i2939 + Int32.ofInt (1)).toInt = i2939.toInt + (1) := ia_n rfl (by omega) (by omega)
              generalize i2939 + Int32.ofInt (1) = v2994 at hv2994 ⊢
              refine WP_goto 12 dX11_keep_38 rfl ?_
              exact WP_sub (fc rfl (fc rfl (fc rfl fn))) (ihlp12_2941 v2994 I2990 J2941 hI2990 fr2993 fjJ2941 fr2992 (by omega) (by omega) (by omega))
            · refine WP_aload_n dX11_keep_18 rfl ?_
              refine WP_getr dX11_keep_19 fX11_295 rfl (ly_is hy 0 11 rfl) (rf hr 0 65 42 (by decide)) ?_
              refine WQ_bipush (35) (35) dX11_keep_22 rfl rfl (fun v2995 hv2995 => ?_)
              refine WP_iload_n dX11_keep_24 rfl ?_
              refine WQ_imulK (35) dX11_keep_25 hv2995 (by omega) (by omega) (fun v2996 hv2996 => ?_)
              refine WP_iload_n dX11_keep_26 rfl ?_
              refine WQ_iadd dX11_keep_27 (by omega) (by omega) (fun v2997 hv2997 => ?_)
              refine WP_aload_n dX11_keep_28 rfl ?_
              refine WP_getr dX11_keep_29 fX11_283 rfl (ly_is hy 0 11 rfl) (rf hr 0 59 38 (by decide)) ?_
              refine WP_iload_n dX11_keep_32 rfl ?_
              refine WQ_ialdr dX11_keep_33 (ly_is hy 38 13 rfl) (ly_n hy 38 35 rfl) (by omega) (by omega) (a := 33) (b := 34) (by omega) (by omega) (fun q hq1 hq2 => BT_get hI2940.1.1 38 33 34 (0) (1) (0) (by decide) q hq1 hq2) (fun v2998 av2998 bv2998 => ?_)
              refine WQ_iast dX11_keep_34 (ly_is hy 42 13 rfl) (ly_n hy 42 105 rfl) (by omega) (by omega) (fun I2999 eI2999 => ?_)
              have hI2999 : MP g n L I2999 := by rw [eI2999]; exact (mp_w hy hI2940 (c := 42) (mi_rr hy hI2940.1 (c := 42) (68) (68) (0) (1) (0) (by decide) (Or.inl (by decide)) (by rw [cl (n := v2997.toInt.toNat) (by omega)]; omega) (by decide) (fun _ => ⟨by omega, by omega⟩)) (by decide) (by decide) (Or.inl (by decide)))
              have e3000 : I2999 (ad g 0) 1 = L := by rw [eI2999, pp_ne _ _ (Or.inl (ly_ne hy (by decide) (by decide) (by decide)))]; exact e2943
              have fr3001 : fs g [] I I2999 := by rw [eI2999]; exact fs_ppn hy fqI2940 (by decide) (by decide)
              have fr3002 : fz 49 g [42, 44] I I2999 := by rw [eI2999]; exact fzm_pp hy fiI2940 (by decide) (by decide)
              clear eI2999
              refine WP_iinc (ls' := [(0, _), (1, _), (2, _)]) dX11_keep_35 rfl (by decide) rfl ?_
              have hv3003 : (i2939 + Int32.ofInt (1)).toInt = i2939.toInt + (1) := ia_n rfl (by omega) (by omega)
              generalize i2939 + Int32.ofInt (1) = v3003 at hv3003 ⊢
              refine WP_goto 12 dX11_keep_38 rfl ?_
              exact WP_sub (fc rfl (fc rfl (fc rfl fn))) (ihlp12_2941 v3003 I2999 J2941 hI2999 fr3002 fjJ2941 fr3001 (by omega) (by omega) (by omega))
            · refine WP_aload_n dX11_keep_18 rfl ?_
              refine WP_getr dX11_keep_19 fX11_295 rfl (ly_is hy 0 11 rfl) (rf hr 0 65 42 (by decide)) ?_
              refine WQ_bipush (35) (35) dX11_keep_22 rfl rfl (fun v3004 hv3004 => ?_)
              refine WP_iload_n dX11_keep_24 rfl ?_
              refine WQ_imulK (35) dX11_keep_25 hv3004 (by omega) (by omega) (fun v3005 hv3005 => ?_)
              refine WP_iload_n dX11_keep_26 rfl ?_
              refine WQ_iadd dX11_keep_27 (by omega) (by omega) (fun v3006 hv3006 => ?_)
              refine WP_aload_n dX11_keep_28 rfl ?_
              refine WP_getr dX11_keep_29 fX11_283 rfl (ly_is hy 0 11 rfl) (rf hr 0 59 38 (by decide)) ?_
              refine WP_iload_n dX11_keep_32 rfl ?_
              refine WQ_ialdu dX11_keep_33 (ly_is hy 38 13 rfl) (ly_n hy 38 35 rfl) (by omega) (by omega) (fun v3007 => ?_)
              refine WQ_iast dX11_keep_34 (ly_is hy 42 13 rfl) (ly_n hy 42 105 rfl) (by omega) (by omega) (fun I3008 eI3008 => ?_)
              have hI3008 : MP g n L I3008 := by rw [eI3008]; exact (mp_w hy hI2940 (c := 42) (mi_rr hy hI2940.1 (c := 42) (69) (69) (0) (0) (0) (by decide) (Or.inl (by decide)) (by rw [cl (n := v3006.toInt.toNat) (by omega)]; omega) (by decide) (fun h => absurd h (by decide))) (by decide) (by decide) (Or.inl (by decide)))
              have e3009 : I3008 (ad g 0) 1 = L := by rw [eI3008, pp_ne _ _ (Or.inl (ly_ne hy (by decide) (by decide) (by decide)))]; exact e2943
              have fr3010 : fs g [] I I3008 := by rw [eI3008]; exact fs_ppn hy fqI2940 (by decide) (by decide)
              have fr3011 : fz 49 g [42, 44] I I3008 := by rw [eI3008]; exact fzm_pp hy fiI2940 (by decide) (by decide)
              clear eI3008
              refine WP_iinc (ls' := [(0, _), (1, _), (2, _)]) dX11_keep_35 rfl (by decide) rfl ?_
              have hv3012 : (i2939 + Int32.ofInt (1)).toInt = i2939.toInt + (1) := ia_n rfl (by omega) (by omega)
              generalize i2939 + Int32.ofInt (1) = v3012 at hv3012 ⊢
              refine WP_goto 12 dX11_keep_38 rfl ?_
              exact WP_sub (fc rfl (fc rfl (fc rfl fn))) (ihlp12_2941 v3012 I3008 J2941 hI3008 fr3011 fjJ2941 fr3010 (by omega) (by omega) (by omega))
      exact WP_sub (fc rfl (fc rfl (fc rfl fn))) (lp12_2941 _ v2938 I J hI fr0 frj0 frq0 (by omega) (by omega) (Nat.lt_succ_self _))
    · refine WQ_iconst (0) (0) dX11_keep_10 rfl rfl (fun v3013 hv3013 => ?_)
      refine WP_istore_n (ls' := [(0, _), (1, _), (2, _)]) dX11_keep_11 (by decide) rfl ?_
      have lp12_3016 : ∀ (mz : Nat) (i3014 : Int32) (I3015 : pI) (J3016 : pJ), MP g n L I3015 → fz 49 g [42, 44] I I3015 → fz 49 g [43] J J3016 → fs g [] I I3015 → 0 ≤ i3014.toInt → i3014.toInt ≤ 35 → (36 - i3014.toInt).toNat < mz → WP g mX11_keep 12 [(0, .ref (ad g 0)), (1, .int a), (2, .int i3014)] [] I3015 J3016 R (fun r I' J' R' => (MP g n L I' ∧ R' = R ∧ fz 49 g [42, 44] I I' ∧ fz 49 g [43] J J' ∧ fs g [] I I') ∧ ∃ v : Int32, r = some (.int v)) := by
        intro mz
        induction mz with
        | zero =>
          intro i3014 I3015 J3016 hI3015 fiI3015 fjJ3016 fqI3015 ai3014 bi3014 hmlp12_3016
          exact absurd hmlp12_3016 (Nat.not_lt_zero _)
        | succ mz ihlp12_3016 =>
          intro i3014 I3015 J3016 hI3015 fiI3015 fjJ3016 fqI3015 ai3014 bi3014 hmlp12_3016
          have e3018 : I3015 (ad g 0) 1 = L := hI3015.1.2
          have b3019 := BT_get hI3015.1.1 0 1 2 (0) (0) (900) (by decide) 1 (by decide) (by decide)
          rw [e3018] at b3019
          refine WP_iload_n dX11_keep_12 rfl ?_
          refine WQ_bipush (35) (35) dX11_keep_13 rfl rfl (fun v3020 hv3020 => ?_)
          refine WQ_icmp_ge 41 dX11_keep_15 rfl (fun c3020 => ?_) (fun c3020 => ?_)
          · refine WP_aload_n dX11_keep_41 rfl ?_
            refine WP_getr dX11_keep_42 fX11_298 rfl (ly_is hy 0 11 rfl) (rf hr 0 66 43 (by decide)) ?_
            refine WP_iload_n dX11_keep_45 rfl ?_
            refine WP_aload_n dX11_keep_46 rfl ?_
            refine WQ_getl dX11_keep_47 fX11_346 rfl (ly_is hy 0 11 rfl) (fun l3022 el3022 => ?_)
            refine WQ_last dX11_keep_50 (ly_is hy 43 14 rfl) (ly_n hy 43 3 rfl) (by omega) (by omega) (fun J3023 eJ3023 => ?_)
            have fr3024 : fz 49 g [43] J J3023 := by rw [eJ3023]; exact fzm_pp hy fjJ3016 (by decide) (by decide)
            clear eJ3023
            refine WP_aload_n dX11_keep_51 rfl ?_
            refine WP_getr dX11_keep_52 fX11_301 rfl (ly_is hy 0 11 rfl) (rf hr 0 67 44 (by decide)) ?_
            refine WP_iload_n dX11_keep_55 rfl ?_
            refine WQ_iconst (1) (1) dX11_keep_56 rfl rfl (fun v3025 hv3025 => ?_)
            refine WQ_zast dX11_keep_57 (ly_is hy 44 15 rfl) (ly_n hy 44 3 rfl) (by omega) (by omega) (fun I3026 v3027 eI3026 => ?_)
            have hI3026 : MP g n L I3026 := by rw [eI3026]; exact (mp_w hy hI3015 (c := 44) (mi_r0 hy hI3015.1 (c := 44) (by decide) (Or.inl (by decide)) (by decide)) (by decide) (by decide) (Or.inl (by decide)))
            have e3028 : I3026 (ad g 0) 1 = L := by rw [eI3026, pp_ne _ _ (Or.inl (ly_ne hy (by decide) (by decide) (by decide)))]; exact e3018
            have fr3029 : fs g [] I I3026 := by rw [eI3026]; exact fs_ppn hy fqI3015 (by decide) (by decide)
            have fr3030 : fz 49 g [42, 44] I I3026 := by rw [eI3026]; exact fzm_pp hy fiI3015 (by decide) (by decide)
            clear eI3026
            refine WP_aload_n dX11_keep_58 rfl ?_
            refine WP_getr dX11_keep_59 fX11_283 rfl (ly_is hy 0 11 rfl) (rf hr 0 59 38 (by decide)) ?_
            refine WQ_bipush (33) (33) dX11_keep_62 rfl rfl (fun v3031 hv3031 => ?_)
            refine WQ_ialdr dX11_keep_64 (ly_is hy 38 13 rfl) (ly_n hy 38 35 rfl) (by omega) (by omega) (a := 33) (b := 34) (by omega) (by omega) (fun q hq1 hq2 => BT_get hI3026.1.1 38 33 34 (0) (1) (0) (by decide) q hq1 hq2) (fun v3032 av3032 bv3032 => ?_)
            exact WP_iret dX11_keep_65 rfl ⟨⟨hI3026, rfl, fr3030, fr3024, fr3029⟩, _, rfl⟩
          · rcases (show (0 ≤ i3014.toInt ∧ i3014.toInt ≤ 3) ∨ (4 ≤ i3014.toInt ∧ i3014.toInt ≤ 7) ∨ (8 ≤ i3014.toInt ∧ i3014.toInt ≤ 31) ∨ (32 ≤ i3014.toInt ∧ i3014.toInt ≤ 32) ∨ (33 ≤ i3014.toInt ∧ i3014.toInt ≤ 33) ∨ (34 ≤ i3014.toInt ∧ i3014.toInt ≤ 34) by omega) with ⟨k3033_0, k3033_1⟩ | ⟨k3033_2, k3033_3⟩ | ⟨k3033_4, k3033_5⟩ | ⟨k3033_6, k3033_7⟩ | ⟨k3033_8, k3033_9⟩ | ⟨k3033_10, k3033_11⟩
            · refine WP_aload_n dX11_keep_18 rfl ?_
              refine WP_getr dX11_keep_19 fX11_295 rfl (ly_is hy 0 11 rfl) (rf hr 0 65 42 (by decide)) ?_
              refine WQ_bipush (35) (35) dX11_keep_22 rfl rfl (fun v3034 hv3034 => ?_)
              refine WP_iload_n dX11_keep_24 rfl ?_
              refine WQ_imulK (35) dX11_keep_25 hv3034 (by omega) (by omega) (fun v3035 hv3035 => ?_)
              refine WP_iload_n dX11_keep_26 rfl ?_
              refine WQ_iadd dX11_keep_27 (by omega) (by omega) (fun v3036 hv3036 => ?_)
              refine WP_aload_n dX11_keep_28 rfl ?_
              refine WP_getr dX11_keep_29 fX11_283 rfl (ly_is hy 0 11 rfl) (rf hr 0 59 38 (by decide)) ?_
              refine WP_iload_n dX11_keep_32 rfl ?_
              refine WQ_ialdr dX11_keep_33 (ly_is hy 38 13 rfl) (ly_n hy 38 35 rfl) (by omega) (by omega) (a := 0) (b := 4) (by omega) (by omega) (fun q hq1 hq2 => BT_get hI3015.1.1 38 0 4 (0) (0) (60) (by decide) q hq1 hq2) (fun v3037 av3037 bv3037 => ?_)
              refine WQ_iast dX11_keep_34 (ly_is hy 42 13 rfl) (ly_n hy 42 105 rfl) (by omega) (by omega) (fun I3038 eI3038 => ?_)
              have hI3038 : MP g n L I3038 := by rw [eI3038]; exact (mp_w hy hI3015 (c := 42) (mi_rr hy hI3015.1 (c := 42) (70) (73) (0) (0) (60) (by decide) (Or.inl (by decide)) (by rw [cl (n := v3036.toInt.toNat) (by omega)]; omega) (by decide) (fun _ => ⟨by omega, by omega⟩)) (by decide) (by decide) (Or.inl (by decide)))
              have e3039 : I3038 (ad g 0) 1 = L := by rw [eI3038, pp_ne _ _ (Or.inl (ly_ne hy (by decide) (by decide) (by decide)))]; exact e3018
              have fr3040 : fs g [] I I3038 := by rw [eI3038]; exact fs_ppn hy fqI3015 (by decide) (by decide)
              have fr3041 : fz 49 g [42, 44] I I3038 := by rw [eI3038]; exact fzm_pp hy fiI3015 (by decide) (by decide)
              clear eI3038
              refine WP_iinc (ls' := [(0, _), (1, _), (2, _)]) dX11_keep_35 rfl (by decide) rfl ?_
              have hv3042 : (i3014 + Int32.ofInt (1)).toInt = i3014.toInt + (1) := ia_n rfl (by omega) (by omega)
              generalize i3014 + Int32.ofInt (1) = v3042 at hv3042 ⊢
              refine WP_goto 12 dX11_keep_38 rfl ?_
              exact WP_sub (fc rfl (fc rfl (fc rfl fn))) (ihlp12_3016 v3042 I3038 J3016 hI3038 fr3041 fjJ3016 fr3040 (by omega) (by omega) (by omega))
            · refine WP_aload_n dX11_keep_18 rfl ?_
              refine WP_getr dX11_keep_19 fX11_295 rfl (ly_is hy 0 11 rfl) (rf hr 0 65 42 (by decide)) ?_
              refine WQ_bipush (35) (35) dX11_keep_22 rfl rfl (fun v3043 hv3043 => ?_)
              refine WP_iload_n dX11_keep_24 rfl ?_
              refine WQ_imulK (35) dX11_keep_25 hv3043 (by omega) (by omega) (fun v3044 hv3044 => ?_)
              refine WP_iload_n dX11_keep_26 rfl ?_
              refine WQ_iadd dX11_keep_27 (by omega) (by omega) (fun v3045 hv3045 => ?_)
              refine WP_aload_n dX11_keep_28 rfl ?_
              refine WP_getr dX11_keep_29 fX11_283 rfl (ly_is hy 0 11 rfl) (rf hr 0 59 38 (by decide)) ?_
              refine WP_iload_n dX11_keep_32 rfl ?_
              refine WQ_ialdr dX11_keep_33 (ly_is hy 38 13 rfl) (ly_n hy 38 35 rfl) (by omega) (by omega) (a := 4) (b := 8) (by omega) (by omega) (fun q hq1 hq2 => BT_get hI3015.1.1 38 4 8 (0) (0) (5) (by decide) q hq1 hq2) (fun v3046 av3046 bv3046 => ?_)
              refine WQ_iast dX11_keep_34 (ly_is hy 42 13 rfl) (ly_n hy 42 105 rfl) (by omega) (by omega) (fun I3047 eI3047 => ?_)
              have hI3047 : MP g n L I3047 := by rw [eI3047]; exact (mp_w hy hI3015 (c := 42) (mi_rr hy hI3015.1 (c := 42) (74) (77) (0) (0) (5) (by decide) (Or.inl (by decide)) (by rw [cl (n := v3045.toInt.toNat) (by omega)]; omega) (by decide) (fun _ => ⟨by omega, by omega⟩)) (by decide) (by decide) (Or.inl (by decide)))
              have e3048 : I3047 (ad g 0) 1 = L := by rw [eI3047, pp_ne _ _ (Or.inl (ly_ne hy (by decide) (by decide) (by decide)))]; exact e3018
              have fr3049 : fs g [] I I3047 := by rw [eI3047]; exact fs_ppn hy fqI3015 (by decide) (by decide)
              have fr3050 : fz 49 g [42, 44] I I3047 := by rw [eI3047]; exact fzm_pp hy fiI3015 (by decide) (by decide)
              clear eI3047
              refine WP_iinc (ls' := [(0, _), (1, _), (2, _)]) dX11_keep_35 rfl (by decide) rfl ?_
              have hv3051 : (i3014 + Int32.ofInt (1)).toInt = i3014.toInt + (1) := ia_n rfl (by omega) (by omega)
              generalize i3014 + Int32.ofInt (1) = v3051 at hv3051 ⊢
              refine WP_goto 12 dX11_keep_38 rfl ?_
              exact WP_sub (fc rfl (fc rfl (fc rfl fn))) (ihlp12_3016 v3051 I3047 J3016 hI3047 fr3050 fjJ3016 fr3049 (by omega) (by omega) (by omega))
            · refine WP_aload_n dX11_keep_18 rfl ?_
              refine WP_getr dX11_keep_19 fX11_295 rfl (ly_is hy 0 11 rfl) (rf hr 0 65 42 (by decide)) ?_
              refine WQ_bipush (35) (35) dX11_keep_22 rfl rfl (fun v3052 hv3052 => ?_)
              refine WP_iload_n dX11_keep_24 rfl ?_
              refine WQ_imulK (35) dX11_keep_25 hv3052 (by omega) (by omega) (fun v3053 hv3053 => ?_)
              refine WP_iload_n dX11_keep_26 rfl ?_
              refine WQ_iadd dX11_keep_27 (by omega) (by omega) (fun v3054 hv3054 => ?_)
              refine WP_aload_n dX11_keep_28 rfl ?_
              refine WP_getr dX11_keep_29 fX11_283 rfl (ly_is hy 0 11 rfl) (rf hr 0 59 38 (by decide)) ?_
              refine WP_iload_n dX11_keep_32 rfl ?_
              refine WQ_ialdu dX11_keep_33 (ly_is hy 38 13 rfl) (ly_n hy 38 35 rfl) (by omega) (by omega) (fun v3055 => ?_)
              refine WQ_iast dX11_keep_34 (ly_is hy 42 13 rfl) (ly_n hy 42 105 rfl) (by omega) (by omega) (fun I3056 eI3056 => ?_)
              have hI3056 : MP g n L I3056 := by rw [eI3056]; exact (mp_w hy hI3015 (c := 42) (mi_rr hy hI3015.1 (c := 42) (78) (101) (0) (0) (0) (by decide) (Or.inl (by decide)) (by rw [cl (n := v3054.toInt.toNat) (by omega)]; omega) (by decide) (fun h => absurd h (by decide))) (by decide) (by decide) (Or.inl (by decide)))
              have e3057 : I3056 (ad g 0) 1 = L := by rw [eI3056, pp_ne _ _ (Or.inl (ly_ne hy (by decide) (by decide) (by decide)))]; exact e3018
              have fr3058 : fs g [] I I3056 := by rw [eI3056]; exact fs_ppn hy fqI3015 (by decide) (by decide)
              have fr3059 : fz 49 g [42, 44] I I3056 := by rw [eI3056]; exact fzm_pp hy fiI3015 (by decide) (by decide)
              clear eI3056
              refine WP_iinc (ls' := [(0, _), (1, _), (2, _)]) dX11_keep_35 rfl (by decide) rfl ?_
              have hv3060 : (i3014 + Int32.ofInt (1)).toInt = i3014.toInt + (1) := ia_n rfl (by omega) (by omega)
              generalize i3014 + Int32.ofInt (1) = v3060 at hv3060 ⊢
              refine WP_goto 12 dX11_keep_38 rfl ?_
              exact WP_sub (fc rfl (fc rfl (fc rfl fn))) (ihlp12_3016 v3060 I3056 J3016 hI3056 fr3059 fjJ3016 fr3058 (by omega) (by omega) (by omega))
            · refine WP_aload_n dX11_keep_18 rfl ?_
              refine WP_getr dX11_keep_19 fX11_295 rfl (ly_is hy 0 11 rfl) (rf hr 0 65 42 (by decide)) ?_
              refine WQ_bipush (35) (35) dX11_keep_22 rfl rfl (fun v3061 hv3061 => ?_)
              refine WP_iload_n dX11_keep_24 rfl ?_
              refine WQ_imulK (35) dX11_keep_25 hv3061 (by omega) (by omega) (fun v3062 hv3062 => ?_)
              refine WP_iload_n dX11_keep_26 rfl ?_
              refine WQ_iadd dX11_keep_27 (by omega) (by omega) (fun v3063 hv3063 => ?_)
              refine WP_aload_n dX11_keep_28 rfl ?_
              refine WP_getr dX11_keep_29 fX11_283 rfl (ly_is hy 0 11 rfl) (rf hr 0 59 38 (by decide)) ?_
              refine WP_iload_n dX11_keep_32 rfl ?_
              refine WQ_ialdr dX11_keep_33 (ly_is hy 38 13 rfl) (ly_n hy 38 35 rfl) (by omega) (by omega) (a := 32) (b := 33) (by omega) (by omega) (fun q hq1 hq2 => BT_get hI3015.1.1 38 32 33 (0) (23760) (0) (by decide) q hq1 hq2) (fun v3064 av3064 bv3064 => ?_)
              refine WQ_iast dX11_keep_34 (ly_is hy 42 13 rfl) (ly_n hy 42 105 rfl) (by omega) (by omega) (fun I3065 eI3065 => ?_)
              have hI3065 : MP g n L I3065 := by rw [eI3065]; exact (mp_w hy hI3015 (c := 42) (mi_rr hy hI3015.1 (c := 42) (102) (102) (0) (23760) (0) (by decide) (Or.inl (by decide)) (by rw [cl (n := v3063.toInt.toNat) (by omega)]; omega) (by decide) (fun _ => ⟨by omega, by omega⟩)) (by decide) (by decide) (Or.inl (by decide)))
              have e3066 : I3065 (ad g 0) 1 = L := by rw [eI3065, pp_ne _ _ (Or.inl (ly_ne hy (by decide) (by decide) (by decide)))]; exact e3018
              have fr3067 : fs g [] I I3065 := by rw [eI3065]; exact fs_ppn hy fqI3015 (by decide) (by decide)
              have fr3068 : fz 49 g [42, 44] I I3065 := by rw [eI3065]; exact fzm_pp hy fiI3015 (by decide) (by decide)
              clear eI3065
              refine WP_iinc (ls' := [(0, _), (1, _), (2, _)]) dX11_keep_35 rfl (by decide) rfl ?_
              have hv3069 : (i3014 + Int32.ofInt (1)).toInt = i3014.toInt + (1) := ia_n rfl (by omega) (by omega)
              generalize i3014 + Int32.ofInt (1) = v3069 at hv3069 ⊢
              refine WP_goto 12 dX11_keep_38 rfl ?_
              exact WP_sub (fc rfl (fc rfl (fc rfl fn))) (ihlp12_3016 v3069 I3065 J3016 hI3065 fr3068 fjJ3016 fr3067 (by omega) (by omega) (by omega))
            · refine WP_aload_n dX11_keep_18 rfl ?_
              refine WP_getr dX11_keep_19 fX11_295 rfl (ly_is hy 0 11 rfl) (rf hr 0 65 42 (by decide)) ?_
              refine WQ_bipush (35) (35) dX11_keep_22 rfl rfl (fun v3070 hv3070 => ?_)
              refine WP_iload_n dX11_keep_24 rfl ?_
              refine WQ_imulK (35) dX11_keep_25 hv3070 (by omega) (by omega) (fun v3071 hv3071 => ?_)
              refine WP_iload_n dX11_keep_26 rfl ?_
              refine WQ_iadd dX11_keep_27 (by omega) (by omega) (fun v3072 hv3072 => ?_)
              refine WP_aload_n dX11_keep_28 rfl ?_
              refine WP_getr dX11_keep_29 fX11_283 rfl (ly_is hy 0 11 rfl) (rf hr 0 59 38 (by decide)) ?_
              refine WP_iload_n dX11_keep_32 rfl ?_
              refine WQ_ialdr dX11_keep_33 (ly_is hy 38 13 rfl) (ly_n hy 38 35 rfl) (by omega) (by omega) (a := 33) (b := 34) (by omega) (by omega) (fun q hq1 hq2 => BT_get hI3015.1.1 38 33 34 (0) (1) (0) (by decide) q hq1 hq2) (fun v3073 av3073 bv3073 => ?_)
              refine WQ_iast dX11_keep_34 (ly_is hy 42 13 rfl) (ly_n hy 42 105 rfl) (by omega) (by omega) (fun I3074 eI3074 => ?_)
              have hI3074 : MP g n L I3074 := by rw [eI3074]; exact (mp_w hy hI3015 (c := 42) (mi_rr hy hI3015.1 (c := 42) (103) (103) (0) (1) (0) (by decide) (Or.inl (by decide)) (by rw [cl (n := v3072.toInt.toNat) (by omega)]; omega) (by decide) (fun _ => ⟨by omega, by omega⟩)) (by decide) (by decide) (Or.inl (by decide)))
              have e3075 : I3074 (ad g 0) 1 = L := by rw [eI3074, pp_ne _ _ (Or.inl (ly_ne hy (by decide) (by decide) (by decide)))]; exact e3018
              have fr3076 : fs g [] I I3074 := by rw [eI3074]; exact fs_ppn hy fqI3015 (by decide) (by decide)
              have fr3077 : fz 49 g [42, 44] I I3074 := by rw [eI3074]; exact fzm_pp hy fiI3015 (by decide) (by decide)
              clear eI3074
              refine WP_iinc (ls' := [(0, _), (1, _), (2, _)]) dX11_keep_35 rfl (by decide) rfl ?_
              have hv3078 : (i3014 + Int32.ofInt (1)).toInt = i3014.toInt + (1) := ia_n rfl (by omega) (by omega)
              generalize i3014 + Int32.ofInt (1) = v3078 at hv3078 ⊢
              refine WP_goto 12 dX11_keep_38 rfl ?_
              exact WP_sub (fc rfl (fc rfl (fc rfl fn))) (ihlp12_3016 v3078 I3074 J3016 hI3074 fr3077 fjJ3016 fr3076 (by omega) (by omega) (by omega))
            · refine WP_aload_n dX11_keep_18 rfl ?_
              refine WP_getr dX11_keep_19 fX11_295 rfl (ly_is hy 0 11 rfl) (rf hr 0 65 42 (by decide)) ?_
              refine WQ_bipush (35) (35) dX11_keep_22 rfl rfl (fun v3079 hv3079 => ?_)
              refine WP_iload_n dX11_keep_24 rfl ?_
              refine WQ_imulK (35) dX11_keep_25 hv3079 (by omega) (by omega) (fun v3080 hv3080 => ?_)
              refine WP_iload_n dX11_keep_26 rfl ?_
              refine WQ_iadd dX11_keep_27 (by omega) (by omega) (fun v3081 hv3081 => ?_)
              refine WP_aload_n dX11_keep_28 rfl ?_
              refine WP_getr dX11_keep_29 fX11_283 rfl (ly_is hy 0 11 rfl) (rf hr 0 59 38 (by decide)) ?_
              refine WP_iload_n dX11_keep_32 rfl ?_
              refine WQ_ialdu dX11_keep_33 (ly_is hy 38 13 rfl) (ly_n hy 38 35 rfl) (by omega) (by omega) (fun v3082 => ?_)
              refine WQ_iast dX11_keep_34 (ly_is hy 42 13 rfl) (ly_n hy 42 105 rfl) (by omega) (by omega) (fun I3083 eI3083 => ?_)
              have hI3083 : MP g n L I3083 := by rw [eI3083]; exact (mp_w hy hI3015 (c := 42) (mi_rr hy hI3015.1 (c := 42) (104) (104) (0) (0) (0) (by decide) (Or.inl (by decide)) (by rw [cl (n := v3081.toInt.toNat) (by omega)]; omega) (by decide) (fun h => absurd h (by decide))) (by decide) (by decide) (Or.inl (by decide)))
              have e3084 : I3083 (ad g 0) 1 = L := by rw [eI3083, pp_ne _ _ (Or.inl (ly_ne hy (by decide) (by decide) (by decide)))]; exact e3018
              have fr3085 : fs g [] I I3083 := by rw [eI3083]; exact fs_ppn hy fqI3015 (by decide) (by decide)
              have fr3086 : fz 49 g [42, 44] I I3083 := by rw [eI3083]; exact fzm_pp hy fiI3015 (by decide) (by decide)
              clear eI3083
              refine WP_iinc (ls' := [(0, _), (1, _), (2, _)]) dX11_keep_35 rfl (by decide) rfl ?_
              have hv3087 : (i3014 + Int32.ofInt (1)).toInt = i3014.toInt + (1) := ia_n rfl (by omega) (by omega)
              generalize i3014 + Int32.ofInt (1) = v3087 at hv3087 ⊢
              refine WP_goto 12 dX11_keep_38 rfl ?_
              exact WP_sub (fc rfl (fc rfl (fc rfl fn))) (ihlp12_3016 v3087 I3083 J3016 hI3083 fr3086 fjJ3016 fr3085 (by omega) (by omega) (by omega))
      exact WP_sub (fc rfl (fc rfl (fc rfl fn))) (lp12_3016 _ v3013 I J hI fr0 frj0 frq0 (by omega) (by omega) (Nat.lt_succ_self _))
  · refine WQ_bipush (-2) (-2) dX11_keep_7 rfl rfl (fun v3088 hv3088 => ?_)
    exact WP_iret dX11_keep_9 rfl ⟨⟨hI, rfl, fr0, frj0, frq0⟩, _, rfl⟩
set_option maxHeartbeats 4000000 in
set_option maxRecDepth 100000 in
theorem sm_take {g : GG} {n : Int} {L : Int32} (hy : Ly g)  {I : pI} {J : pJ} {R : pR} (hr : Rf g R) (hI : MP g n L I) (a : Int32)  : SP g mX11_take [.ref (ad g 0), .int a] I J R (fun r I' J' R' => (MP g n L I' ∧ R' = R ∧ fz 49 g [38] I I' ∧ fz 49 g [0] J J' ∧ fs g [] I I') ∧ ∃ v : Int32, r = some (.int v)) := by
  refine SP_of ⟨by decide, rfl⟩ (Nat.le_of_ble_eq_true rfl) ?_
  have e3089 : I (ad g 0) 1 = L := hI.1.2
  have b3090 := BT_get hI.1.1 0 1 2 (0) (0) (900) (by decide) 1 (by decide) (by decide)
  rw [e3089] at b3090
  have fr0 : fz 49 g [38] I I := fz_rf
  have frj0 : fz 49 g [0] J J := fz_rf
  have frq0 : fs g [] I I := fs_rf
  refine WP_iload_n dX11_take_0 rfl ?_
  refine WP_callS1 dX11_take_1 ⟨⟨⟨by decide, by decide⟩, zX11_isSlot⟩, lX11_494, tX11_isSlot⟩ (sm_isSlot hy hr hI a ) (Nat.le_of_ble_eq_true rfl) ?_
  intro r Ia Ja Ra hq
  obtain ⟨⟨ea, eb, ec⟩, v3091, rfl, av3091, bv3091, cv3091⟩ := hq
  show WP _ _ _ _ (.int _ :: _) _ _ _ _
  rw [ea, eb, ec]
  clear ea eb ec Ia Ja Ra
  refine WQ_if_ne 10 dX11_take_4 rfl (fun c3091 => ?_) (fun c3091 => ?_)
  · refine WP_aload_n dX11_take_10 rfl ?_
    refine WP_getr dX11_take_11 fX11_301 rfl (ly_is hy 0 11 rfl) (rf hr 0 67 44 (by decide)) ?_
    refine WP_iload_n dX11_take_14 rfl ?_
    refine WQ_zaldu dX11_take_15 (ly_is hy 44 15 rfl) (ly_n hy 44 3 rfl) (by omega) (by omega) (fun v3093 => ?_)
    refine WQ_if_ne 22 dX11_take_16 rfl (fun c3093 => ?_) (fun c3093 => ?_)
    · rcases (show (0 ≤ a.toInt ∧ a.toInt ≤ 0) ∨ (1 ≤ a.toInt ∧ a.toInt ≤ 1) ∨ (2 ≤ a.toInt ∧ a.toInt ≤ 2) by omega) with ⟨k3095_0, k3095_1⟩ | ⟨k3095_2, k3095_3⟩ | ⟨k3095_4, k3095_5⟩
      · refine WQ_iconst (0) (0) dX11_take_22 rfl rfl (fun v3096 hv3096 => ?_)
        refine WP_istore_n (ls' := [(0, _), (1, _), (2, _)]) dX11_take_23 (by decide) rfl ?_
        have lp24_3099 : ∀ (mz : Nat) (i3097 : Int32) (I3098 : pI) (J3099 : pJ), MP g n L I3098 → fz 49 g [38] I I3098 → fz 49 g [0] J J3099 → fs g [] I I3098 → 0 ≤ i3097.toInt → i3097.toInt ≤ 35 → (36 - i3097.toInt).toNat < mz → WP g mX11_take 24 [(0, .ref (ad g 0)), (1, .int a), (2, .int i3097)] [] I3098 J3099 R (fun r I' J' R' => (MP g n L I' ∧ R' = R ∧ fz 49 g [38] I I' ∧ fz 49 g [0] J J' ∧ fs g [] I I') ∧ ∃ v : Int32, r = some (.int v)) := by
          intro mz
          induction mz with
          | zero =>
            intro i3097 I3098 J3099 hI3098 fiI3098 fjJ3099 fqI3098 ai3097 bi3097 hmlp24_3099
            exact absurd hmlp24_3099 (Nat.not_lt_zero _)
          | succ mz ihlp24_3099 =>
            intro i3097 I3098 J3099 hI3098 fiI3098 fjJ3099 fqI3098 ai3097 bi3097 hmlp24_3099
            have e3101 : I3098 (ad g 0) 1 = L := hI3098.1.2
            have b3102 := BT_get hI3098.1.1 0 1 2 (0) (0) (900) (by decide) 1 (by decide) (by decide)
            rw [e3101] at b3102
            refine WP_iload_n dX11_take_24 rfl ?_
            refine WQ_bipush (35) (35) dX11_take_25 rfl rfl (fun v3103 hv3103 => ?_)
            refine WQ_icmp_ge 53 dX11_take_27 rfl (fun c3103 => ?_) (fun c3103 => ?_)
            · refine WP_aload_n dX11_take_53 rfl ?_
              refine WP_aload_n dX11_take_54 rfl ?_
              refine WP_getr dX11_take_55 fX11_298 rfl (ly_is hy 0 11 rfl) (rf hr 0 66 43 (by decide)) ?_
              refine WP_iload_n dX11_take_58 rfl ?_
              refine WQ_laldu dX11_take_59 (ly_is hy 43 14 rfl) (ly_n hy 43 3 rfl) (by omega) (by omega) (fun l3105 => ?_)
              refine WQ_putl dX11_take_60 fX11_346 rfl rfl (ly_is hy 0 11 rfl) (fun J3106 eJ3106 => ?_)
              have fr3107 : fz 49 g [0] J J3106 := by rw [eJ3106]; exact fzm_pp hy fjJ3099 (by decide) (by decide)
              clear eJ3106
              refine WP_aload_n dX11_take_63 rfl ?_
              refine WP_getr dX11_take_64 fX11_283 rfl (ly_is hy 0 11 rfl) (rf hr 0 59 38 (by decide)) ?_
              refine WQ_bipush (33) (33) dX11_take_67 rfl rfl (fun v3108 hv3108 => ?_)
              refine WQ_ialdr dX11_take_69 (ly_is hy 38 13 rfl) (ly_n hy 38 35 rfl) (by omega) (by omega) (a := 33) (b := 34) (by omega) (by omega) (fun q hq1 hq2 => BT_get hI3098.1.1 38 33 34 (0) (1) (0) (by decide) q hq1 hq2) (fun v3109 av3109 bv3109 => ?_)
              exact WP_iret dX11_take_70 rfl ⟨⟨hI3098, rfl, fiI3098, fr3107, fqI3098⟩, _, rfl⟩
            · rcases (show (0 ≤ i3097.toInt ∧ i3097.toInt ≤ 3) ∨ (4 ≤ i3097.toInt ∧ i3097.toInt ≤ 7) ∨ (8 ≤ i3097.toInt ∧ i3097.toInt ≤ 31) ∨ (32 ≤ i3097.toInt ∧ i3097.toInt ≤ 32) ∨ (33 ≤ i3097.toInt ∧ i3097.toInt ≤ 33) ∨ (34 ≤ i3097.toInt ∧ i3097.toInt ≤ 34) by omega) with ⟨k3110_0, k3110_1⟩ | ⟨k3110_2, k3110_3⟩ | ⟨k3110_4, k3110_5⟩ | ⟨k3110_6, k3110_7⟩ | ⟨k3110_8, k3110_9⟩ | ⟨k3110_10, k3110_11⟩
              · refine WP_aload_n dX11_take_30 rfl ?_
                refine WP_getr dX11_take_31 fX11_283 rfl (ly_is hy 0 11 rfl) (rf hr 0 59 38 (by decide)) ?_
                refine WP_iload_n dX11_take_34 rfl ?_
                refine WP_aload_n dX11_take_35 rfl ?_
                refine WP_getr dX11_take_36 fX11_295 rfl (ly_is hy 0 11 rfl) (rf hr 0 65 42 (by decide)) ?_
                refine WQ_bipush (35) (35) dX11_take_39 rfl rfl (fun v3111 hv3111 => ?_)
                refine WP_iload_n dX11_take_41 rfl ?_
                refine WQ_imulK (35) dX11_take_42 hv3111 (by omega) (by omega) (fun v3112 hv3112 => ?_)
                refine WP_iload_n dX11_take_43 rfl ?_
                refine WQ_iadd dX11_take_44 (by omega) (by omega) (fun v3113 hv3113 => ?_)
                refine WQ_ialdr dX11_take_45 (ly_is hy 42 13 rfl) (ly_n hy 42 105 rfl) (by omega) (by omega) (a := 0) (b := 4) (by omega) (by omega) (fun q hq1 hq2 => BT_get hI3098.1.1 42 0 4 (0) (0) (60) (by decide) q hq1 hq2) (fun v3114 av3114 bv3114 => ?_)
                refine WQ_iast dX11_take_46 (ly_is hy 38 13 rfl) (ly_n hy 38 35 rfl) (by omega) (by omega) (fun I3115 eI3115 => ?_)
                have hI3115 : MP g n L I3115 := by rw [eI3115]; exact (mp_w hy hI3098 (c := 38) (mi_rr hy hI3098.1 (c := 38) (0) (3) (0) (0) (60) (by decide) (Or.inl (by decide)) (by rw [cl (n := i3097.toInt.toNat) (by omega)]; omega) (by decide) (fun _ => ⟨by omega, by omega⟩)) (by decide) (by decide) (Or.inl (by decide)))
                have e3116 : I3115 (ad g 0) 1 = L := by rw [eI3115, pp_ne _ _ (Or.inl (ly_ne hy (by decide) (by decide) (by decide)))]; exact e3101
                have fr3117 : fs g [] I I3115 := by rw [eI3115]; exact fs_ppn hy fqI3098 (by decide) (by decide)
                have fr3118 : fz 49 g [38] I I3115 := by rw [eI3115]; exact fzm_pp hy fiI3098 (by decide) (by decide)
                clear eI3115
                refine WP_iinc (ls' := [(0, _), (1, _), (2, _)]) dX11_take_47 rfl (by decide) rfl ?_
                have hv3119 : (i3097 + Int32.ofInt (1)).toInt = i3097.toInt + (1) := ia_n rfl (by omega) (by omega)
                generalize i3097 + Int32.ofInt (1) = v3119 at hv3119 ⊢
                refine WP_goto 24 dX11_take_50 rfl ?_
                exact WP_sub (fc rfl (fc rfl (fc rfl fn))) (ihlp24_3099 v3119 I3115 J3099 hI3115 fr3118 fjJ3099 fr3117 (by omega) (by omega) (by omega))
              · refine WP_aload_n dX11_take_30 rfl ?_
                refine WP_getr dX11_take_31 fX11_283 rfl (ly_is hy 0 11 rfl) (rf hr 0 59 38 (by decide)) ?_
                refine WP_iload_n dX11_take_34 rfl ?_
                refine WP_aload_n dX11_take_35 rfl ?_
                refine WP_getr dX11_take_36 fX11_295 rfl (ly_is hy 0 11 rfl) (rf hr 0 65 42 (by decide)) ?_
                refine WQ_bipush (35) (35) dX11_take_39 rfl rfl (fun v3120 hv3120 => ?_)
                refine WP_iload_n dX11_take_41 rfl ?_
                refine WQ_imulK (35) dX11_take_42 hv3120 (by omega) (by omega) (fun v3121 hv3121 => ?_)
                refine WP_iload_n dX11_take_43 rfl ?_
                refine WQ_iadd dX11_take_44 (by omega) (by omega) (fun v3122 hv3122 => ?_)
                refine WQ_ialdr dX11_take_45 (ly_is hy 42 13 rfl) (ly_n hy 42 105 rfl) (by omega) (by omega) (a := 4) (b := 8) (by omega) (by omega) (fun q hq1 hq2 => BT_get hI3098.1.1 42 4 8 (0) (0) (5) (by decide) q hq1 hq2) (fun v3123 av3123 bv3123 => ?_)
                refine WQ_iast dX11_take_46 (ly_is hy 38 13 rfl) (ly_n hy 38 35 rfl) (by omega) (by omega) (fun I3124 eI3124 => ?_)
                have hI3124 : MP g n L I3124 := by rw [eI3124]; exact (mp_w hy hI3098 (c := 38) (mi_rr hy hI3098.1 (c := 38) (4) (7) (0) (0) (5) (by decide) (Or.inl (by decide)) (by rw [cl (n := i3097.toInt.toNat) (by omega)]; omega) (by decide) (fun _ => ⟨by omega, by omega⟩)) (by decide) (by decide) (Or.inl (by decide)))
                have e3125 : I3124 (ad g 0) 1 = L := by rw [eI3124, pp_ne _ _ (Or.inl (ly_ne hy (by decide) (by decide) (by decide)))]; exact e3101
                have fr3126 : fs g [] I I3124 := by rw [eI3124]; exact fs_ppn hy fqI3098 (by decide) (by decide)
                have fr3127 : fz 49 g [38] I I3124 := by rw [eI3124]; exact fzm_pp hy fiI3098 (by decide) (by decide)
                clear eI3124
                refine WP_iinc (ls' := [(0, _), (1, _), (2, _)]) dX11_take_47 rfl (by decide) rfl ?_
                have hv3128 : (i3097 + Int32.ofInt (1)).toInt = i3097.toInt + (1) := ia_n rfl (by omega) (by omega)
                generalize i3097 + Int32.ofInt (1) = v3128 at hv3128 ⊢
                refine WP_goto 24 dX11_take_50 rfl ?_
                exact WP_sub (fc rfl (fc rfl (fc rfl fn))) (ihlp24_3099 v3128 I3124 J3099 hI3124 fr3127 fjJ3099 fr3126 (by omega) (by omega) (by omega))
              · refine WP_aload_n dX11_take_30 rfl ?_
                refine WP_getr dX11_take_31 fX11_283 rfl (ly_is hy 0 11 rfl) (rf hr 0 59 38 (by decide)) ?_
                refine WP_iload_n dX11_take_34 rfl ?_
                refine WP_aload_n dX11_take_35 rfl ?_
                refine WP_getr dX11_take_36 fX11_295 rfl (ly_is hy 0 11 rfl) (rf hr 0 65 42 (by decide)) ?_
                refine WQ_bipush (35) (35) dX11_take_39 rfl rfl (fun v3129 hv3129 => ?_)
                refine WP_iload_n dX11_take_41 rfl ?_
                refine WQ_imulK (35) dX11_take_42 hv3129 (by omega) (by omega) (fun v3130 hv3130 => ?_)
                refine WP_iload_n dX11_take_43 rfl ?_
                refine WQ_iadd dX11_take_44 (by omega) (by omega) (fun v3131 hv3131 => ?_)
                refine WQ_ialdu dX11_take_45 (ly_is hy 42 13 rfl) (ly_n hy 42 105 rfl) (by omega) (by omega) (fun v3132 => ?_)
                refine WQ_iast dX11_take_46 (ly_is hy 38 13 rfl) (ly_n hy 38 35 rfl) (by omega) (by omega) (fun I3133 eI3133 => ?_)
                have hI3133 : MP g n L I3133 := by rw [eI3133]; exact (mp_w hy hI3098 (c := 38) (mi_rr hy hI3098.1 (c := 38) (8) (31) (0) (0) (0) (by decide) (Or.inl (by decide)) (by rw [cl (n := i3097.toInt.toNat) (by omega)]; omega) (by decide) (fun h => absurd h (by decide))) (by decide) (by decide) (Or.inl (by decide)))
                have e3134 : I3133 (ad g 0) 1 = L := by rw [eI3133, pp_ne _ _ (Or.inl (ly_ne hy (by decide) (by decide) (by decide)))]; exact e3101
                have fr3135 : fs g [] I I3133 := by rw [eI3133]; exact fs_ppn hy fqI3098 (by decide) (by decide)
                have fr3136 : fz 49 g [38] I I3133 := by rw [eI3133]; exact fzm_pp hy fiI3098 (by decide) (by decide)
                clear eI3133
                refine WP_iinc (ls' := [(0, _), (1, _), (2, _)]) dX11_take_47 rfl (by decide) rfl ?_
                have hv3137 : (i3097 + Int32.ofInt (1)).toInt = i3097.toInt + (1) := ia_n rfl (by omega) (by omega)
                generalize i3097 + Int32.ofInt (1) = v3137 at hv3137 ⊢
                refine WP_goto 24 dX11_take_50 rfl ?_
                exact WP_sub (fc rfl (fc rfl (fc rfl fn))) (ihlp24_3099 v3137 I3133 J3099 hI3133 fr3136 fjJ3099 fr3135 (by omega) (by omega) (by omega))
              · refine WP_aload_n dX11_take_30 rfl ?_
                refine WP_getr dX11_take_31 fX11_283 rfl (ly_is hy 0 11 rfl) (rf hr 0 59 38 (by decide)) ?_
                refine WP_iload_n dX11_take_34 rfl ?_
                refine WP_aload_n dX11_take_35 rfl ?_
                refine WP_getr dX11_take_36 fX11_295 rfl (ly_is hy 0 11 rfl) (rf hr 0 65 42 (by decide)) ?_
                refine WQ_bipush (35) (35) dX11_take_39 rfl rfl (fun v3138 hv3138 => ?_)
                refine WP_iload_n dX11_take_41 rfl ?_
                refine WQ_imulK (35) dX11_take_42 hv3138 (by omega) (by omega) (fun v3139 hv3139 => ?_)
                refine WP_iload_n dX11_take_43 rfl ?_
                refine WQ_iadd dX11_take_44 (by omega) (by omega) (fun v3140 hv3140 => ?_)
                refine WQ_ialdr dX11_take_45 (ly_is hy 42 13 rfl) (ly_n hy 42 105 rfl) (by omega) (by omega) (a := 32) (b := 33) (by omega) (by omega) (fun q hq1 hq2 => BT_get hI3098.1.1 42 32 33 (0) (23760) (0) (by decide) q hq1 hq2) (fun v3141 av3141 bv3141 => ?_)
                refine WQ_iast dX11_take_46 (ly_is hy 38 13 rfl) (ly_n hy 38 35 rfl) (by omega) (by omega) (fun I3142 eI3142 => ?_)
                have hI3142 : MP g n L I3142 := by rw [eI3142]; exact (mp_w hy hI3098 (c := 38) (mi_rr hy hI3098.1 (c := 38) (32) (32) (0) (23760) (0) (by decide) (Or.inl (by decide)) (by rw [cl (n := i3097.toInt.toNat) (by omega)]; omega) (by decide) (fun _ => ⟨by omega, by omega⟩)) (by decide) (by decide) (Or.inl (by decide)))
                have e3143 : I3142 (ad g 0) 1 = L := by rw [eI3142, pp_ne _ _ (Or.inl (ly_ne hy (by decide) (by decide) (by decide)))]; exact e3101
                have fr3144 : fs g [] I I3142 := by rw [eI3142]; exact fs_ppn hy fqI3098 (by decide) (by decide)
                have fr3145 : fz 49 g [38] I I3142 := by rw [eI3142]; exact fzm_pp hy fiI3098 (by decide) (by decide)
                clear eI3142
                refine WP_iinc (ls' := [(0, _), (1, _), (2, _)]) dX11_take_47 rfl (by decide) rfl ?_
                have hv3146 : (i3097 + Int32.ofInt (1)).toInt = i3097.toInt + (1) := ia_n rfl (by omega) (by omega)
                generalize i3097 + Int32.ofInt (1) = v3146 at hv3146 ⊢
                refine WP_goto 24 dX11_take_50 rfl ?_
                exact WP_sub (fc rfl (fc rfl (fc rfl fn))) (ihlp24_3099 v3146 I3142 J3099 hI3142 fr3145 fjJ3099 fr3144 (by omega) (by omega) (by omega))
              · refine WP_aload_n dX11_take_30 rfl ?_
                refine WP_getr dX11_take_31 fX11_283 rfl (ly_is hy 0 11 rfl) (rf hr 0 59 38 (by decide)) ?_
                refine WP_iload_n dX11_take_34 rfl ?_
                refine WP_aload_n dX11_take_35 rfl ?_
                refine WP_getr dX11_take_36 fX11_295 rfl (ly_is hy 0 11 rfl) (rf hr 0 65 42 (by decide)) ?_
                refine WQ_bipush (35) (35) dX11_take_39 rfl rfl (fun v3147 hv3147 => ?_)
                refine WP_iload_n dX11_take_41 rfl ?_
                refine WQ_imulK (35) dX11_take_42 hv3147 (by omega) (by omega) (fun v3148 hv3148 => ?_)
                refine WP_iload_n dX11_take_43 rfl ?_
                refine WQ_iadd dX11_take_44 (by omega) (by omega) (fun v3149 hv3149 => ?_)
                refine WQ_ialdr dX11_take_45 (ly_is hy 42 13 rfl) (ly_n hy 42 105 rfl) (by omega) (by omega) (a := 33) (b := 34) (by omega) (by omega) (fun q hq1 hq2 => BT_get hI3098.1.1 42 33 34 (0) (1) (0) (by decide) q hq1 hq2) (fun v3150 av3150 bv3150 => ?_)
                refine WQ_iast dX11_take_46 (ly_is hy 38 13 rfl) (ly_n hy 38 35 rfl) (by omega) (by omega) (fun I3151 eI3151 => ?_)
                have hI3151 : MP g n L I3151 := by rw [eI3151]; exact (mp_w hy hI3098 (c := 38) (mi_rr hy hI3098.1 (c := 38) (33) (33) (0) (1) (0) (by decide) (Or.inl (by decide)) (by rw [cl (n := i3097.toInt.toNat) (by omega)]; omega) (by decide) (fun _ => ⟨by omega, by omega⟩)) (by decide) (by decide) (Or.inl (by decide)))
                have e3152 : I3151 (ad g 0) 1 = L := by rw [eI3151, pp_ne _ _ (Or.inl (ly_ne hy (by decide) (by decide) (by decide)))]; exact e3101
                have fr3153 : fs g [] I I3151 := by rw [eI3151]; exact fs_ppn hy fqI3098 (by decide) (by decide)
                have fr3154 : fz 49 g [38] I I3151 := by rw [eI3151]; exact fzm_pp hy fiI3098 (by decide) (by decide)
                clear eI3151
                refine WP_iinc (ls' := [(0, _), (1, _), (2, _)]) dX11_take_47 rfl (by decide) rfl ?_
                have hv3155 : (i3097 + Int32.ofInt (1)).toInt = i3097.toInt + (1) := ia_n rfl (by omega) (by omega)
                generalize i3097 + Int32.ofInt (1) = v3155 at hv3155 ⊢
                refine WP_goto 24 dX11_take_50 rfl ?_
                exact WP_sub (fc rfl (fc rfl (fc rfl fn))) (ihlp24_3099 v3155 I3151 J3099 hI3151 fr3154 fjJ3099 fr3153 (by omega) (by omega) (by omega))
              · refine WP_aload_n dX11_take_30 rfl ?_
                refine WP_getr dX11_take_31 fX11_283 rfl (ly_is hy 0 11 rfl) (rf hr 0 59 38 (by decide)) ?_
                refine WP_iload_n dX11_take_34 rfl ?_
                refine WP_aload_n dX11_take_35 rfl ?_
                refine WP_getr dX11_take_36 fX11_295 rfl (ly_is hy 0 11 rfl) (rf hr 0 65 42 (by decide)) ?_
                refine WQ_bipush (35) (35) dX11_take_39 rfl rfl (fun v3156 hv3156 => ?_)
                refine WP_iload_n dX11_take_41 rfl ?_
                refine WQ_imulK (35) dX11_take_42 hv3156 (by omega) (by omega) (fun v3157 hv3157 => ?_)
                refine WP_iload_n dX11_take_43 rfl ?_
                refine WQ_iadd dX11_take_44 (by omega) (by omega) (fun v3158 hv3158 => ?_)
                refine WQ_ialdu dX11_take_45 (ly_is hy 42 13 rfl) (ly_n hy 42 105 rfl) (by omega) (by omega) (fun v3159 => ?_)
                refine WQ_iast dX11_take_46 (ly_is hy 38 13 rfl) (ly_n hy 38 35 rfl) (by omega) (by omega) (fun I3160 eI3160 => ?_)
                have hI3160 : MP g n L I3160 := by rw [eI3160]; exact (mp_w hy hI3098 (c := 38) (mi_rr hy hI3098.1 (c := 38) (34) (34) (0) (0) (0) (by decide) (Or.inl (by decide)) (by rw [cl (n := i3097.toInt.toNat) (by omega)]; omega) (by decide) (fun h => absurd h (by decide))) (by decide) (by decide) (Or.inl (by decide)))
                have e3161 : I3160 (ad g 0) 1 = L := by rw [eI3160, pp_ne _ _ (Or.inl (ly_ne hy (by decide) (by decide) (by decide)))]; exact e3101
                have fr3162 : fs g [] I I3160 := by rw [eI3160]; exact fs_ppn hy fqI3098 (by decide) (by decide)
                have fr3163 : fz 49 g [38] I I3160 := by rw [eI3160]; exact fzm_pp hy fiI3098 (by decide) (by decide)
                clear eI3160
                refine WP_iinc (ls' := [(0, _), (1, _), (2, _)]) dX11_take_47 rfl (by decide) rfl ?_
                have hv3164 : (i3097 + Int32.ofInt (1)).toInt = i3097.toInt + (1) := ia_n rfl (by omega) (by omega)
                generalize i3097 + Int32.ofInt (1) = v3164 at hv3164 ⊢
                refine WP_goto 24 dX11_take_50 rfl ?_
                exact WP_sub (fc rfl (fc rfl (fc rfl fn))) (ihlp24_3099 v3164 I3160 J3099 hI3160 fr3163 fjJ3099 fr3162 (by omega) (by omega) (by omega))
        exact WP_sub (fc rfl (fc rfl (fc rfl fn))) (lp24_3099 _ v3096 I J hI fr0 frj0 frq0 (by omega) (by omega) (Nat.lt_succ_self _))
      · refine WQ_iconst (0) (0) dX11_take_22 rfl rfl (fun v3165 hv3165 => ?_)
        refine WP_istore_n (ls' := [(0, _), (1, _), (2, _)]) dX11_take_23 (by decide) rfl ?_
        have lp24_3168 : ∀ (mz : Nat) (i3166 : Int32) (I3167 : pI) (J3168 : pJ), MP g n L I3167 → fz 49 g [38] I I3167 → fz 49 g [0] J J3168 → fs g [] I I3167 → 0 ≤ i3166.toInt → i3166.toInt ≤ 35 → (36 - i3166.toInt).toNat < mz → WP g mX11_take 24 [(0, .ref (ad g 0)), (1, .int a), (2, .int i3166)] [] I3167 J3168 R (fun r I' J' R' => (MP g n L I' ∧ R' = R ∧ fz 49 g [38] I I' ∧ fz 49 g [0] J J' ∧ fs g [] I I') ∧ ∃ v : Int32, r = some (.int v)) := by
          intro mz
          induction mz with
          | zero =>
            intro i3166 I3167 J3168 hI3167 fiI3167 fjJ3168 fqI3167 ai3166 bi3166 hmlp24_3168
            exact absurd hmlp24_3168 (Nat.not_lt_zero _)
          | succ mz ihlp24_3168 =>
            intro i3166 I3167 J3168 hI3167 fiI3167 fjJ3168 fqI3167 ai3166 bi3166 hmlp24_3168
            have e3170 : I3167 (ad g 0) 1 = L := hI3167.1.2
            have b3171 := BT_get hI3167.1.1 0 1 2 (0) (0) (900) (by decide) 1 (by decide) (by decide)
            rw [e3170] at b3171
            refine WP_iload_n dX11_take_24 rfl ?_
            refine WQ_bipush (35) (35) dX11_take_25 rfl rfl (fun v3172 hv3172 => ?_)
            refine WQ_icmp_ge 53 dX11_take_27 rfl (fun c3172 => ?_) (fun c3172 => ?_)
            · refine WP_aload_n dX11_take_53 rfl ?_
              refine WP_aload_n dX11_take_54 rfl ?_
              refine WP_getr dX11_take_55 fX11_298 rfl (ly_is hy 0 11 rfl) (rf hr 0 66 43 (by decide)) ?_
              refine WP_iload_n dX11_take_58 rfl ?_
              refine WQ_laldu dX11_take_59 (ly_is hy 43 14 rfl) (ly_n hy 43 3 rfl) (by omega) (by omega) (fun l3174 => ?_)
              refine WQ_putl dX11_take_60 fX11_346 rfl rfl (ly_is hy 0 11 rfl) (fun J3175 eJ3175 => ?_)
              have fr3176 : fz 49 g [0] J J3175 := by rw [eJ3175]; exact fzm_pp hy fjJ3168 (by decide) (by decide)
              clear eJ3175
              refine WP_aload_n dX11_take_63 rfl ?_
              refine WP_getr dX11_take_64 fX11_283 rfl (ly_is hy 0 11 rfl) (rf hr 0 59 38 (by decide)) ?_
              refine WQ_bipush (33) (33) dX11_take_67 rfl rfl (fun v3177 hv3177 => ?_)
              refine WQ_ialdr dX11_take_69 (ly_is hy 38 13 rfl) (ly_n hy 38 35 rfl) (by omega) (by omega) (a := 33) (b := 34) (by omega) (by omega) (fun q hq1 hq2 => BT_get hI3167.1.1 38 33 34 (0) (1) (0) (by decide) q hq1 hq2) (fun v3178 av3178 bv3178 => ?_)
              exact WP_iret dX11_take_70 rfl ⟨⟨hI3167, rfl, fiI3167, fr3176, fqI3167⟩, _, rfl⟩
            · rcases (show (0 ≤ i3166.toInt ∧ i3166.toInt ≤ 3) ∨ (4 ≤ i3166.toInt ∧ i3166.toInt ≤ 7) ∨ (8 ≤ i3166.toInt ∧ i3166.toInt ≤ 31) ∨ (32 ≤ i3166.toInt ∧ i3166.toInt ≤ 32) ∨ (33 ≤ i3166.toInt ∧ i3166.toInt ≤ 33) ∨ (34 ≤ i3166.toInt ∧ i3166.toInt ≤ 34) by omega) with ⟨k3179_0, k3179_1⟩ | ⟨k3179_2, k3179_3⟩ | ⟨k3179_4, k3179_5⟩ | ⟨k3179_6, k3179_7⟩ | ⟨k3179_8, k3179_9⟩ | ⟨k3179_10, k3179_11⟩
              · refine WP_aload_n dX11_take_30 rfl ?_
                refine WP_getr dX11_take_31 fX11_283 rfl (ly_is hy 0 11 rfl) (rf hr 0 59 38 (by decide)) ?_
                refine WP_iload_n dX11_take_34 rfl ?_
                refine WP_aload_n dX11_take_35 rfl ?_
                refine WP_getr dX11_take_36 fX11_295 rfl (ly_is hy 0 11 rfl) (rf hr 0 65 42 (by decide)) ?_
                refine WQ_bipush (35) (35) dX11_take_39 rfl rfl (fun v3180 hv3180 => ?_)
                refine WP_iload_n dX11_take_41 rfl ?_
                refine WQ_imulK (35) dX11_take_42 hv3180 (by omega) (by omega) (fun v3181 hv3181 => ?_)
                refine WP_iload_n dX11_take_43 rfl ?_
                refine WQ_iadd dX11_take_44 (by omega) (by omega) (fun v3182 hv3182 => ?_)
                refine WQ_ialdr dX11_take_45 (ly_is hy 42 13 rfl) (ly_n hy 42 105 rfl) (by omega) (by omega) (a := 35) (b := 39) (by omega) (by omega) (fun q hq1 hq2 => BT_get hI3167.1.1 42 35 39 (0) (0) (60) (by decide) q hq1 hq2) (fun v3183 av3183 bv3183 => ?_)
                refine WQ_iast dX11_take_46 (ly_is hy 38 13 rfl) (ly_n hy 38 35 rfl) (by omega) (by omega) (fun I3184 eI3184 => ?_)
                have hI3184 : MP g n L I3184 := by rw [eI3184]; exact (mp_w hy hI3167 (c := 38) (mi_rr hy hI3167.1 (c := 38) (0) (3) (0) (0) (60) (by decide) (Or.inl (by decide)) (by rw [cl (n := i3166.toInt.toNat) (by omega)]; omega) (by decide) (fun _ => ⟨by omega, by omega⟩)) (by decide) (by decide) (Or.inl (by decide)))
                have e3185 : I3184 (ad g 0) 1 = L := by rw [eI3184, pp_ne _ _ (Or.inl (ly_ne hy (by decide) (by decide) (by decide)))]; exact e3170
                have fr3186 : fs g [] I I3184 := by rw [eI3184]; exact fs_ppn hy fqI3167 (by decide) (by decide)
                have fr3187 : fz 49 g [38] I I3184 := by rw [eI3184]; exact fzm_pp hy fiI3167 (by decide) (by decide)
                clear eI3184
                refine WP_iinc (ls' := [(0, _), (1, _), (2, _)]) dX11_take_47 rfl (by decide) rfl ?_
                have hv3188 : (i3166 + Int32.ofInt (1)).toInt = i3166.toInt + (1) := ia_n rfl (by omega) (by omega)
                generalize i3166 + Int32.ofInt (1) = v3188 at hv3188 ⊢
                refine WP_goto 24 dX11_take_50 rfl ?_
                exact WP_sub (fc rfl (fc rfl (fc rfl fn))) (ihlp24_3168 v3188 I3184 J3168 hI3184 fr3187 fjJ3168 fr3186 (by omega) (by omega) (by omega))
              · refine WP_aload_n dX11_take_30 rfl ?_
                refine WP_getr dX11_take_31 fX11_283 rfl (ly_is hy 0 11 rfl) (rf hr 0 59 38 (by decide)) ?_
                refine WP_iload_n dX11_take_34 rfl ?_
                refine WP_aload_n dX11_take_35 rfl ?_
                refine WP_getr dX11_take_36 fX11_295 rfl (ly_is hy 0 11 rfl) (rf hr 0 65 42 (by decide)) ?_
                refine WQ_bipush (35) (35) dX11_take_39 rfl rfl (fun v3189 hv3189 => ?_)
                refine WP_iload_n dX11_take_41 rfl ?_
                refine WQ_imulK (35) dX11_take_42 hv3189 (by omega) (by omega) (fun v3190 hv3190 => ?_)
                refine WP_iload_n dX11_take_43 rfl ?_
                refine WQ_iadd dX11_take_44 (by omega) (by omega) (fun v3191 hv3191 => ?_)
                refine WQ_ialdr dX11_take_45 (ly_is hy 42 13 rfl) (ly_n hy 42 105 rfl) (by omega) (by omega) (a := 39) (b := 43) (by omega) (by omega) (fun q hq1 hq2 => BT_get hI3167.1.1 42 39 43 (0) (0) (5) (by decide) q hq1 hq2) (fun v3192 av3192 bv3192 => ?_)
                refine WQ_iast dX11_take_46 (ly_is hy 38 13 rfl) (ly_n hy 38 35 rfl) (by omega) (by omega) (fun I3193 eI3193 => ?_)
                have hI3193 : MP g n L I3193 := by rw [eI3193]; exact (mp_w hy hI3167 (c := 38) (mi_rr hy hI3167.1 (c := 38) (4) (7) (0) (0) (5) (by decide) (Or.inl (by decide)) (by rw [cl (n := i3166.toInt.toNat) (by omega)]; omega) (by decide) (fun _ => ⟨by omega, by omega⟩)) (by decide) (by decide) (Or.inl (by decide)))
                have e3194 : I3193 (ad g 0) 1 = L := by rw [eI3193, pp_ne _ _ (Or.inl (ly_ne hy (by decide) (by decide) (by decide)))]; exact e3170
                have fr3195 : fs g [] I I3193 := by rw [eI3193]; exact fs_ppn hy fqI3167 (by decide) (by decide)
                have fr3196 : fz 49 g [38] I I3193 := by rw [eI3193]; exact fzm_pp hy fiI3167 (by decide) (by decide)
                clear eI3193
                refine WP_iinc (ls' := [(0, _), (1, _), (2, _)]) dX11_take_47 rfl (by decide) rfl ?_
                have hv3197 : (i3166 + Int32.ofInt (1)).toInt = i3166.toInt + (1) := ia_n rfl (by omega) (by omega)
                generalize i3166 + Int32.ofInt (1) = v3197 at hv3197 ⊢
                refine WP_goto 24 dX11_take_50 rfl ?_
                exact WP_sub (fc rfl (fc rfl (fc rfl fn))) (ihlp24_3168 v3197 I3193 J3168 hI3193 fr3196 fjJ3168 fr3195 (by omega) (by omega) (by omega))
              · refine WP_aload_n dX11_take_30 rfl ?_
                refine WP_getr dX11_take_31 fX11_283 rfl (ly_is hy 0 11 rfl) (rf hr 0 59 38 (by decide)) ?_
                refine WP_iload_n dX11_take_34 rfl ?_
                refine WP_aload_n dX11_take_35 rfl ?_
                refine WP_getr dX11_take_36 fX11_295 rfl (ly_is hy 0 11 rfl) (rf hr 0 65 42 (by decide)) ?_
                refine WQ_bipush (35) (35) dX11_take_39 rfl rfl (fun v3198 hv3198 => ?_)
                refine WP_iload_n dX11_take_41 rfl ?_
                refine WQ_imulK (35) dX11_take_42 hv3198 (by omega) (by omega) (fun v3199 hv3199 => ?_)
                refine WP_iload_n dX11_take_43 rfl ?_
                refine WQ_iadd dX11_take_44 (by omega) (by omega) (fun v3200 hv3200 => ?_)
                refine WQ_ialdu dX11_take_45 (ly_is hy 42 13 rfl) (ly_n hy 42 105 rfl) (by omega) (by omega) (fun v3201 => ?_)
                refine WQ_iast dX11_take_46 (ly_is hy 38 13 rfl) (ly_n hy 38 35 rfl) (by omega) (by omega) (fun I3202 eI3202 => ?_)
                have hI3202 : MP g n L I3202 := by rw [eI3202]; exact (mp_w hy hI3167 (c := 38) (mi_rr hy hI3167.1 (c := 38) (8) (31) (0) (0) (0) (by decide) (Or.inl (by decide)) (by rw [cl (n := i3166.toInt.toNat) (by omega)]; omega) (by decide) (fun h => absurd h (by decide))) (by decide) (by decide) (Or.inl (by decide)))
                have e3203 : I3202 (ad g 0) 1 = L := by rw [eI3202, pp_ne _ _ (Or.inl (ly_ne hy (by decide) (by decide) (by decide)))]; exact e3170
                have fr3204 : fs g [] I I3202 := by rw [eI3202]; exact fs_ppn hy fqI3167 (by decide) (by decide)
                have fr3205 : fz 49 g [38] I I3202 := by rw [eI3202]; exact fzm_pp hy fiI3167 (by decide) (by decide)
                clear eI3202
                refine WP_iinc (ls' := [(0, _), (1, _), (2, _)]) dX11_take_47 rfl (by decide) rfl ?_
                have hv3206 : (i3166 + Int32.ofInt (1)).toInt = i3166.toInt + (1) := ia_n rfl (by omega) (by omega)
                generalize i3166 + Int32.ofInt (1) = v3206 at hv3206 ⊢
                refine WP_goto 24 dX11_take_50 rfl ?_
                exact WP_sub (fc rfl (fc rfl (fc rfl fn))) (ihlp24_3168 v3206 I3202 J3168 hI3202 fr3205 fjJ3168 fr3204 (by omega) (by omega) (by omega))
              · refine WP_aload_n dX11_take_30 rfl ?_
                refine WP_getr dX11_take_31 fX11_283 rfl (ly_is hy 0 11 rfl) (rf hr 0 59 38 (by decide)) ?_
                refine WP_iload_n dX11_take_34 rfl ?_
                refine WP_aload_n dX11_take_35 rfl ?_
                refine WP_getr dX11_take_36 fX11_295 rfl (ly_is hy 0 11 rfl) (rf hr 0 65 42 (by decide)) ?_
                refine WQ_bipush (35) (35) dX11_take_39 rfl rfl (fun v3207 hv3207 => ?_)
                refine WP_iload_n dX11_take_41 rfl ?_
                refine WQ_imulK (35) dX11_take_42 hv3207 (by omega) (by omega) (fun v3208 hv3208 => ?_)
                refine WP_iload_n dX11_take_43 rfl ?_
                refine WQ_iadd dX11_take_44 (by omega) (by omega) (fun v3209 hv3209 => ?_)
                refine WQ_ialdr dX11_take_45 (ly_is hy 42 13 rfl) (ly_n hy 42 105 rfl) (by omega) (by omega) (a := 67) (b := 68) (by omega) (by omega) (fun q hq1 hq2 => BT_get hI3167.1.1 42 67 68 (0) (23760) (0) (by decide) q hq1 hq2) (fun v3210 av3210 bv3210 => ?_)
                refine WQ_iast dX11_take_46 (ly_is hy 38 13 rfl) (ly_n hy 38 35 rfl) (by omega) (by omega) (fun I3211 eI3211 => ?_)
                have hI3211 : MP g n L I3211 := by rw [eI3211]; exact (mp_w hy hI3167 (c := 38) (mi_rr hy hI3167.1 (c := 38) (32) (32) (0) (23760) (0) (by decide) (Or.inl (by decide)) (by rw [cl (n := i3166.toInt.toNat) (by omega)]; omega) (by decide) (fun _ => ⟨by omega, by omega⟩)) (by decide) (by decide) (Or.inl (by decide)))
                have e3212 : I3211 (ad g 0) 1 = L := by rw [eI3211, pp_ne _ _ (Or.inl (ly_ne hy (by decide) (by decide) (by decide)))]; exact e3170
                have fr3213 : fs g [] I I3211 := by rw [eI3211]; exact fs_ppn hy fqI3167 (by decide) (by decide)
                have fr3214 : fz 49 g [38] I I3211 := by rw [eI3211]; exact fzm_pp hy fiI3167 (by decide) (by decide)
                clear eI3211
                refine WP_iinc (ls' := [(0, _), (1, _), (2, _)]) dX11_take_47 rfl (by decide) rfl ?_
                have hv3215 : (i3166 + Int32.ofInt (1)).toInt = i3166.toInt + (1) := ia_n rfl (by omega) (by omega)
                generalize i3166 + Int32.ofInt (1) = v3215 at hv3215 ⊢
                refine WP_goto 24 dX11_take_50 rfl ?_
                exact WP_sub (fc rfl (fc rfl (fc rfl fn))) (ihlp24_3168 v3215 I3211 J3168 hI3211 fr3214 fjJ3168 fr3213 (by omega) (by omega) (by omega))
              · refine WP_aload_n dX11_take_30 rfl ?_
                refine WP_getr dX11_take_31 fX11_283 rfl (ly_is hy 0 11 rfl) (rf hr 0 59 38 (by decide)) ?_
                refine WP_iload_n dX11_take_34 rfl ?_
                refine WP_aload_n dX11_take_35 rfl ?_
                refine WP_getr dX11_take_36 fX11_295 rfl (ly_is hy 0 11 rfl) (rf hr 0 65 42 (by decide)) ?_
                refine WQ_bipush (35) (35) dX11_take_39 rfl rfl (fun v3216 hv3216 => ?_)
                refine WP_iload_n dX11_take_41 rfl ?_
                refine WQ_imulK (35) dX11_take_42 hv3216 (by omega) (by omega) (fun v3217 hv3217 => ?_)
                refine WP_iload_n dX11_take_43 rfl ?_
                refine WQ_iadd dX11_take_44 (by omega) (by omega) (fun v3218 hv3218 => ?_)
                refine WQ_ialdr dX11_take_45 (ly_is hy 42 13 rfl) (ly_n hy 42 105 rfl) (by omega) (by omega) (a := 68) (b := 69) (by omega) (by omega) (fun q hq1 hq2 => BT_get hI3167.1.1 42 68 69 (0) (1) (0) (by decide) q hq1 hq2) (fun v3219 av3219 bv3219 => ?_)
                refine WQ_iast dX11_take_46 (ly_is hy 38 13 rfl) (ly_n hy 38 35 rfl) (by omega) (by omega) (fun I3220 eI3220 => ?_)
                have hI3220 : MP g n L I3220 := by rw [eI3220]; exact (mp_w hy hI3167 (c := 38) (mi_rr hy hI3167.1 (c := 38) (33) (33) (0) (1) (0) (by decide) (Or.inl (by decide)) (by rw [cl (n := i3166.toInt.toNat) (by omega)]; omega) (by decide) (fun _ => ⟨by omega, by omega⟩)) (by decide) (by decide) (Or.inl (by decide)))
                have e3221 : I3220 (ad g 0) 1 = L := by rw [eI3220, pp_ne _ _ (Or.inl (ly_ne hy (by decide) (by decide) (by decide)))]; exact e3170
                have fr3222 : fs g [] I I3220 := by rw [eI3220]; exact fs_ppn hy fqI3167 (by decide) (by decide)
                have fr3223 : fz 49 g [38] I I3220 := by rw [eI3220]; exact fzm_pp hy fiI3167 (by decide) (by decide)
                clear eI3220
                refine WP_iinc (ls' := [(0, _), (1, _), (2, _)]) dX11_take_47 rfl (by decide) rfl ?_
                have hv3224 : (i3166 + Int32.ofInt (1)).toInt = i3166.toInt + (1) := ia_n rfl (by omega) (by omega)
                generalize i3166 + Int32.ofInt (1) = v3224 at hv3224 ⊢
                refine WP_goto 24 dX11_take_50 rfl ?_
                exact WP_sub (fc rfl (fc rfl (fc rfl fn))) (ihlp24_3168 v3224 I3220 J3168 hI3220 fr3223 fjJ3168 fr3222 (by omega) (by omega) (by omega))
              · refine WP_aload_n dX11_take_30 rfl ?_
                refine WP_getr dX11_take_31 fX11_283 rfl (ly_is hy 0 11 rfl) (rf hr 0 59 38 (by decide)) ?_
                refine WP_iload_n dX11_take_34 rfl ?_
                refine WP_aload_n dX11_take_35 rfl ?_
                refine WP_getr dX11_take_36 fX11_295 rfl (ly_is hy 0 11 rfl) (rf hr 0 65 42 (by decide)) ?_
                refine WQ_bipush (35) (35) dX11_take_39 rfl rfl (fun v3225 hv3225 => ?_)
                refine WP_iload_n dX11_take_41 rfl ?_
                refine WQ_imulK (35) dX11_take_42 hv3225 (by omega) (by omega) (fun v3226 hv3226 => ?_)
                refine WP_iload_n dX11_take_43 rfl ?_
                refine WQ_iadd dX11_take_44 (by omega) (by omega) (fun v3227 hv3227 => ?_)
                refine WQ_ialdu dX11_take_45 (ly_is hy 42 13 rfl) (ly_n hy 42 105 rfl) (by omega) (by omega) (fun v3228 => ?_)
                refine WQ_iast dX11_take_46 (ly_is hy 38 13 rfl) (ly_n hy 38 35 rfl) (by omega) (by omega) (fun I3229 eI3229 => ?_)
                have hI3229 : MP g n L I3229 := by rw [eI3229]; exact (mp_w hy hI3167 (c := 38) (mi_rr hy hI3167.1 (c := 38) (34) (34) (0) (0) (0) (by decide) (Or.inl (by decide)) (by rw [cl (n := i3166.toInt.toNat) (by omega)]; omega) (by decide) (fun h => absurd h (by decide))) (by decide) (by decide) (Or.inl (by decide)))
                have e3230 : I3229 (ad g 0) 1 = L := by rw [eI3229, pp_ne _ _ (Or.inl (ly_ne hy (by decide) (by decide) (by decide)))]; exact e3170
                have fr3231 : fs g [] I I3229 := by rw [eI3229]; exact fs_ppn hy fqI3167 (by decide) (by decide)
                have fr3232 : fz 49 g [38] I I3229 := by rw [eI3229]; exact fzm_pp hy fiI3167 (by decide) (by decide)
                clear eI3229
                refine WP_iinc (ls' := [(0, _), (1, _), (2, _)]) dX11_take_47 rfl (by decide) rfl ?_
                have hv3233 : (i3166 + Int32.ofInt (1)).toInt = i3166.toInt + (1) := ia_n rfl (by omega) (by omega)
                generalize i3166 + Int32.ofInt (1) = v3233 at hv3233 ⊢
                refine WP_goto 24 dX11_take_50 rfl ?_
                exact WP_sub (fc rfl (fc rfl (fc rfl fn))) (ihlp24_3168 v3233 I3229 J3168 hI3229 fr3232 fjJ3168 fr3231 (by omega) (by omega) (by omega))
        exact WP_sub (fc rfl (fc rfl (fc rfl fn))) (lp24_3168 _ v3165 I J hI fr0 frj0 frq0 (by omega) (by omega) (Nat.lt_succ_self _))
      · refine WQ_iconst (0) (0) dX11_take_22 rfl rfl (fun v3234 hv3234 => ?_)
        refine WP_istore_n (ls' := [(0, _), (1, _), (2, _)]) dX11_take_23 (by decide) rfl ?_
        have lp24_3237 : ∀ (mz : Nat) (i3235 : Int32) (I3236 : pI) (J3237 : pJ), MP g n L I3236 → fz 49 g [38] I I3236 → fz 49 g [0] J J3237 → fs g [] I I3236 → 0 ≤ i3235.toInt → i3235.toInt ≤ 35 → (36 - i3235.toInt).toNat < mz → WP g mX11_take 24 [(0, .ref (ad g 0)), (1, .int a), (2, .int i3235)] [] I3236 J3237 R (fun r I' J' R' => (MP g n L I' ∧ R' = R ∧ fz 49 g [38] I I' ∧ fz 49 g [0] J J' ∧ fs g [] I I') ∧ ∃ v : Int32, r = some (.int v)) := by
          intro mz
          induction mz with
          | zero =>
            intro i3235 I3236 J3237 hI3236 fiI3236 fjJ3237 fqI3236 ai3235 bi3235 hmlp24_3237
            exact absurd hmlp24_3237 (Nat.not_lt_zero _)
          | succ mz ihlp24_3237 =>
            intro i3235 I3236 J3237 hI3236 fiI3236 fjJ3237 fqI3236 ai3235 bi3235 hmlp24_3237
            have e3239 : I3236 (ad g 0) 1 = L := hI3236.1.2
            have b3240 := BT_get hI3236.1.1 0 1 2 (0) (0) (900) (by decide) 1 (by decide) (by decide)
            rw [e3239] at b3240
            refine WP_iload_n dX11_take_24 rfl ?_
            refine WQ_bipush (35) (35) dX11_take_25 rfl rfl (fun v3241 hv3241 => ?_)
            refine WQ_icmp_ge 53 dX11_take_27 rfl (fun c3241 => ?_) (fun c3241 => ?_)
            · refine WP_aload_n dX11_take_53 rfl ?_
              refine WP_aload_n dX11_take_54 rfl ?_
              refine WP_getr dX11_take_55 fX11_298 rfl (ly_is hy 0 11 rfl) (rf hr 0 66 43 (by decide)) ?_
              refine WP_iload_n dX11_take_58 rfl ?_
              refine WQ_laldu dX11_take_59 (ly_is hy 43 14 rfl) (ly_n hy 43 3 rfl) (by omega) (by omega) (fun l3243 => ?_)
              refine WQ_putl dX11_take_60 fX11_346 rfl rfl (ly_is hy 0 11 rfl) (fun J3244 eJ3244 => ?_)
              have fr3245 : fz 49 g [0] J J3244 := by rw [eJ3244]; exact fzm_pp hy fjJ3237 (by decide) (by decide)
              clear eJ3244
              refine WP_aload_n dX11_take_63 rfl ?_
              refine WP_getr dX11_take_64 fX11_283 rfl (ly_is hy 0 11 rfl) (rf hr 0 59 38 (by decide)) ?_
              refine WQ_bipush (33) (33) dX11_take_67 rfl rfl (fun v3246 hv3246 => ?_)
              refine WQ_ialdr dX11_take_69 (ly_is hy 38 13 rfl) (ly_n hy 38 35 rfl) (by omega) (by omega) (a := 33) (b := 34) (by omega) (by omega) (fun q hq1 hq2 => BT_get hI3236.1.1 38 33 34 (0) (1) (0) (by decide) q hq1 hq2) (fun v3247 av3247 bv3247 => ?_)
              exact WP_iret dX11_take_70 rfl ⟨⟨hI3236, rfl, fiI3236, fr3245, fqI3236⟩, _, rfl⟩
            · rcases (show (0 ≤ i3235.toInt ∧ i3235.toInt ≤ 3) ∨ (4 ≤ i3235.toInt ∧ i3235.toInt ≤ 7) ∨ (8 ≤ i3235.toInt ∧ i3235.toInt ≤ 31) ∨ (32 ≤ i3235.toInt ∧ i3235.toInt ≤ 32) ∨ (33 ≤ i3235.toInt ∧ i3235.toInt ≤ 33) ∨ (34 ≤ i3235.toInt ∧ i3235.toInt ≤ 34) by omega) with ⟨k3248_0, k3248_1⟩ | ⟨k3248_2, k3248_3⟩ | ⟨k3248_4, k3248_5⟩ | ⟨k3248_6, k3248_7⟩ | ⟨k3248_8, k3248_9⟩ | ⟨k3248_10, k3248_11⟩
              · refine WP_aload_n dX11_take_30 rfl ?_
                refine WP_getr dX11_take_31 fX11_283 rfl (ly_is hy 0 11 rfl) (rf hr 0 59 38 (by decide)) ?_
                refine WP_iload_n dX11_take_34 rfl ?_
                refine WP_aload_n dX11_take_35 rfl ?_
                refine WP_getr dX11_take_36 fX11_295 rfl (ly_is hy 0 11 rfl) (rf hr 0 65 42 (by decide)) ?_
                refine WQ_bipush (35) (35) dX11_take_39 rfl rfl (fun v3249 hv3249 => ?_)
                refine WP_iload_n dX11_take_41 rfl ?_
                refine WQ_imulK (35) dX11_take_42 hv3249 (by omega) (by omega) (fun v3250 hv3250 => ?_)
                refine WP_iload_n dX11_take_43 rfl ?_
                refine WQ_iadd dX11_take_44 (by omega) (by omega) (fun v3251 hv3251 => ?_)
                refine WQ_ialdr dX11_take_45 (ly_is hy 42 13 rfl) (ly_n hy 42 105 rfl) (by omega) (by omega) (a := 70) (b := 74) (by omega) (by omega) (fun q hq1 hq2 => BT_get hI3236.1.1 42 70 74 (0) (0) (60) (by decide) q hq1 hq2) (fun v3252 av3252 bv3252 => ?_)
                refine WQ_iast dX11_take_46 (ly_is hy 38 13 rfl) (ly_n hy 38 35 rfl) (by omega) (by omega) (fun I3253 eI3253 => ?_)
                have hI3253 : MP g n L I3253 := by rw [eI3253]; exact (mp_w hy hI3236 (c := 38) (mi_rr hy hI3236.1 (c := 38) (0) (3) (0) (0) (60) (by decide) (Or.inl (by decide)) (by rw [cl (n := i3235.toInt.toNat) (by omega)]; omega) (by decide) (fun _ => ⟨by omega, by omega⟩)) (by decide) (by decide) (Or.inl (by decide)))
                have e3254 : I3253 (ad g 0) 1 = L := by rw [eI3253, pp_ne _ _ (Or.inl (ly_ne hy (by decide) (by decide) (by decide)))]; exact e3239
                have fr3255 : fs g [] I I3253 := by rw [eI3253]; exact fs_ppn hy fqI3236 (by decide) (by decide)
                have fr3256 : fz 49 g [38] I I3253 := by rw [eI3253]; exact fzm_pp hy fiI3236 (by decide) (by decide)
                clear eI3253
                refine WP_iinc (ls' := [(0, _), (1, _), (2, _)]) dX11_take_47 rfl (by decide) rfl ?_
                have hv3257 : (i3235 + Int32.ofInt (1)).toInt = i3235.toInt + (1) := ia_n rfl (by omega) (by omega)
                generalize i3235 + Int32.ofInt (1) = v3257 at hv3257 ⊢
                refine WP_goto 24 dX11_take_50 rfl ?_
                exact WP_sub (fc rfl (fc rfl (fc rfl fn))) (ihlp24_3237 v3257 I3253 J3237 hI3253 fr3256 fjJ3237 fr3255 (by omega) (by omega) (by omega))
              · refine WP_aload_n dX11_take_30 rfl ?_
                refine WP_getr dX11_take_31 fX11_283 rfl (ly_is hy 0 11 rfl) (rf hr 0 59 38 (by decide)) ?_
                refine WP_iload_n dX11_take_34 rfl ?_
                refine WP_aload_n dX11_take_35 rfl ?_
                refine WP_getr dX11_take_36 fX11_295 rfl (ly_is hy 0 11 rfl) (rf hr 0 65 42 (by decide)) ?_
                refine WQ_bipush (35) (35) dX11_take_39 rfl rfl (fun v3258 hv3258 => ?_)
                refine WP_iload_n dX11_take_41 rfl ?_
                refine WQ_imulK (35) dX11_take_42 hv3258 (by omega) (by omega) (fun v3259 hv3259 => ?_)
                refine WP_iload_n dX11_take_43 rfl ?_
                refine WQ_iadd dX11_take_44 (by omega) (by omega) (fun v3260 hv3260 => ?_)
                refine WQ_ialdr dX11_take_45 (ly_is hy 42 13 rfl) (ly_n hy 42 105 rfl) (by omega) (by omega) (a := 74) (b := 78) (by omega) (by omega) (fun q hq1 hq2 => BT_get hI3236.1.1 42 74 78 (0) (0) (5) (by decide) q hq1 hq2) (fun v3261 av3261 bv3261 => ?_)
                refine WQ_iast dX11_take_46 (ly_is hy 38 13 rfl) (ly_n hy 38 35 rfl) (by omega) (by omega) (fun I3262 eI3262 => ?_)
                have hI3262 : MP g n L I3262 := by rw [eI3262]; exact (mp_w hy hI3236 (c := 38) (mi_rr hy hI3236.1 (c := 38) (4) (7) (0) (0) (5) (by decide) (Or.inl (by decide)) (by rw [cl (n := i3235.toInt.toNat) (by omega)]; omega) (by decide) (fun _ => ⟨by omega, by omega⟩)) (by decide) (by decide) (Or.inl (by decide)))
                have e3263 : I3262 (ad g 0) 1 = L := by rw [eI3262, pp_ne _ _ (Or.inl (ly_ne hy (by decide) (by decide) (by decide)))]; exact e3239
                have fr3264 : fs g [] I I3262 := by rw [eI3262]; exact fs_ppn hy fqI3236 (by decide) (by decide)
                have fr3265 : fz 49 g [38] I I3262 := by rw [eI3262]; exact fzm_pp hy fiI3236 (by decide) (by decide)
                clear eI3262
                refine WP_iinc (ls' := [(0, _), (1, _), (2, _)]) dX11_take_47 rfl (by decide) rfl ?_
                have hv3266 : (i3235 + Int32.ofInt (1)).toInt = i3235.toInt + (1) := ia_n rfl (by omega) (by omega)
                generalize i3235 + Int32.ofInt (1) = v3266 at hv3266 ⊢
                refine WP_goto 24 dX11_take_50 rfl ?_
                exact WP_sub (fc rfl (fc rfl (fc rfl fn))) (ihlp24_3237 v3266 I3262 J3237 hI3262 fr3265 fjJ3237 fr3264 (by omega) (by omega) (by omega))
              · refine WP_aload_n dX11_take_30 rfl ?_
                refine WP_getr dX11_take_31 fX11_283 rfl (ly_is hy 0 11 rfl) (rf hr 0 59 38 (by decide)) ?_
                refine WP_iload_n dX11_take_34 rfl ?_
                refine WP_aload_n dX11_take_35 rfl ?_
                refine WP_getr dX11_take_36 fX11_295 rfl (ly_is hy 0 11 rfl) (rf hr 0 65 42 (by decide)) ?_
                refine WQ_bipush (35) (35) dX11_take_39 rfl rfl (fun v3267 hv3267 => ?_)
                refine WP_iload_n dX11_take_41 rfl ?_
                refine WQ_imulK (35) dX11_take_42 hv3267 (by omega) (by omega) (fun v3268 hv3268 => ?_)
                refine WP_iload_n dX11_take_43 rfl ?_
                refine WQ_iadd dX11_take_44 (by omega) (by omega) (fun v3269 hv3269 => ?_)
                refine WQ_ialdu dX11_take_45 (ly_is hy 42 13 rfl) (ly_n hy 42 105 rfl) (by omega) (by omega) (fun v3270 => ?_)
                refine WQ_iast dX11_take_46 (ly_is hy 38 13 rfl) (ly_n hy 38 35 rfl) (by omega) (by omega) (fun I3271 eI3271 => ?_)
                have hI3271 : MP g n L I3271 := by rw [eI3271]; exact (mp_w hy hI3236 (c := 38) (mi_rr hy hI3236.1 (c := 38) (8) (31) (0) (0) (0) (by decide) (Or.inl (by decide)) (by rw [cl (n := i3235.toInt.toNat) (by omega)]; omega) (by decide) (fun h => absurd h (by decide))) (by decide) (by decide) (Or.inl (by decide)))
                have e3272 : I3271 (ad g 0) 1 = L := by rw [eI3271, pp_ne _ _ (Or.inl (ly_ne hy (by decide) (by decide) (by decide)))]; exact e3239
                have fr3273 : fs g [] I I3271 := by rw [eI3271]; exact fs_ppn hy fqI3236 (by decide) (by decide)
                have fr3274 : fz 49 g [38] I I3271 := by rw [eI3271]; exact fzm_pp hy fiI3236 (by decide) (by decide)
                clear eI3271
                refine WP_iinc (ls' := [(0, _), (1, _), (2, _)]) dX11_take_47 rfl (by decide) rfl ?_
                have hv3275 : (i3235 + Int32.ofInt (1)).toInt = i3235.toInt + (1) := ia_n rfl (by omega) (by omega)
                generalize i3235 + Int32.ofInt (1) = v3275 at hv3275 ⊢
                refine WP_goto 24 dX11_take_50 rfl ?_
                exact WP_sub (fc rfl (fc rfl (fc rfl fn))) (ihlp24_3237 v3275 I3271 J3237 hI3271 fr3274 fjJ3237 fr3273 (by omega) (by omega) (by omega))
              · refine WP_aload_n dX11_take_30 rfl ?_
                refine WP_getr dX11_take_31 fX11_283 rfl (ly_is hy 0 11 rfl) (rf hr 0 59 38 (by decide)) ?_
                refine WP_iload_n dX11_take_34 rfl ?_
                refine WP_aload_n dX11_take_35 rfl ?_
                refine WP_getr dX11_take_36 fX11_295 rfl (ly_is hy 0 11 rfl) (rf hr 0 65 42 (by decide)) ?_
                refine WQ_bipush (35) (35) dX11_take_39 rfl rfl (fun v3276 hv3276 => ?_)
                refine WP_iload_n dX11_take_41 rfl ?_
                refine WQ_imulK (35) dX11_take_42 hv3276 (by omega) (by omega) (fun v3277 hv3277 => ?_)
                refine WP_iload_n dX11_take_43 rfl ?_
                refine WQ_iadd dX11_take_44 (by omega) (by omega) (fun v3278 hv3278 => ?_)
                refine WQ_ialdr dX11_take_45 (ly_is hy 42 13 rfl) (ly_n hy 42 105 rfl) (by omega) (by omega) (a := 102) (b := 103) (by omega) (by omega) (fun q hq1 hq2 => BT_get hI3236.1.1 42 102 103 (0) (23760) (0) (by decide) q hq1 hq2) (fun v3279 av3279 bv3279 => ?_)
                refine WQ_iast dX11_take_46 (ly_is hy 38 13 rfl) (ly_n hy 38 35 rfl) (by omega) (by omega) (fun I3280 eI3280 => ?_)
                have hI3280 : MP g n L I3280 := by rw [eI3280]; exact (mp_w hy hI3236 (c := 38) (mi_rr hy hI3236.1 (c := 38) (32) (32) (0) (23760) (0) (by decide) (Or.inl (by decide)) (by rw [cl (n := i3235.toInt.toNat) (by omega)]; omega) (by decide) (fun _ => ⟨by omega, by omega⟩)) (by decide) (by decide) (Or.inl (by decide)))
                have e3281 : I3280 (ad g 0) 1 = L := by rw [eI3280, pp_ne _ _ (Or.inl (ly_ne hy (by decide) (by decide) (by decide)))]; exact e3239
                have fr3282 : fs g [] I I3280 := by rw [eI3280]; exact fs_ppn hy fqI3236 (by decide) (by decide)
                have fr3283 : fz 49 g [38] I I3280 := by rw [eI3280]; exact fzm_pp hy fiI3236 (by decide) (by decide)
                clear eI3280
                refine WP_iinc (ls' := [(0, _), (1, _), (2, _)]) dX11_take_47 rfl (by decide) rfl ?_
                have hv3284 : (i3235 + Int32.ofInt (1)).toInt = i3235.toInt + (1) := ia_n rfl (by omega) (by omega)
                generalize i3235 + Int32.ofInt (1) = v3284 at hv3284 ⊢
                refine WP_goto 24 dX11_take_50 rfl ?_
                exact WP_sub (fc rfl (fc rfl (fc rfl fn))) (ihlp24_3237 v3284 I3280 J3237 hI3280 fr3283 fjJ3237 fr3282 (by omega) (by omega) (by omega))
              · refine WP_aload_n dX11_take_30 rfl ?_
                refine WP_getr dX11_take_31 fX11_283 rfl (ly_is hy 0 11 rfl) (rf hr 0 59 38 (by decide)) ?_
                refine WP_iload_n dX11_take_34 rfl ?_
                refine WP_aload_n dX11_take_35 rfl ?_
                refine WP_getr dX11_take_36 fX11_295 rfl (ly_is hy 0 11 rfl) (rf hr 0 65 42 (by decide)) ?_
                refine WQ_bipush (35) (35) dX11_take_39 rfl rfl (fun v3285 hv3285 => ?_)
                refine WP_iload_n dX11_take_41 rfl ?_
                refine WQ_imulK (35) dX11_take_42 hv3285 (by omega) (by omega) (fun v3286 hv3286 => ?_)
                refine WP_iload_n dX11_take_43 rfl ?_
                refine WQ_iadd dX11_take_44 (by omega) (by omega) (fun v3287 hv3287 => ?_)
                refine WQ_ialdr dX11_take_45 (ly_is hy 42 13 rfl) (ly_n hy 42 105 rfl) (by omega) (by omega) (a := 103) (b := 104) (by omega) (by omega) (fun q hq1 hq2 => BT_get hI3236.1.1 42 103 104 (0) (1) (0) (by decide) q hq1 hq2) (fun v3288 av3288 bv3288 => ?_)
                refine WQ_iast dX11_take_46 (ly_is hy 38 13 rfl) (ly_n hy 38 35 rfl) (by omega) (by omega) (fun I3289 eI3289 => ?_)
                have hI3289 : MP g n L I3289 := by rw [eI3289]; exact (mp_w hy hI3236 (c := 38) (mi_rr hy hI3236.1 (c := 38) (33) (33) (0) (1) (0) (by decide) (Or.inl (by decide)) (by rw [cl (n := i3235.toInt.toNat) (by omega)]; omega) (by decide) (fun _ => ⟨by omega, by omega⟩)) (by decide) (by decide) (Or.inl (by decide)))
                have e3290 : I3289 (ad g 0) 1 = L := by rw [eI3289, pp_ne _ _ (Or.inl (ly_ne hy (by decide) (by decide) (by decide)))]; exact e3239
                have fr3291 : fs g [] I I3289 := by rw [eI3289]; exact fs_ppn hy fqI3236 (by decide) (by decide)
                have fr3292 : fz 49 g [38] I I3289 := by rw [eI3289]; exact fzm_pp hy fiI3236 (by decide) (by decide)
                clear eI3289
                refine WP_iinc (ls' := [(0, _), (1, _), (2, _)]) dX11_take_47 rfl (by decide) rfl ?_
                have hv3293 : (i3235 + Int32.ofInt (1)).toInt = i3235.toInt + (1) := ia_n rfl (by omega) (by omega)
                generalize i3235 + Int32.ofInt (1) = v3293 at hv3293 ⊢
                refine WP_goto 24 dX11_take_50 rfl ?_
                exact WP_sub (fc rfl (fc rfl (fc rfl fn))) (ihlp24_3237 v3293 I3289 J3237 hI3289 fr3292 fjJ3237 fr3291 (by omega) (by omega) (by omega))
              · refine WP_aload_n dX11_take_30 rfl ?_
                refine WP_getr dX11_take_31 fX11_283 rfl (ly_is hy 0 11 rfl) (rf hr 0 59 38 (by decide)) ?_
                refine WP_iload_n dX11_take_34 rfl ?_
                refine WP_aload_n dX11_take_35 rfl ?_
                refine WP_getr dX11_take_36 fX11_295 rfl (ly_is hy 0 11 rfl) (rf hr 0 65 42 (by decide)) ?_
                refine WQ_bipush (35) (35) dX11_take_39 rfl rfl (fun v3294 hv3294 => ?_)
                refine WP_iload_n dX11_take_41 rfl ?_
                refine WQ_imulK (35) dX11_take_42 hv3294 (by omega) (by omega) (fun v3295 hv3295 => ?_)
                refine WP_iload_n dX11_take_43 rfl ?_
                refine WQ_iadd dX11_take_44 (by omega) (by omega) (fun v3296 hv3296 => ?_)
                refine WQ_ialdu dX11_take_45 (ly_is hy 42 13 rfl) (ly_n hy 42 105 rfl) (by omega) (by omega) (fun v3297 => ?_)
                refine WQ_iast dX11_take_46 (ly_is hy 38 13 rfl) (ly_n hy 38 35 rfl) (by omega) (by omega) (fun I3298 eI3298 => ?_)
                have hI3298 : MP g n L I3298 := by rw [eI3298]; exact (mp_w hy hI3236 (c := 38) (mi_rr hy hI3236.1 (c := 38) (34) (34) (0) (0) (0) (by decide) (Or.inl (by decide)) (by rw [cl (n := i3235.toInt.toNat) (by omega)]; omega) (by decide) (fun h => absurd h (by decide))) (by decide) (by decide) (Or.inl (by decide)))
                have e3299 : I3298 (ad g 0) 1 = L := by rw [eI3298, pp_ne _ _ (Or.inl (ly_ne hy (by decide) (by decide) (by decide)))]; exact e3239
                have fr3300 : fs g [] I I3298 := by rw [eI3298]; exact fs_ppn hy fqI3236 (by decide) (by decide)
                have fr3301 : fz 49 g [38] I I3298 := by rw [eI3298]; exact fzm_pp hy fiI3236 (by decide) (by decide)
                clear eI3298
                refine WP_iinc (ls' := [(0, _), (1, _), (2, _)]) dX11_take_47 rfl (by decide) rfl ?_
                have hv3302 : (i3235 + Int32.ofInt (1)).toInt = i3235.toInt + (1) := ia_n rfl (by omega) (by omega)
                generalize i3235 + Int32.ofInt (1) = v3302 at hv3302 ⊢
                refine WP_goto 24 dX11_take_50 rfl ?_
                exact WP_sub (fc rfl (fc rfl (fc rfl fn))) (ihlp24_3237 v3302 I3298 J3237 hI3298 fr3301 fjJ3237 fr3300 (by omega) (by omega) (by omega))
        exact WP_sub (fc rfl (fc rfl (fc rfl fn))) (lp24_3237 _ v3234 I J hI fr0 frj0 frq0 (by omega) (by omega) (Nat.lt_succ_self _))
    · refine WQ_bipush (-4) (-4) dX11_take_19 rfl rfl (fun v3303 hv3303 => ?_)
      exact WP_iret dX11_take_21 rfl ⟨⟨hI, rfl, fr0, frj0, frq0⟩, _, rfl⟩
  · refine WQ_bipush (-2) (-2) dX11_take_7 rfl rfl (fun v3304 hv3304 => ?_)
    exact WP_iret dX11_take_9 rfl ⟨⟨hI, rfl, fr0, frj0, frq0⟩, _, rfl⟩
set_option maxHeartbeats 4000000 in
set_option maxRecDepth 100000 in
theorem sm_told {g : GG} {n : Int} {L : Int32} (hy : Ly g)  {I : pI} {J : pJ} {R : pR} (hr : Rf g R) (hI : MP g n L I) (a : Int32)  : SP g mX11_told [.ref (ad g 0), .int a] I J R (fun r I' J' R' => (I' = I ∧ J' = J ∧ R' = R) ∧ ∃ v : Int32, r = some (.int v)) := by
  refine SP_of ⟨by decide, rfl⟩ (Nat.le_of_ble_eq_true rfl) ?_
  have e3305 : I (ad g 0) 1 = L := hI.1.2
  have b3306 := BT_get hI.1.1 0 1 2 (0) (0) (900) (by decide) 1 (by decide) (by decide)
  rw [e3305] at b3306
  refine WP_iload_n dX11_told_0 rfl ?_
  refine WQ_bipush (10) (10) dX11_told_1 rfl rfl (fun v3307 hv3307 => ?_)
  refine WQ_iremi (10) dX11_told_3 hv3307 (by decide) (fun v3308 hv3308 => ?_)
  refine WP_istore_n (ls' := [(0, _), (1, _), (2, _)]) dX11_told_4 (by decide) rfl ?_
  refine WP_iload_n dX11_told_5 rfl ?_
  refine WQ_i2l dX11_told_6 (fun l3309 hl3309 => ?_)
  refine WP_ldc2 (10) dX11_told_7 klX11_353 ?_
  obtain ⟨l3310, hl3310, el3310⟩ : ∃ v : Int64, v.toInt = (10) ∧ ((10) : Int64) = v := ⟨_, rfl, rfl⟩
  rw [el3310]; clear el3310
  refine WP_ldc2 (16) dX11_told_10 klX11_355 ?_
  obtain ⟨l3311, hl3311, el3311⟩ : ∃ v : Int64, v.toInt = (16) ∧ ((16) : Int64) = v := ⟨_, rfl, rfl⟩
  rw [el3311]; clear el3311
  refine WP_callS3 dX11_told_13 ⟨⟨⟨by decide, by decide⟩, zX11_in⟩, lX11_52, tX11_in⟩ (sm_in hy hr hI l3309 l3310 l3311 ) (Nat.le_of_ble_eq_true rfl) ?_
  intro r Ia Ja Ra hq
  obtain ⟨⟨ea, eb, ec⟩, v3312, rfl, av3312, bv3312, cv3312⟩ := hq
  show WP _ _ _ _ (.int _ :: _) _ _ _ _
  rw [ea, eb, ec]
  clear ea eb ec Ia Ja Ra
  refine WQ_if_eq 29 dX11_told_16 rfl (fun c3312 => ?_) (fun c3312 => ?_)
  · refine WP_iload_n dX11_told_29 rfl ?_
    refine WQ_i2l dX11_told_30 (fun l3314 hl3314 => ?_)
    refine WP_ldc2 (20) dX11_told_31 klX11_357 ?_
    obtain ⟨l3315, hl3315, el3315⟩ : ∃ v : Int64, v.toInt = (20) ∧ ((20) : Int64) = v := ⟨_, rfl, rfl⟩
    rw [el3315]; clear el3315
    refine WP_ldc2 (59) dX11_told_34 klX11_359 ?_
    obtain ⟨l3316, hl3316, el3316⟩ : ∃ v : Int64, v.toInt = (59) ∧ ((59) : Int64) = v := ⟨_, rfl, rfl⟩
    rw [el3316]; clear el3316
    refine WP_callS3 dX11_told_37 ⟨⟨⟨by decide, by decide⟩, zX11_in⟩, lX11_52, tX11_in⟩ (sm_in hy hr hI l3314 l3315 l3316 ) (Nat.le_of_ble_eq_true rfl) ?_
    intro r Ia Ja Ra hq
    obtain ⟨⟨ea, eb, ec⟩, v3317, rfl, av3317, bv3317, cv3317⟩ := hq
    show WP _ _ _ _ (.int _ :: _) _ _ _ _
    rw [ea, eb, ec]
    clear ea eb ec Ia Ja Ra
    refine WQ_if_eq 107 dX11_told_40 rfl (fun c3317 => ?_) (fun c3317 => ?_)
    · refine WP_iload_n dX11_told_107 rfl ?_
      refine WQ_i2l dX11_told_108 (fun l3319 hl3319 => ?_)
      refine WP_ldc2 (60) dX11_told_109 klX11_361 ?_
      obtain ⟨l3320, hl3320, el3320⟩ : ∃ v : Int64, v.toInt = (60) ∧ ((60) : Int64) = v := ⟨_, rfl, rfl⟩
      rw [el3320]; clear el3320
      refine WP_ldc2 (79) dX11_told_112 klX11_363 ?_
      obtain ⟨l3321, hl3321, el3321⟩ : ∃ v : Int64, v.toInt = (79) ∧ ((79) : Int64) = v := ⟨_, rfl, rfl⟩
      rw [el3321]; clear el3321
      refine WP_callS3 dX11_told_115 ⟨⟨⟨by decide, by decide⟩, zX11_in⟩, lX11_52, tX11_in⟩ (sm_in hy hr hI l3319 l3320 l3321 ) (Nat.le_of_ble_eq_true rfl) ?_
      intro r Ia Ja Ra hq
      obtain ⟨⟨ea, eb, ec⟩, v3322, rfl, av3322, bv3322, cv3322⟩ := hq
      show WP _ _ _ _ (.int _ :: _) _ _ _ _
      rw [ea, eb, ec]
      clear ea eb ec Ia Ja Ra
      refine WQ_if_eq 155 dX11_told_118 rfl (fun c3322 => ?_) (fun c3322 => ?_)
      · refine WP_iload_n dX11_told_155 rfl ?_
        refine WP_tab 208 dX11_told_156 rfl rfl (fun c3323 => ?_) (fun j off c3323 hj => ?_) (by decide)
        · refine WQ_iconst (-1) (-1) dX11_told_208 rfl rfl (fun v3325 hv3325 => ?_)
          exact WP_iret dX11_told_209 rfl ⟨⟨rfl, rfl, rfl⟩, _, rfl⟩
        · have hlt : j < 4 := by have := (Array.getElem?_eq_some_iff.mp hj).1; simpa using this
          have hcs : (j = 0 ∧ off = 32) ∨ (j = 1 ∧ off = 37) ∨ (j = 2 ∧ off = 42) ∨ (j = 3 ∧ off = 47) := by
            match j, hlt, hj with
            | 0, _, hj => exact Or.inl ⟨rfl, (Option.some.inj hj).symm⟩
            | 1, _, hj => exact Or.inr (Or.inl ⟨rfl, (Option.some.inj hj).symm⟩)
            | 2, _, hj => exact Or.inr (Or.inr (Or.inl ⟨rfl, (Option.some.inj hj).symm⟩))
            | 3, _, hj => exact Or.inr (Or.inr (Or.inr (⟨rfl, (Option.some.inj hj).symm⟩)))
          clear hj hlt
          rcases hcs with ⟨rfl, rfl⟩ | ⟨rfl, rfl⟩ | ⟨rfl, rfl⟩ | ⟨rfl, rfl⟩
          · show WP _ _ 188 _ _ _ _ _ _
            refine WP_aload_n dX11_told_188 rfl ?_
            refine WQ_geti dX11_told_189 fX11_329 rfl (ly_is hy 0 11 rfl) (BT_get hI.1.1 0 10 11 (0) (0) (4) (by decide) 10 (by decide) (by decide)) (fun v3326 ev3326 av3326 bv3326 => ?_)
            exact WP_iret dX11_told_192 rfl ⟨⟨rfl, rfl, rfl⟩, _, rfl⟩
          · show WP _ _ 193 _ _ _ _ _ _
            refine WP_aload_n dX11_told_193 rfl ?_
            refine WQ_geti dX11_told_194 fX11_332 rfl (ly_is hy 0 11 rfl) (BT_get hI.1.1 0 11 12 (0) (0) (3) (by decide) 11 (by decide) (by decide)) (fun v3327 ev3327 av3327 bv3327 => ?_)
            exact WP_iret dX11_told_197 rfl ⟨⟨rfl, rfl, rfl⟩, _, rfl⟩
          · show WP _ _ 198 _ _ _ _ _ _
            refine WP_aload_n dX11_told_198 rfl ?_
            refine WQ_geti dX11_told_199 fX11_221 rfl (ly_is hy 0 11 rfl) (BT_get hI.1.1 0 13 14 (-1) (0) (3) (by decide) 13 (by decide) (by decide)) (fun v3328 ev3328 av3328 bv3328 => ?_)
            exact WP_iret dX11_told_202 rfl ⟨⟨rfl, rfl, rfl⟩, _, rfl⟩
          · show WP _ _ 203 _ _ _ _ _ _
            refine WP_aload_n dX11_told_203 rfl ?_
            refine WQ_geti dX11_told_204 fX11_224 rfl (ly_is hy 0 11 rfl) (BT_get hI.1.1 0 14 15 (-1) (0) (2) (by decide) 14 (by decide) (by decide)) (fun v3329 ev3329 av3329 bv3329 => ?_)
            exact WP_iret dX11_told_207 rfl ⟨⟨rfl, rfl, rfl⟩, _, rfl⟩
      · refine WP_iload_n dX11_told_121 rfl ?_
        refine WP_aload_n dX11_told_122 rfl ?_
        refine WQ_geti dX11_told_123 fX11_332 rfl (ly_is hy 0 11 rfl) (BT_get hI.1.1 0 11 12 (0) (0) (3) (by decide) 11 (by decide) (by decide)) (fun v3330 ev3330 av3330 bv3330 => ?_)
        refine WQ_icmp_lt 133 dX11_told_126 rfl (fun c3330 => ?_) (fun c3330 => ?_)
        · refine WP_iload_n dX11_told_133 rfl ?_
          refine WQ_bipush (70) (70) dX11_told_134 rfl rfl (fun v3332 hv3332 => ?_)
          refine WQ_icmp_ge 148 dX11_told_136 rfl (fun c3332 => ?_) (fun c3332 => ?_)
          · refine WP_aload_n dX11_told_148 rfl ?_
            refine WP_getr dX11_told_149 fX11_249 rfl (ly_is hy 0 11 rfl) (rf hr 0 31 13 (by decide)) ?_
            refine WP_iload_n dX11_told_152 rfl ?_
            refine WQ_iald dX11_told_153 (ly_is hy 13 13 rfl) (ly_n hy 13 3 rfl) (by omega) (by omega) (fun q hq => BT_get hI.1.1 13 0 3 (0) (0) (9) (by decide) q (Nat.zero_le _) hq) (fun v3334 av3334 bv3334 ev3334 => ?_)
            clear ev3334
            exact WP_iret dX11_told_154 rfl ⟨⟨rfl, rfl, rfl⟩, _, rfl⟩
          · refine WP_aload_n dX11_told_139 rfl ?_
            refine WP_getr dX11_told_140 fX11_246 rfl (ly_is hy 0 11 rfl) (rf hr 0 30 12 (by decide)) ?_
            refine WP_iload_n dX11_told_143 rfl ?_
            refine WQ_iald dX11_told_144 (ly_is hy 12 13 rfl) (ly_n hy 12 3 rfl) (by omega) (by omega) (fun q hq => BT_get hI.1.1 12 0 3 (0) (0) (1000) (by decide) q (Nat.zero_le _) hq) (fun v3335 av3335 bv3335 ev3335 => ?_)
            clear ev3335
            refine WP_goto 154 dX11_told_145 rfl ?_
            exact WP_iret dX11_told_154 rfl ⟨⟨rfl, rfl, rfl⟩, _, rfl⟩
        · refine WQ_iconst (-1) (-1) dX11_told_129 rfl rfl (fun v3336 hv3336 => ?_)
          refine WP_goto 154 dX11_told_130 rfl ?_
          exact WP_iret dX11_told_154 rfl ⟨⟨rfl, rfl, rfl⟩, _, rfl⟩
    · refine WP_iload_n dX11_told_43 rfl ?_
      refine WP_aload_n dX11_told_44 rfl ?_
      refine WQ_geti dX11_told_45 fX11_329 rfl (ly_is hy 0 11 rfl) (BT_get hI.1.1 0 10 11 (0) (0) (4) (by decide) 10 (by decide) (by decide)) (fun v3337 ev3337 av3337 bv3337 => ?_)
      refine WQ_icmp_lt 55 dX11_told_48 rfl (fun c3337 => ?_) (fun c3337 => ?_)
      · refine WP_iload_n dX11_told_55 rfl ?_
        refine WQ_bipush (30) (30) dX11_told_56 rfl rfl (fun v3339 hv3339 => ?_)
        refine WQ_icmp_ge 70 dX11_told_58 rfl (fun c3339 => ?_) (fun c3339 => ?_)
        · refine WP_iload_n dX11_told_70 rfl ?_
          refine WQ_bipush (40) (40) dX11_told_71 rfl rfl (fun v3341 hv3341 => ?_)
          refine WQ_icmp_ge 85 dX11_told_73 rfl (fun c3341 => ?_) (fun c3341 => ?_)
          · refine WP_iload_n dX11_told_85 rfl ?_
            refine WQ_bipush (50) (50) dX11_told_86 rfl rfl (fun v3343 hv3343 => ?_)
            refine WQ_icmp_ge 100 dX11_told_88 rfl (fun c3343 => ?_) (fun c3343 => ?_)
            · refine WP_aload_n dX11_told_100 rfl ?_
              refine WP_getr dX11_told_101 fX11_244 rfl (ly_is hy 0 11 rfl) (rf hr 0 29 11 (by decide)) ?_
              refine WP_iload_n dX11_told_104 rfl ?_
              refine WQ_iald dX11_told_105 (ly_is hy 11 13 rfl) (ly_n hy 11 4 rfl) (by omega) (by omega) (fun q hq => BT_get hI.1.1 11 0 4 (0) (0) (127) (by decide) q (Nat.zero_le _) hq) (fun v3345 av3345 bv3345 ev3345 => ?_)
              clear ev3345
              exact WP_iret dX11_told_106 rfl ⟨⟨rfl, rfl, rfl⟩, _, rfl⟩
            · refine WP_aload_n dX11_told_91 rfl ?_
              refine WP_getr dX11_told_92 fX11_241 rfl (ly_is hy 0 11 rfl) (rf hr 0 28 10 (by decide)) ?_
              refine WP_iload_n dX11_told_95 rfl ?_
              refine WQ_iald dX11_told_96 (ly_is hy 10 13 rfl) (ly_n hy 10 4 rfl) (by omega) (by omega) (fun q hq => BT_get hI.1.1 10 0 4 (0) (0) (60) (by decide) q (Nat.zero_le _) hq) (fun v3346 av3346 bv3346 ev3346 => ?_)
              clear ev3346
              refine WP_goto 106 dX11_told_97 rfl ?_
              exact WP_iret dX11_told_106 rfl ⟨⟨rfl, rfl, rfl⟩, _, rfl⟩
          · refine WP_aload_n dX11_told_76 rfl ?_
            refine WP_getr dX11_told_77 fX11_238 rfl (ly_is hy 0 11 rfl) (rf hr 0 27 9 (by decide)) ?_
            refine WP_iload_n dX11_told_80 rfl ?_
            refine WQ_iald dX11_told_81 (ly_is hy 9 13 rfl) (ly_n hy 9 4 rfl) (by omega) (by omega) (fun q hq => BT_get hI.1.1 9 0 4 (0) (0) (1000) (by decide) q (Nat.zero_le _) hq) (fun v3347 av3347 bv3347 ev3347 => ?_)
            clear ev3347
            refine WP_goto 106 dX11_told_82 rfl ?_
            exact WP_iret dX11_told_106 rfl ⟨⟨rfl, rfl, rfl⟩, _, rfl⟩
        · refine WP_aload_n dX11_told_61 rfl ?_
          refine WP_getr dX11_told_62 fX11_235 rfl (ly_is hy 0 11 rfl) (rf hr 0 26 8 (by decide)) ?_
          refine WP_iload_n dX11_told_65 rfl ?_
          refine WQ_iald dX11_told_66 (ly_is hy 8 13 rfl) (ly_n hy 8 4 rfl) (by omega) (by omega) (fun q hq => BT_get hI.1.1 8 0 4 (0) (0) (99) (by decide) q (Nat.zero_le _) hq) (fun v3348 av3348 bv3348 ev3348 => ?_)
          clear ev3348
          refine WP_goto 106 dX11_told_67 rfl ?_
          exact WP_iret dX11_told_106 rfl ⟨⟨rfl, rfl, rfl⟩, _, rfl⟩
      · refine WQ_iconst (-1) (-1) dX11_told_51 rfl rfl (fun v3349 hv3349 => ?_)
        refine WP_goto 106 dX11_told_52 rfl ?_
        exact WP_iret dX11_told_106 rfl ⟨⟨rfl, rfl, rfl⟩, _, rfl⟩
  · refine WP_aload_n dX11_told_19 rfl ?_
    refine WP_getr dX11_told_20 fX11_233 rfl (ly_is hy 0 11 rfl) (rf hr 0 24 6 (by decide)) ?_
    refine WP_iload_n dX11_told_23 rfl ?_
    refine WQ_bipush (10) (10) dX11_told_24 rfl rfl (fun v3350 hv3350 => ?_)
    refine WQ_isub dX11_told_26 (by omega) (by omega) (fun v3351 hv3351 => ?_)
    refine WQ_iald dX11_told_27 (ly_is hy 6 13 rfl) (ly_n hy 6 7 rfl) (by omega) (by omega) (fun q hq => BT_get hI.1.1 6 0 7 (0) (0) (900) (by decide) q (Nat.zero_le _) hq) (fun v3352 av3352 bv3352 ev3352 => ?_)
    clear ev3352
    exact WP_iret dX11_told_28 rfl ⟨⟨rfl, rfl, rfl⟩, _, rfl⟩
set_option maxHeartbeats 4000000 in
set_option maxRecDepth 100000 in
theorem sm_run {g : GG} {n : Int} {L : Int32} (hy : Ly g)  {I : pI} {J : pJ} {R : pR} (hr : Rf g R) (hI : MP g n L I) (a : Int32) (b : Int32)  : SP g mX11_run [.ref (ad g 0), .int a, .int b] I J R (fun r I' J' R' => (I' = I ∧ J' = J ∧ R' = R) ∧ ∃ v : Int32, r = some (.int v)) := by
  refine SP_of ⟨by decide, rfl⟩ (Nat.le_of_ble_eq_true rfl) ?_
  have e3353 : I (ad g 0) 1 = L := hI.1.2
  have b3354 := BT_get hI.1.1 0 1 2 (0) (0) (900) (by decide) 1 (by decide) (by decide)
  rw [e3353] at b3354
  refine WP_aload_n dX11_run_0 rfl ?_
  refine WP_iload_n dX11_run_1 rfl ?_
  refine WP_callV1 (k := 11) dX11_run_2 ⟨⟨⟨by decide, by decide⟩, zX11_isSort⟩, lX11_367, by decide, rfl, vX11_isSort.1, vX11_isSort.2⟩ (ly_is hy 0 11 rfl) (sm_isSort hy hr hI a ) (Nat.le_of_ble_eq_true rfl) ?_
  intro r Ia Ja Ra hq
  obtain ⟨⟨ea, eb, ec⟩, v3355, rfl, av3355, bv3355, cv3355⟩ := hq
  show WP _ _ _ _ (.int _ :: _) _ _ _ _
  rw [ea, eb, ec]
  clear ea eb ec Ia Ja Ra
  obtain ⟨w3356, ew3356⟩ : ∃ w : Int32, I (ad g 0) 10 = w := ⟨_, rfl⟩
  have bw3356 := BT_get hI.1.1 0 10 11 (0) (0) (4) (by decide) 10 (by decide) (by decide)
  rw [ew3356] at bw3356
  rw [ew3356] at cv3355
  refine WQ_if_eq 20 dX11_run_5 rfl (fun c3356 => ?_) (fun c3356 => ?_)
  · refine WQ_bipush (-2) (-2) dX11_run_20 rfl rfl (fun v3358 hv3358 => ?_)
    exact WP_iret dX11_run_22 rfl ⟨⟨rfl, rfl, rfl⟩, _, rfl⟩
  · refine WP_iload_n dX11_run_8 rfl ?_
    refine WQ_i2l dX11_run_9 (fun l3359 hl3359 => ?_)
    refine WP_lconst (0) dX11_run_10 rfl ?_
    obtain ⟨l3360, hl3360, el3360⟩ : ∃ v : Int64, v.toInt = 0 ∧ (0 : Int64) = v := ⟨_, rfl, rfl⟩
    rw [el3360]; clear el3360
    refine WP_ldc2 (6) dX11_run_11 klX11_365 ?_
    obtain ⟨l3361, hl3361, el3361⟩ : ∃ v : Int64, v.toInt = (6) ∧ ((6) : Int64) = v := ⟨_, rfl, rfl⟩
    rw [el3361]; clear el3361
    refine WP_callS3 dX11_run_14 ⟨⟨⟨by decide, by decide⟩, zX11_in⟩, lX11_52, tX11_in⟩ (sm_in hy hr hI l3359 l3360 l3361 ) (Nat.le_of_ble_eq_true rfl) ?_
    intro r Ia Ja Ra hq
    obtain ⟨⟨ea, eb, ec⟩, v3362, rfl, av3362, bv3362, cv3362⟩ := hq
    show WP _ _ _ _ (.int _ :: _) _ _ _ _
    rw [ea, eb, ec]
    clear ea eb ec Ia Ja Ra
    refine WQ_if_ne 23 dX11_run_17 rfl (fun c3362 => ?_) (fun c3362 => ?_)
    · refine WP_aload_n dX11_run_23 rfl ?_
      refine WP_getr dX11_run_24 fX11_283 rfl (ly_is hy 0 11 rfl) (rf hr 0 59 38 (by decide)) ?_
      refine WQ_iconst (4) (4) dX11_run_27 rfl rfl (fun v3364 hv3364 => ?_)
      refine WP_iload_n dX11_run_28 rfl ?_
      refine WQ_imulK (4) dX11_run_29 hv3364 (by omega) (by omega) (fun v3365 hv3365 => ?_)
      refine WP_iload_n dX11_run_30 rfl ?_
      refine WQ_iadd dX11_run_31 (by omega) (by omega) (fun v3366 hv3366 => ?_)
      refine WQ_ialdu dX11_run_32 (ly_is hy 38 13 rfl) (ly_n hy 38 35 rfl) (by omega) (by omega) (fun v3367 => ?_)
      exact WP_iret dX11_run_33 rfl ⟨⟨rfl, rfl, rfl⟩, _, rfl⟩
    · refine WQ_bipush (-2) (-2) dX11_run_20 rfl rfl (fun v3368 hv3368 => ?_)
      exact WP_iret dX11_run_22 rfl ⟨⟨rfl, rfl, rfl⟩, _, rfl⟩
