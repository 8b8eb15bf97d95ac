/-- a town of which nothing is told -/
def Tf (g : GG) (t : Nat) (I : pI) : Prop := I (ad g t) 0 = 0 ∧ I (ad g t) 1 = 0 ∧ I (ad g t) 2 = 0 ∧ I (ad g t) 3 = (-1) ∧ I (ad g t) 4 = (-1)
set_option maxHeartbeats 4000000 in
set_option maxRecDepth 100000 in
theorem x_forget_ta {g : GG} {I : pI} {J : pJ} {R : pR} (hy : LyX g) (hr : RfX g R)  : SP g mX7_forget [.ref (ad g P_ta)] I J R (fun r I' J' R' => r = none ∧ fxX g [P_ta, P_ta_losses, P_ta_illDays, P_ta_earnings, P_ta_wantThings, P_ta_wantUnits, P_ta_wantWorths, P_ta_prices, P_ta_makes, P_ta_toldDays] I I' ∧ Tf g P_ta I' ∧ ((∀ q, I (ad g P_ta_losses) q = 0) → ∀ q, I' (ad g P_ta_losses) q = 0) ∧ J' = J ∧ R' = R) := by
  refine SP_of ⟨by decide, rfl⟩ (Nat.le_of_ble_eq_true rfl) ?_
  have c0 : True := trivial
  refine WP_aload_n dX7_forget_0 rfl ?_
  refine WP_iconst (0) dX7_forget_1 rfl ?_
  refine WP_puti dX7_forget_2 fX7_61 rfl rfl (lyx_is hy _ _ rfl) ?_
  refine WP_aload_n dX7_forget_5 rfl ?_
  refine WP_iconst (0) dX7_forget_6 rfl ?_
  refine WP_puti dX7_forget_7 fX7_65 rfl rfl (lyx_is hy _ _ rfl) ?_
  refine WP_aload_n dX7_forget_10 rfl ?_
  refine WP_iconst (0) dX7_forget_11 rfl ?_
  refine WP_puti dX7_forget_12 fX7_68 rfl rfl (lyx_is hy _ _ rfl) ?_
  refine WP_aload_n dX7_forget_15 rfl ?_
  refine WP_iconst (-1) dX7_forget_16 rfl ?_
  refine WP_puti dX7_forget_17 fX7_71 rfl rfl (lyx_is hy _ _ rfl) ?_
  refine WP_aload_n dX7_forget_20 rfl ?_
  refine WP_iconst (-1) dX7_forget_21 rfl ?_
  refine WP_puti dX7_forget_22 fX7_74 rfl rfl (lyx_is hy _ _ rfl) ?_
  refine WP_aload_n dX7_forget_25 rfl ?_
  refine WP_getr dX7_forget_26 fX7_9 rfl (lyx_is hy _ _ rfl) (rfx hr 6 5 7 (by decide)) ?_
  refine WP_iconst (0) dX7_forget_29 rfl ?_
  refine WP_callS2u dX7_forget_30 ⟨⟨⟨by decide, by decide⟩, zJ7_fill_53178⟩, lX7_77, tJ7_fill_53178⟩ (s_fill hy hr P_ta_losses 7 rfl rfl (by decide) (0)) (Nat.le_of_ble_eq_true rfl) ?_
  refine WP_aload_n dX7_forget_33 rfl ?_
  refine WP_getr dX7_forget_34 fX7_24 rfl (lyx_is hy _ _ rfl) (rfx hr 6 9 11 (by decide)) ?_
  refine WP_iconst (0) dX7_forget_37 rfl ?_
  refine WP_callS2u dX7_forget_38 ⟨⟨⟨by decide, by decide⟩, zJ7_fill_53178⟩, lX7_77, tJ7_fill_53178⟩ (s_fill hy hr P_ta_illDays 4 rfl rfl (by decide) (0)) (Nat.le_of_ble_eq_true rfl) ?_
  refine WP_aload_n dX7_forget_41 rfl ?_
  refine WP_getr dX7_forget_42 fX7_27 rfl (lyx_is hy _ _ rfl) (rfx hr 6 10 12 (by decide)) ?_
  refine WP_iconst (0) dX7_forget_45 rfl ?_
  refine WP_callS2u dX7_forget_46 ⟨⟨⟨by decide, by decide⟩, zJ7_fill_53178⟩, lX7_77, tJ7_fill_53178⟩ (s_fill hy hr P_ta_earnings 28 rfl rfl (by decide) (0)) (Nat.le_of_ble_eq_true rfl) ?_
  refine WP_aload_n dX7_forget_49 rfl ?_
  refine WP_getr dX7_forget_50 fX7_30 rfl (lyx_is hy _ _ rfl) (rfx hr 6 11 13 (by decide)) ?_
  refine WP_iconst (-1) dX7_forget_53 rfl ?_
  refine WP_callS2u dX7_forget_54 ⟨⟨⟨by decide, by decide⟩, zJ7_fill_53178⟩, lX7_77, tJ7_fill_53178⟩ (s_fill hy hr P_ta_wantThings 28 rfl rfl (by decide) (-1)) (Nat.le_of_ble_eq_true rfl) ?_
  refine WP_aload_n dX7_forget_57 rfl ?_
  refine WP_getr dX7_forget_58 fX7_33 rfl (lyx_is hy _ _ rfl) (rfx hr 6 12 14 (by decide)) ?_
  refine WP_iconst (0) dX7_forget_61 rfl ?_
  refine WP_callS2u dX7_forget_62 ⟨⟨⟨by decide, by decide⟩, zJ7_fill_53178⟩, lX7_77, tJ7_fill_53178⟩ (s_fill hy hr P_ta_wantUnits 28 rfl rfl (by decide) (0)) (Nat.le_of_ble_eq_true rfl) ?_
  refine WP_aload_n dX7_forget_65 rfl ?_
  refine WP_getr dX7_forget_66 fX7_36 rfl (lyx_is hy _ _ rfl) (rfx hr 6 13 15 (by decide)) ?_
  refine WP_iconst (0) dX7_forget_69 rfl ?_
  refine WP_callS2u dX7_forget_70 ⟨⟨⟨by decide, by decide⟩, zJ7_fill_53178⟩, lX7_77, tJ7_fill_53178⟩ (s_fill hy hr P_ta_wantWorths 28 rfl rfl (by decide) (0)) (Nat.le_of_ble_eq_true rfl) ?_
  refine WP_aload_n dX7_forget_73 rfl ?_
  refine WP_getr dX7_forget_74 fX7_45 rfl (lyx_is hy _ _ rfl) (rfx hr 6 16 18 (by decide)) ?_
  refine WP_iconst (5) dX7_forget_77 rfl ?_
  refine WP_callS2u dX7_forget_78 ⟨⟨⟨by decide, by decide⟩, zJ7_fill_53178⟩, lX7_77, tJ7_fill_53178⟩ (s_fill hy hr P_ta_prices 21 rfl rfl (by decide) (5)) (Nat.le_of_ble_eq_true rfl) ?_
  refine WP_aload_n dX7_forget_81 rfl ?_
  refine WP_getr dX7_forget_82 fX7_48 rfl (lyx_is hy _ _ rfl) (rfx hr 6 17 19 (by decide)) ?_
  refine WP_iconst (-1) dX7_forget_85 rfl ?_
  refine WP_callS2u dX7_forget_86 ⟨⟨⟨by decide, by decide⟩, zJ7_fill_53178⟩, lX7_77, tJ7_fill_53178⟩ (s_fill hy hr P_ta_makes 21 rfl rfl (by decide) (-1)) (Nat.le_of_ble_eq_true rfl) ?_
  refine WP_aload_n dX7_forget_89 rfl ?_
  refine WP_getr dX7_forget_90 fX7_55 rfl (lyx_is hy _ _ rfl) (rfx hr 6 19 21 (by decide)) ?_
  refine WP_iconst (0) dX7_forget_93 rfl ?_
  refine WP_callS2u dX7_forget_94 ⟨⟨⟨by decide, by decide⟩, zJ7_fill_53178⟩, lX7_77, tJ7_fill_53178⟩ (s_fill hy hr P_ta_toldDays 48 rfl rfl (by decide) (0)) (Nat.le_of_ble_eq_true rfl) ?_
  exact WP_vret dX7_forget_97 rfl ⟨rfl, (fi_fx hy (fi_fx hy (fi_fx hy (fi_fx hy (fi_fx hy (fi_fx hy (fi_fx hy (fi_fx hy (fi_fx hy (fxX_pp hy (fxX_pp hy (fxX_pp hy (fxX_pp hy (fxX_pp hy fxX_rf (by decide) (by decide)) (by decide) (by decide)) (by decide) (by decide)) (by decide) (by decide)) (by decide) (by decide)) (by decide) (by decide)) (by decide) (by decide)) (by decide) (by decide)) (by decide) (by decide)) (by decide) (by decide)) (by decide) (by decide)) (by decide) (by decide)) (by decide) (by decide)) (by decide) (by decide)), ⟨(by rw [fi_off (lyx_ne hy (show P_ta ≠ P_ta_toldDays by decide) (by decide) (by decide)), fi_off (lyx_ne hy (show P_ta ≠ P_ta_makes by decide) (by decide) (by decide)), fi_off (lyx_ne hy (show P_ta ≠ P_ta_prices by decide) (by decide) (by decide)), fi_off (lyx_ne hy (show P_ta ≠ P_ta_wantWorths by decide) (by decide) (by decide)), fi_off (lyx_ne hy (show P_ta ≠ P_ta_wantUnits by decide) (by decide) (by decide)), fi_off (lyx_ne hy (show P_ta ≠ P_ta_wantThings by decide) (by decide) (by decide)), fi_off (lyx_ne hy (show P_ta ≠ P_ta_earnings by decide) (by decide) (by decide)), fi_off (lyx_ne hy (show P_ta ≠ P_ta_illDays by decide) (by decide) (by decide)), fi_off (lyx_ne hy (show P_ta ≠ P_ta_losses by decide) (by decide) (by decide)), pp_ne _ _ (Or.inr (by decide)), pp_ne _ _ (Or.inr (by decide)), pp_ne _ _ (Or.inr (by decide)), pp_ne _ _ (Or.inr (by decide)), pp_self]), (by rw [fi_off (lyx_ne hy (show P_ta ≠ P_ta_toldDays by decide) (by decide) (by decide)), fi_off (lyx_ne hy (show P_ta ≠ P_ta_makes by decide) (by decide) (by decide)), fi_off (lyx_ne hy (show P_ta ≠ P_ta_prices by decide) (by decide) (by decide)), fi_off (lyx_ne hy (show P_ta ≠ P_ta_wantWorths by decide) (by decide) (by decide)), fi_off (lyx_ne hy (show P_ta ≠ P_ta_wantUnits by decide) (by decide) (by decide)), fi_off (lyx_ne hy (show P_ta ≠ P_ta_wantThings by decide) (by decide) (by decide)), fi_off (lyx_ne hy (show P_ta ≠ P_ta_earnings by decide) (by decide) (by decide)), fi_off (lyx_ne hy (show P_ta ≠ P_ta_illDays by decide) (by decide) (by decide)), fi_off (lyx_ne hy (show P_ta ≠ P_ta_losses by decide) (by decide) (by decide)), pp_ne _ _ (Or.inr (by decide)), pp_ne _ _ (Or.inr (by decide)), pp_ne _ _ (Or.inr (by decide)), pp_self]), (by rw [fi_off (lyx_ne hy (show P_ta ≠ P_ta_toldDays by decide) (by decide) (by decide)), fi_off (lyx_ne hy (show P_ta ≠ P_ta_makes by decide) (by decide) (by decide)), fi_off (lyx_ne hy (show P_ta ≠ P_ta_prices by decide) (by decide) (by decide)), fi_off (lyx_ne hy (show P_ta ≠ P_ta_wantWorths by decide) (by decide) (by decide)), fi_off (lyx_ne hy (show P_ta ≠ P_ta_wantUnits by decide) (by decide) (by decide)), fi_off (lyx_ne hy (show P_ta ≠ P_ta_wantThings by decide) (by decide) (by decide)), fi_off (lyx_ne hy (show P_ta ≠ P_ta_earnings by decide) (by decide) (by decide)), fi_off (lyx_ne hy (show P_ta ≠ P_ta_illDays by decide) (by decide) (by decide)), fi_off (lyx_ne hy (show P_ta ≠ P_ta_losses by decide) (by decide) (by decide)), pp_ne _ _ (Or.inr (by decide)), pp_ne _ _ (Or.inr (by decide)), pp_self]), (by rw [fi_off (lyx_ne hy (show P_ta ≠ P_ta_toldDays by decide) (by decide) (by decide)), fi_off (lyx_ne hy (show P_ta ≠ P_ta_makes by decide) (by decide) (by decide)), fi_off (lyx_ne hy (show P_ta ≠ P_ta_prices by decide) (by decide) (by decide)), fi_off (lyx_ne hy (show P_ta ≠ P_ta_wantWorths by decide) (by decide) (by decide)), fi_off (lyx_ne hy (show P_ta ≠ P_ta_wantUnits by decide) (by decide) (by decide)), fi_off (lyx_ne hy (show P_ta ≠ P_ta_wantThings by decide) (by decide) (by decide)), fi_off (lyx_ne hy (show P_ta ≠ P_ta_earnings by decide) (by decide) (by decide)), fi_off (lyx_ne hy (show P_ta ≠ P_ta_illDays by decide) (by decide) (by decide)), fi_off (lyx_ne hy (show P_ta ≠ P_ta_losses by decide) (by decide) (by decide)), pp_ne _ _ (Or.inr (by decide)), pp_self]), (by rw [fi_off (lyx_ne hy (show P_ta ≠ P_ta_toldDays by decide) (by decide) (by decide)), fi_off (lyx_ne hy (show P_ta ≠ P_ta_makes by decide) (by decide) (by decide)), fi_off (lyx_ne hy (show P_ta ≠ P_ta_prices by decide) (by decide) (by decide)), fi_off (lyx_ne hy (show P_ta ≠ P_ta_wantWorths by decide) (by decide) (by decide)), fi_off (lyx_ne hy (show P_ta ≠ P_ta_wantUnits by decide) (by decide) (by decide)), fi_off (lyx_ne hy (show P_ta ≠ P_ta_wantThings by decide) (by decide) (by decide)), fi_off (lyx_ne hy (show P_ta ≠ P_ta_earnings by decide) (by decide) (by decide)), fi_off (lyx_ne hy (show P_ta ≠ P_ta_illDays by decide) (by decide) (by decide)), fi_off (lyx_ne hy (show P_ta ≠ P_ta_losses by decide) (by decide) (by decide)), pp_self])⟩, (fun h q => by rw [fi_off (lyx_ne hy (show P_ta_losses ≠ P_ta_toldDays by decide) (by decide) (by decide)), fi_off (lyx_ne hy (show P_ta_losses ≠ P_ta_makes by decide) (by decide) (by decide)), fi_off (lyx_ne hy (show P_ta_losses ≠ P_ta_prices by decide) (by decide) (by decide)), fi_off (lyx_ne hy (show P_ta_losses ≠ P_ta_wantWorths by decide) (by decide) (by decide)), fi_off (lyx_ne hy (show P_ta_losses ≠ P_ta_wantUnits by decide) (by decide) (by decide)), fi_off (lyx_ne hy (show P_ta_losses ≠ P_ta_wantThings by decide) (by decide) (by decide)), fi_off (lyx_ne hy (show P_ta_losses ≠ P_ta_earnings by decide) (by decide) (by decide)), fi_off (lyx_ne hy (show P_ta_losses ≠ P_ta_illDays by decide) (by decide) (by decide))]; unfold fi; split <;> first | rfl | (rw [pp_off _ _ (lyx_ne hy (show P_ta_losses ≠ P_ta by decide) (by decide) (by decide)), pp_off _ _ (lyx_ne hy (show P_ta_losses ≠ P_ta by decide) (by decide) (by decide)), pp_off _ _ (lyx_ne hy (show P_ta_losses ≠ P_ta by decide) (by decide) (by decide)), pp_off _ _ (lyx_ne hy (show P_ta_losses ≠ P_ta by decide) (by decide) (by decide)), pp_off _ _ (lyx_ne hy (show P_ta_losses ≠ P_ta by decide) (by decide) (by decide))]; exact h q)), rfl, rfl⟩
set_option maxHeartbeats 4000000 in
set_option maxRecDepth 100000 in
theorem x_forget_tb {g : GG} {I : pI} {J : pJ} {R : pR} (hy : LyX g) (hr : RfX g R)  : SP g mX7_forget [.ref (ad g P_tb)] I J R (fun r I' J' R' => r = none ∧ fxX g [P_tb, P_tb_losses, P_tb_illDays, P_tb_earnings, P_tb_wantThings, P_tb_wantUnits, P_tb_wantWorths, P_tb_prices, P_tb_makes, P_tb_toldDays] I I' ∧ Tf g P_tb I' ∧ ((∀ q, I (ad g P_tb_losses) q = 0) → ∀ q, I' (ad g P_tb_losses) q = 0) ∧ J' = J ∧ R' = R) := by
  refine SP_of ⟨by decide, rfl⟩ (Nat.le_of_ble_eq_true rfl) ?_
  have c0 : True := trivial
  refine WP_aload_n dX7_forget_0 rfl ?_
  refine WP_iconst (0) dX7_forget_1 rfl ?_
  refine WP_puti dX7_forget_2 fX7_61 rfl rfl (lyx_is hy _ _ rfl) ?_
  refine WP_aload_n dX7_forget_5 rfl ?_
  refine WP_iconst (0) dX7_forget_6 rfl ?_
  refine WP_puti dX7_forget_7 fX7_65 rfl rfl (lyx_is hy _ _ rfl) ?_
  refine WP_aload_n dX7_forget_10 rfl ?_
  refine WP_iconst (0) dX7_forget_11 rfl ?_
  refine WP_puti dX7_forget_12 fX7_68 rfl rfl (lyx_is hy _ _ rfl) ?_
  refine WP_aload_n dX7_forget_15 rfl ?_
  refine WP_iconst (-1) dX7_forget_16 rfl ?_
  refine WP_puti dX7_forget_17 fX7_71 rfl rfl (lyx_is hy _ _ rfl) ?_
  refine WP_aload_n dX7_forget_20 rfl ?_
  refine WP_iconst (-1) dX7_forget_21 rfl ?_
  refine WP_puti dX7_forget_22 fX7_74 rfl rfl (lyx_is hy _ _ rfl) ?_
  refine WP_aload_n dX7_forget_25 rfl ?_
  refine WP_getr dX7_forget_26 fX7_9 rfl (lyx_is hy _ _ rfl) (rfx hr 27 5 28 (by decide)) ?_
  refine WP_iconst (0) dX7_forget_29 rfl ?_
  refine WP_callS2u dX7_forget_30 ⟨⟨⟨by decide, by decide⟩, zJ7_fill_53178⟩, lX7_77, tJ7_fill_53178⟩ (s_fill hy hr P_tb_losses 7 rfl rfl (by decide) (0)) (Nat.le_of_ble_eq_true rfl) ?_
  refine WP_aload_n dX7_forget_33 rfl ?_
  refine WP_getr dX7_forget_34 fX7_24 rfl (lyx_is hy _ _ rfl) (rfx hr 27 9 32 (by decide)) ?_
  refine WP_iconst (0) dX7_forget_37 rfl ?_
  refine WP_callS2u dX7_forget_38 ⟨⟨⟨by decide, by decide⟩, zJ7_fill_53178⟩, lX7_77, tJ7_fill_53178⟩ (s_fill hy hr P_tb_illDays 4 rfl rfl (by decide) (0)) (Nat.le_of_ble_eq_true rfl) ?_
  refine WP_aload_n dX7_forget_41 rfl ?_
  refine WP_getr dX7_forget_42 fX7_27 rfl (lyx_is hy _ _ rfl) (rfx hr 27 10 33 (by decide)) ?_
  refine WP_iconst (0) dX7_forget_45 rfl ?_
  refine WP_callS2u dX7_forget_46 ⟨⟨⟨by decide, by decide⟩, zJ7_fill_53178⟩, lX7_77, tJ7_fill_53178⟩ (s_fill hy hr P_tb_earnings 28 rfl rfl (by decide) (0)) (Nat.le_of_ble_eq_true rfl) ?_
  refine WP_aload_n dX7_forget_49 rfl ?_
  refine WP_getr dX7_forget_50 fX7_30 rfl (lyx_is hy _ _ rfl) (rfx hr 27 11 34 (by decide)) ?_
  refine WP_iconst (-1) dX7_forget_53 rfl ?_
  refine WP_callS2u dX7_forget_54 ⟨⟨⟨by decide, by decide⟩, zJ7_fill_53178⟩, lX7_77, tJ7_fill_53178⟩ (s_fill hy hr P_tb_wantThings 28 rfl rfl (by decide) (-1)) (Nat.le_of_ble_eq_true rfl) ?_
  refine WP_aload_n dX7_forget_57 rfl ?_
  refine WP_getr dX7_forget_58 fX7_33 rfl (lyx_is hy _ _ rfl) (rfx hr 27 12 35 (by decide)) ?_
  refine WP_iconst (0) dX7_forget_61 rfl ?_
  refine WP_callS2u dX7_forget_62 ⟨⟨⟨by decide, by decide⟩, zJ7_fill_53178⟩, lX7_77, tJ7_fill_53178⟩ (s_fill hy hr P_tb_wantUnits 28 rfl rfl (by decide) (0)) (Nat.le_of_ble_eq_true rfl) ?_
  refine WP_aload_n dX7_forget_65 rfl ?_
  refine WP_getr dX7_forget_66 fX7_36 rfl (lyx_is hy _ _ rfl) (rfx hr 27 13 36 (by decide)) ?_
  refine WP_iconst (0) dX7_forget_69 rfl ?_
  refine WP_callS2u dX7_forget_70 ⟨⟨⟨by decide, by decide⟩, zJ7_fill_53178⟩, lX7_77, tJ7_fill_53178⟩ (s_fill hy hr P_tb_wantWorths 28 rfl rfl (by decide) (0)) (Nat.le_of_ble_eq_true rfl) ?_
  refine WP_aload_n dX7_forget_73 rfl ?_
  refine WP_getr dX7_forget_74 fX7_45 rfl (lyx_is hy _ _ rfl) (rfx hr 27 16 39 (by decide)) ?_
  refine WP_iconst (5) dX7_forget_77 rfl ?_
  refine WP_callS2u dX7_forget_78 ⟨⟨⟨by decide, by decide⟩, zJ7_fill_53178⟩, lX7_77, tJ7_fill_53178⟩ (s_fill hy hr P_tb_prices 21 rfl rfl (by decide) (5)) (Nat.le_of_ble_eq_true rfl) ?_
  refine WP_aload_n dX7_forget_81 rfl ?_
  refine WP_getr dX7_forget_82 fX7_48 rfl (lyx_is hy _ _ rfl) (rfx hr 27 17 40 (by decide)) ?_
  refine WP_iconst (-1) dX7_forget_85 rfl ?_
  refine WP_callS2u dX7_forget_86 ⟨⟨⟨by decide, by decide⟩, zJ7_fill_53178⟩, lX7_77, tJ7_fill_53178⟩ (s_fill hy hr P_tb_makes 21 rfl rfl (by decide) (-1)) (Nat.le_of_ble_eq_true rfl) ?_
  refine WP_aload_n dX7_forget_89 rfl ?_
  refine WP_getr dX7_forget_90 fX7_55 rfl (lyx_is hy _ _ rfl) (rfx hr 27 19 42 (by decide)) ?_
  refine WP_iconst (0) dX7_forget_93 rfl ?_
  refine WP_callS2u dX7_forget_94 ⟨⟨⟨by decide, by decide⟩, zJ7_fill_53178⟩, lX7_77, tJ7_fill_53178⟩ (s_fill hy hr P_tb_toldDays 48 rfl rfl (by decide) (0)) (Nat.le_of_ble_eq_true rfl) ?_
  exact WP_vret dX7_forget_97 rfl ⟨rfl, (fi_fx hy (fi_fx hy (fi_fx hy (fi_fx hy (fi_fx hy (fi_fx hy (fi_fx hy (fi_fx hy (fi_fx hy (fxX_pp hy (fxX_pp hy (fxX_pp hy (fxX_pp hy (fxX_pp hy fxX_rf (by decide) (by decide)) (by decide) (by decide)) (by decide) (by decide)) (by decide) (by decide)) (by decide) (by decide)) (by decide) (by decide)) (by decide) (by decide)) (by decide) (by decide)) (by decide) (by decide)) (by decide) (by decide)) (by decide) (by decide)) (by decide) (by decide)) (by decide) (by decide)) (by decide) (by decide)), ⟨(by rw [fi_off (lyx_ne hy (show P_tb ≠ P_tb_toldDays by decide) (by decide) (by decide)), fi_off (lyx_ne hy (show P_tb ≠ P_tb_makes by decide) (by decide) (by decide)), fi_off (lyx_ne hy (show P_tb ≠ P_tb_prices by decide) (by decide) (by decide)), fi_off (lyx_ne hy (show P_tb ≠ P_tb_wantWorths by decide) (by decide) (by decide)), fi_off (lyx_ne hy (show P_tb ≠ P_tb_wantUnits by decide) (by decide) (by decide)), fi_off (lyx_ne hy (show P_tb ≠ P_tb_wantThings by decide) (by decide) (by decide)), fi_off (lyx_ne hy (show P_tb ≠ P_tb_earnings by decide) (by decide) (by decide)), fi_off (lyx_ne hy (show P_tb ≠ P_tb_illDays by decide) (by decide) (by decide)), fi_off (lyx_ne hy (show P_tb ≠ P_tb_losses by decide) (by decide) (by decide)), pp_ne _ _ (Or.inr (by decide)), pp_ne _ _ (Or.inr (by decide)), pp_ne _ _ (Or.inr (by decide)), pp_ne _ _ (Or.inr (by decide)), pp_self]), (by rw [fi_off (lyx_ne hy (show P_tb ≠ P_tb_toldDays by decide) (by decide) (by decide)), fi_off (lyx_ne hy (show P_tb ≠ P_tb_makes by decide) (by decide) (by decide)), fi_off (lyx_ne hy (show P_tb ≠ P_tb_prices by decide) (by decide) (by decide)), fi_off (lyx_ne hy (show P_tb ≠ P_tb_wantWorths by decide) (by decide) (by decide)), fi_off (lyx_ne hy (show P_tb ≠ P_tb_wantUnits by decide) (by decide) (by decide)), fi_off (lyx_ne hy (show P_tb ≠ P_tb_wantThings by decide) (by decide) (by decide)), fi_off (lyx_ne hy (show P_tb ≠ P_tb_earnings by decide) (by decide) (by decide)), fi_off (lyx_ne hy (show P_tb ≠ P_tb_illDays by decide) (by decide) (by decide)), fi_off (lyx_ne hy (show P_tb ≠ P_tb_losses by decide) (by decide) (by decide)), pp_ne _ _ (Or.inr (by decide)), pp_ne _ _ (Or.inr (by decide)), pp_ne _ _ (Or.inr (by decide)), pp_self]), (by rw [fi_off (lyx_ne hy (show P_tb ≠ P_tb_toldDays by decide) (by decide) (by decide)), fi_off (lyx_ne hy (show P_tb ≠ P_tb_makes by decide) (by decide) (by decide)), fi_off (lyx_ne hy (show P_tb ≠ P_tb_prices by decide) (by decide) (by decide)), fi_off (lyx_ne hy (show P_tb ≠ P_tb_wantWorths by decide) (by decide) (by decide)), fi_off (lyx_ne hy (show P_tb ≠ P_tb_wantUnits by decide) (by decide) (by decide)), fi_off (lyx_ne hy (show P_tb ≠ P_tb_wantThings by decide) (by decide) (by decide)), fi_off (lyx_ne hy (show P_tb ≠ P_tb_earnings by decide) (by decide) (by decide)), fi_off (lyx_ne hy (show P_tb ≠ P_tb_illDays by decide) (by decide) (by decide)), fi_off (lyx_ne hy (show P_tb ≠ P_tb_losses by decide) (by decide) (by decide)), pp_ne _ _ (Or.inr (by decide)), pp_ne _ _ (Or.inr (by decide)), pp_self]), (by rw [fi_off (lyx_ne hy (show P_tb ≠ P_tb_toldDays by decide) (by decide) (by decide)), fi_off (lyx_ne hy (show P_tb ≠ P_tb_makes by decide) (by decide) (by decide)), fi_off (lyx_ne hy (show P_tb ≠ P_tb_prices by decide) (by decide) (by decide)), fi_off (lyx_ne hy (show P_tb ≠ P_tb_wantWorths by decide) (by decide) (by decide)), fi_off (lyx_ne hy (show P_tb ≠ P_tb_wantUnits by decide) (by decide) (by decide)), fi_off (lyx_ne hy (show P_tb ≠ P_tb_wantThings by decide) (by decide) (by decide)), fi_off (lyx_ne hy (show P_tb ≠ P_tb_earnings by decide) (by decide) (by decide)), fi_off (lyx_ne hy (show P_tb ≠ P_tb_illDays by decide) (by decide) (by decide)), fi_off (lyx_ne hy (show P_tb ≠ P_tb_losses by decide) (by decide) (by decide)), pp_ne _ _ (Or.inr (by decide)), pp_self]), (by rw [fi_off (lyx_ne hy (show P_tb ≠ P_tb_toldDays by decide) (by decide) (by decide)), fi_off (lyx_ne hy (show P_tb ≠ P_tb_makes by decide) (by decide) (by decide)), fi_off (lyx_ne hy (show P_tb ≠ P_tb_prices by decide) (by decide) (by decide)), fi_off (lyx_ne hy (show P_tb ≠ P_tb_wantWorths by decide) (by decide) (by decide)), fi_off (lyx_ne hy (show P_tb ≠ P_tb_wantUnits by decide) (by decide) (by decide)), fi_off (lyx_ne hy (show P_tb ≠ P_tb_wantThings by decide) (by decide) (by decide)), fi_off (lyx_ne hy (show P_tb ≠ P_tb_earnings by decide) (by decide) (by decide)), fi_off (lyx_ne hy (show P_tb ≠ P_tb_illDays by decide) (by decide) (by decide)), fi_off (lyx_ne hy (show P_tb ≠ P_tb_losses by decide) (by decide) (by decide)), pp_self])⟩, (fun h q => by rw [fi_off (lyx_ne hy (show P_tb_losses ≠ P_tb_toldDays by decide) (by decide) (by decide)), fi_off (lyx_ne hy (show P_tb_losses ≠ P_tb_makes by decide) (by decide) (by decide)), fi_off (lyx_ne hy (show P_tb_losses ≠ P_tb_prices by decide) (by decide) (by decide)), fi_off (lyx_ne hy (show P_tb_losses ≠ P_tb_wantWorths by decide) (by decide) (by decide)), fi_off (lyx_ne hy (show P_tb_losses ≠ P_tb_wantUnits by decide) (by decide) (by decide)), fi_off (lyx_ne hy (show P_tb_losses ≠ P_tb_wantThings by decide) (by decide) (by decide)), fi_off (lyx_ne hy (show P_tb_losses ≠ P_tb_earnings by decide) (by decide) (by decide)), fi_off (lyx_ne hy (show P_tb_losses ≠ P_tb_illDays by decide) (by decide) (by decide))]; unfold fi; split <;> first | rfl | (rw [pp_off _ _ (lyx_ne hy (show P_tb_losses ≠ P_tb by decide) (by decide) (by decide)), pp_off _ _ (lyx_ne hy (show P_tb_losses ≠ P_tb by decide) (by decide) (by decide)), pp_off _ _ (lyx_ne hy (show P_tb_losses ≠ P_tb by decide) (by decide) (by decide)), pp_off _ _ (lyx_ne hy (show P_tb_losses ≠ P_tb by decide) (by decide) (by decide)), pp_off _ _ (lyx_ne hy (show P_tb_losses ≠ P_tb by decide) (by decide) (by decide))]; exact h q)), rfl, rfl⟩
def Sd_ta (g : GG) (I I' : pI) (J' : pJ) : Prop := fxX g [P_market_storeCosts, P_market_storesBehind, P_market_prices, P_market_losses, P_market_behindStamps, P_course, P_course_ways, P_course_facts, P_slot0, P_slot1, P_slot2, P_meeting_rows, P_x] I I' ∧ R0 g P_course I' J' ∧ I' (ad g P_market_storeCosts) 0 = 0 ∧ ((∀ q, I (ad g P_ta_losses) q = 0) → Zl g I → Zl g I' ∧ Stm g 7 0 I')
theorem R0_fx {g : GG} {I I' : pI} {J : pJ} {S : List Nat} (h : R0 g P_course I J) (hx : fxX g S I I') (hS : P_course ∉ S ∧ P_course_facts ∉ S) : R0 g P_course I' J := by
  unfold R0
  rw [hx P_course (by decide) hS.1, hx (P_course + 2) (by decide) hS.2]
  exact h
theorem Stm_fx {g : GG} {I I' : pI} {d k : Nat} {S : List Nat} (h : Stm g d k I) (hx : fxX g S I I') (hS : P_market_behindStamps ∉ S) : Stm g d k I' := by
  unfold Stm
  rw [hx P_market_behindStamps (by decide) hS]
  exact h
set_option maxHeartbeats 4000000 in
set_option maxRecDepth 100000 in
theorem x_mforget {g : GG} {I : pI} {J : pJ} {R : pR} (hy : LyX g) (hr : RfX g R)  : SP g mX1_forget [.ref (ad g P_meeting)] I J R (pu (fi I (ad g P_meeting_rows) 8 0) J R) := by
  refine SP_of ⟨by decide, rfl⟩ (Nat.le_of_ble_eq_true rfl) ?_
  have c0 : True := trivial
  refine WP_aload_n dX1_forget_0 rfl ?_
  refine WP_getr dX1_forget_1 fX1_15 rfl (lyx_is hy _ _ rfl) (rfx hr 71 3 73 (by decide)) ?_
  refine WP_iconst (0) dX1_forget_4 rfl ?_
  refine WP_callS2u dX1_forget_5 ⟨⟨⟨by decide, by decide⟩, zJ7_fill_53178⟩, lX1_22, tJ7_fill_53178⟩ (s_fill hy hr P_meeting_rows 8 rfl rfl (by decide) 0) (Nat.le_of_ble_eq_true rfl) ?_
  exact WP_vret dX1_forget_8 rfl ⟨rfl, rfl, rfl, rfl⟩
set_option maxHeartbeats 4000000 in
set_option maxRecDepth 100000 in
theorem x_settle_ta {g : GG} {I : pI} {J : pJ} {R : pR} (hy : LyX g) (hr : RfX g R) (h_town : R (ad g P_market) 0 = some (ad g P_ta)) (hst : I (ad g P_ta) 4 = (-1)) (hs0 : I (ad g P_ta) 1 = 0)  : SP g mX10_settle [.ref (ad g P_x)] I J R (fun r I' J' R' => r = none ∧ Sd_ta g I I' J' ∧ I' (ad g P_slot0) 0 = (-1) ∧ I' (ad g P_slot1) 0 = (-1) ∧ I' (ad g P_slot2) 0 = (-1) ∧ I' (ad g P_x) 11 = (-1) ∧ R' = R) := by
  refine SP_of ⟨by decide, rfl⟩ (Nat.le_of_ble_eq_true rfl) ?_
  have c0 : True := trivial
  refine WP_aload_n dX10_settle_0 rfl ?_
  refine WP_getr dX10_settle_1 fX10_33 rfl (lyx_is hy _ _ rfl) (rfx hr 0 2 5 (by decide)) ?_
  refine WP_callV0 (k := 0) dX10_settle_4 ⟨⟨⟨by decide, by decide⟩, zX0_open⟩, lX10_332, by decide, rfl, vX0_open.1, vX0_open.2⟩ (lyx_is hy _ _ rfl) (x_open_ta hy hr h_town hst) (Nat.le_of_ble_eq_true rfl) ?_
  rintro r I3 J3 R3 ⟨rfl, hx3, hc3, hz3, eJ, eR⟩
  rw [eJ, eR]
  simp only [Option.toList, List.cons_append, List.nil_append]
  refine WP_aload_n dX10_settle_7 rfl ?_
  refine WP_getr dX10_settle_8 fX10_62 rfl (lyx_is hy _ _ rfl) (rfx hr 0 5 53 (by decide)) ?_
  refine WP_aload_n dX10_settle_11 rfl ?_
  refine WP_getr dX10_settle_12 fX10_33 rfl (lyx_is hy _ _ rfl) (rfx hr 0 2 5 (by decide)) ?_
  refine WP_getr dX10_settle_15 fX10_102 rfl (lyx_is hy _ _ rfl) h_town ?_
  refine WP_callV1 (k := 4) dX10_settle_18 ⟨⟨⟨by decide, by decide⟩, zX4_begin⟩, lX10_246, by decide, rfl, vX4_begin.1, vX4_begin.2⟩ (lyx_is hy _ _ rfl) (x_begin hy hr P_ta ⟨rfl, by decide⟩ P_course (by decide) (by decide) (by rw [hx3 P_ta (by decide) (by decide)]; exact hs0)) (Nat.le_of_ble_eq_true rfl) ?_
  rintro r I4 J4 R4 ⟨rfl, hx4, eR4, hr4, hj4⟩
  rw [eR4]
  simp only [Option.toList, List.cons_append, List.nil_append]
  refine WP_aload_n dX10_settle_21 rfl ?_
  refine WP_getr dX10_settle_22 fX10_62 rfl (lyx_is hy _ _ rfl) (rfx hr 0 5 53 (by decide)) ?_
  refine WP_getr dX10_settle_25 fX10_225 rfl (lyx_is hy _ _ rfl) (rfx hr 53 4 54 (by decide)) ?_
  refine WP_iconst (1) dX10_settle_28 rfl ?_
  refine WP_callS2u dX10_settle_29 ⟨⟨⟨by decide, by decide⟩, zJ7_fill_53178⟩, lX10_335, tJ7_fill_53178⟩ (s_fill hy hr P_course_ways 4 rfl rfl (by decide) 1) (Nat.le_of_ble_eq_true rfl) ?_
  refine WP_iconst (0) dX10_settle_32 rfl ?_
  refine WP_istore_n (ls' := [(0, _), (1, _)]) dX10_settle_33 (by decide) rfl ?_
  refine WP_iload_n dX10_settle_34 rfl ?_
  refine WP_iconst (3) dX10_settle_35 rfl ?_
  refine WP_icmp_ge 55 dX10_settle_36 rfl (fun c36 => absurd c36 (by decide)) (fun c36 => ?_)
  refine WP_aload_n dX10_settle_39 rfl ?_
  refine WP_getr dX10_settle_40 fX10_69 rfl (lyx_is hy _ _ rfl) (rfx hr 0 7 59 (by decide)) ?_
  refine WP_iload_n dX10_settle_43 rfl ?_
  refine WP_aald dX10_settle_44 (lyx_is hy _ _ rfl) (lyx_in hy _ _ rfl (by rw [vp_in_iff]; decide)) (rfx hr 59 0 60 (by decide)) ?_
  refine WP_iconst (-1) dX10_settle_45 rfl ?_
  refine WP_puti dX10_settle_46 fX10_232 rfl rfl (lyx_is hy _ _ rfl) ?_
  refine WP_iinc (ls' := [(0, _), (1, _)]) dX10_settle_49 rfl (by decide) rfl ?_
  refine WP_goto 34 dX10_settle_52 rfl ?_
  refine WP_iload_n dX10_settle_34 rfl ?_
  refine WP_iconst (3) dX10_settle_35 rfl ?_
  refine WP_icmp_ge 55 dX10_settle_36 rfl (fun c36 => absurd c36 (by decide)) (fun c36 => ?_)
  refine WP_aload_n dX10_settle_39 rfl ?_
  refine WP_getr dX10_settle_40 fX10_69 rfl (lyx_is hy _ _ rfl) (rfx hr 0 7 59 (by decide)) ?_
  refine WP_iload_n dX10_settle_43 rfl ?_
  refine WP_aald dX10_settle_44 (lyx_is hy _ _ rfl) (lyx_in hy _ _ rfl (by rw [vp_in_iff]; decide)) (rfx hr 59 1 63 (by decide)) ?_
  refine WP_iconst (-1) dX10_settle_45 rfl ?_
  refine WP_puti dX10_settle_46 fX10_232 rfl rfl (lyx_is hy _ _ rfl) ?_
  refine WP_iinc (ls' := [(0, _), (1, _)]) dX10_settle_49 rfl (by decide) rfl ?_
  refine WP_goto 34 dX10_settle_52 rfl ?_
  refine WP_iload_n dX10_settle_34 rfl ?_
  refine WP_iconst (3) dX10_settle_35 rfl ?_
  refine WP_icmp_ge 55 dX10_settle_36 rfl (fun c36 => absurd c36 (by decide)) (fun c36 => ?_)
  refine WP_aload_n dX10_settle_39 rfl ?_
  refine WP_getr dX10_settle_40 fX10_69 rfl (lyx_is hy _ _ rfl) (rfx hr 0 7 59 (by decide)) ?_
  refine WP_iload_n dX10_settle_43 rfl ?_
  refine WP_aald dX10_settle_44 (lyx_is hy _ _ rfl) (lyx_in hy _ _ rfl (by rw [vp_in_iff]; decide)) (rfx hr 59 2 66 (by decide)) ?_
  refine WP_iconst (-1) dX10_settle_45 rfl ?_
  refine WP_puti dX10_settle_46 fX10_232 rfl rfl (lyx_is hy _ _ rfl) ?_
  refine WP_iinc (ls' := [(0, _), (1, _)]) dX10_settle_49 rfl (by decide) rfl ?_
  refine WP_goto 34 dX10_settle_52 rfl ?_
  refine WP_iload_n dX10_settle_34 rfl ?_
  refine WP_iconst (3) dX10_settle_35 rfl ?_
  refine WP_icmp_ge 55 dX10_settle_36 rfl (fun c36 => ?_) (fun c36 => absurd c36 (by decide))
  refine WP_aload_n dX10_settle_55 rfl ?_
  refine WP_getr dX10_settle_56 fX10_83 rfl (lyx_is hy _ _ rfl) (rfx hr 0 9 71 (by decide)) ?_
  refine WP_callV0u (k := 1) dX10_settle_59 ⟨⟨⟨by decide, by decide⟩, zX1_forget⟩, lX10_341, by decide, rfl, vX1_forget.1, vX1_forget.2⟩ (lyx_is hy _ _ rfl) (x_mforget hy hr) (Nat.le_of_ble_eq_true rfl) ?_
  refine WP_aload_n dX10_settle_62 rfl ?_
  refine WP_iconst (-1) dX10_settle_63 rfl ?_
  refine WP_puti dX10_settle_64 fX10_263 rfl rfl (lyx_is hy _ _ rfl) ?_
  have hl := (show fxX g [P_course_ways, P_slot0, P_slot1, P_slot2, P_meeting_rows, P_x] I4 (pp (fi (pp (pp (pp (fi I4 (ad g P_course_ways) 4 1) (ad g P_slot0) 0 (-1)) (ad g P_slot1) 0 (-1)) (ad g P_slot2) 0 (-1)) (ad g P_meeting_rows) 8 0) (ad g P_x) 11 (-1)) from (fxX_pp hy (fi_fx hy (fxX_pp hy (fxX_pp hy (fxX_pp hy (fi_fx hy fxX_rf (by decide) (by decide)) (by decide) (by decide)) (by decide) (by decide)) (by decide) (by decide)) (by decide) (by decide)) (by decide) (by decide)))
  exact WP_vret dX10_settle_67 rfl ⟨rfl, ⟨fxX_tr (fxX_tr (fxX_mono hx3 (by decide)) (fxX_mono hx4 (by decide))) (fxX_mono hl (by decide)), R0_fx hr4 hl (by decide), (by rw [hl P_market_storeCosts (by decide) (by decide), hx4 P_market_storeCosts (by decide) (by decide)]; exact hc3), (fun h1 h2 => by obtain ⟨z1, z2⟩ := hz3 h1 h2; exact ⟨fun q => by rw [hl P_market_losses (by decide) (by decide), hx4 P_market_losses (by decide) (by decide)]; exact z1 q, Stm_fx (Stm_fx z2 hx4 (by decide)) hl (by decide)⟩)⟩, (by rw [pp_off _ _ (lyx_ne hy (show P_slot0 ≠ P_x by decide) (by decide) (by decide)), fi_off (lyx_ne hy (show P_slot0 ≠ P_meeting_rows by decide) (by decide) (by decide)), pp_off _ _ (lyx_ne hy (show P_slot0 ≠ P_slot2 by decide) (by decide) (by decide)), pp_off _ _ (lyx_ne hy (show P_slot0 ≠ P_slot1 by decide) (by decide) (by decide)), pp_self]), (by rw [pp_off _ _ (lyx_ne hy (show P_slot1 ≠ P_x by decide) (by decide) (by decide)), fi_off (lyx_ne hy (show P_slot1 ≠ P_meeting_rows by decide) (by decide) (by decide)), pp_off _ _ (lyx_ne hy (show P_slot1 ≠ P_slot2 by decide) (by decide) (by decide)), pp_self]), (by rw [pp_off _ _ (lyx_ne hy (show P_slot2 ≠ P_x by decide) (by decide) (by decide)), fi_off (lyx_ne hy (show P_slot2 ≠ P_meeting_rows by decide) (by decide) (by decide)), pp_self]), (by rw [pp_self]), rfl⟩
def Sd_tb (g : GG) (I I' : pI) (J' : pJ) : Prop := fxX g [P_market_storeCosts, P_market_storesBehind, P_market_prices, P_market_losses, P_market_behindStamps, P_course, P_course_ways, P_course_facts, P_slot0, P_slot1, P_slot2, P_meeting_rows, P_x] I I' ∧ R0 g P_course I' J' ∧ I' (ad g P_market_storeCosts) 0 = 0 ∧ ((∀ q, I (ad g P_tb_losses) q = 0) → Zl g I → Zl g I' ∧ Stm g 7 0 I')
set_option maxHeartbeats 4000000 in
set_option maxRecDepth 100000 in
theorem x_settle_tb {g : GG} {I : pI} {J : pJ} {R : pR} (hy : LyX g) (hr : RfX g R) (h_town : R (ad g P_market) 0 = some (ad g P_tb)) (hst : I (ad g P_tb) 4 = (-1)) (hs0 : I (ad g P_tb) 1 = 0)  : SP g mX10_settle [.ref (ad g P_x)] I J R (fun r I' J' R' => r = none ∧ Sd_tb g I I' J' ∧ I' (ad g P_slot0) 0 = (-1) ∧ I' (ad g P_slot1) 0 = (-1) ∧ I' (ad g P_slot2) 0 = (-1) ∧ I' (ad g P_x) 11 = (-1) ∧ R' = R) := by
  refine SP_of ⟨by decide, rfl⟩ (Nat.le_of_ble_eq_true rfl) ?_
  have c0 : True := trivial
  refine WP_aload_n dX10_settle_0 rfl ?_
  refine WP_getr dX10_settle_1 fX10_33 rfl (lyx_is hy _ _ rfl) (rfx hr 0 2 5 (by decide)) ?_
  refine WP_callV0 (k := 0) dX10_settle_4 ⟨⟨⟨by decide, by decide⟩, zX0_open⟩, lX10_332, by decide, rfl, vX0_open.1, vX0_open.2⟩ (lyx_is hy _ _ rfl) (x_open_tb hy hr h_town hst) (Nat.le_of_ble_eq_true rfl) ?_
  rintro r I3 J3 R3 ⟨rfl, hx3, hc3, hz3, eJ, eR⟩
  rw [eJ, eR]
  simp only [Option.toList, List.cons_append, List.nil_append]
  refine WP_aload_n dX10_settle_7 rfl ?_
  refine WP_getr dX10_settle_8 fX10_62 rfl (lyx_is hy _ _ rfl) (rfx hr 0 5 53 (by decide)) ?_
  refine WP_aload_n dX10_settle_11 rfl ?_
  refine WP_getr dX10_settle_12 fX10_33 rfl (lyx_is hy _ _ rfl) (rfx hr 0 2 5 (by decide)) ?_
  refine WP_getr dX10_settle_15 fX10_102 rfl (lyx_is hy _ _ rfl) h_town ?_
  refine WP_callV1 (k := 4) dX10_settle_18 ⟨⟨⟨by decide, by decide⟩, zX4_begin⟩, lX10_246, by decide, rfl, vX4_begin.1, vX4_begin.2⟩ (lyx_is hy _ _ rfl) (x_begin hy hr P_tb ⟨rfl, by decide⟩ P_course (by decide) (by decide) (by rw [hx3 P_tb (by decide) (by decide)]; exact hs0)) (Nat.le_of_ble_eq_true rfl) ?_
  rintro r I4 J4 R4 ⟨rfl, hx4, eR4, hr4, hj4⟩
  rw [eR4]
  simp only [Option.toList, List.cons_append, List.nil_append]
  refine WP_aload_n dX10_settle_21 rfl ?_
  refine WP_getr dX10_settle_22 fX10_62 rfl (lyx_is hy _ _ rfl) (rfx hr 0 5 53 (by decide)) ?_
  refine WP_getr dX10_settle_25 fX10_225 rfl (lyx_is hy _ _ rfl) (rfx hr 53 4 54 (by decide)) ?_
  refine WP_iconst (1) dX10_settle_28 rfl ?_
  refine WP_callS2u dX10_settle_29 ⟨⟨⟨by decide, by decide⟩, zJ7_fill_53178⟩, lX10_335, tJ7_fill_53178⟩ (s_fill hy hr P_course_ways 4 rfl rfl (by decide) 1) (Nat.le_of_ble_eq_true rfl) ?_
  refine WP_iconst (0) dX10_settle_32 rfl ?_
  refine WP_istore_n (ls' := [(0, _), (1, _)]) dX10_settle_33 (by decide) rfl ?_
  refine WP_iload_n dX10_settle_34 rfl ?_
  refine WP_iconst (3) dX10_settle_35 rfl ?_
  refine WP_icmp_ge 55 dX10_settle_36 rfl (fun c36 => absurd c36 (by decide)) (fun c36 => ?_)
  refine WP_aload_n dX10_settle_39 rfl ?_
  refine WP_getr dX10_settle_40 fX10_69 rfl (lyx_is hy _ _ rfl) (rfx hr 0 7 59 (by decide)) ?_
  refine WP_iload_n dX10_settle_43 rfl ?_
  refine WP_aald dX10_settle_44 (lyx_is hy _ _ rfl) (lyx_in hy _ _ rfl (by rw [vp_in_iff]; decide)) (rfx hr 59 0 60 (by decide)) ?_
  refine WP_iconst (-1) dX10_settle_45 rfl ?_
  refine WP_puti dX10_settle_46 fX10_232 rfl rfl (lyx_is hy _ _ rfl) ?_
  refine WP_iinc (ls' := [(0, _), (1, _)]) dX10_settle_49 rfl (by decide) rfl ?_
  refine WP_goto 34 dX10_settle_52 rfl ?_
  refine WP_iload_n dX10_settle_34 rfl ?_
  refine WP_iconst (3) dX10_settle_35 rfl ?_
  refine WP_icmp_ge 55 dX10_settle_36 rfl (fun c36 => absurd c36 (by decide)) (fun c36 => ?_)
  refine WP_aload_n dX10_settle_39 rfl ?_
  refine WP_getr dX10_settle_40 fX10_69 rfl (lyx_is hy _ _ rfl) (rfx hr 0 7 59 (by decide)) ?_
  refine WP_iload_n dX10_settle_43 rfl ?_
  refine WP_aald dX10_settle_44 (lyx_is hy _ _ rfl) (lyx_in hy _ _ rfl (by rw [vp_in_iff]; decide)) (rfx hr 59 1 63 (by decide)) ?_
  refine WP_iconst (-1) dX10_settle_45 rfl ?_
  refine WP_puti dX10_settle_46 fX10_232 rfl rfl (lyx_is hy _ _ rfl) ?_
  refine WP_iinc (ls' := [(0, _), (1, _)]) dX10_settle_49 rfl (by decide) rfl ?_
  refine WP_goto 34 dX10_settle_52 rfl ?_
  refine WP_iload_n dX10_settle_34 rfl ?_
  refine WP_iconst (3) dX10_settle_35 rfl ?_
  refine WP_icmp_ge 55 dX10_settle_36 rfl (fun c36 => absurd c36 (by decide)) (fun c36 => ?_)
  refine WP_aload_n dX10_settle_39 rfl ?_
  refine WP_getr dX10_settle_40 fX10_69 rfl (lyx_is hy _ _ rfl) (rfx hr 0 7 59 (by decide)) ?_
  refine WP_iload_n dX10_settle_43 rfl ?_
  refine WP_aald dX10_settle_44 (lyx_is hy _ _ rfl) (lyx_in hy _ _ rfl (by rw [vp_in_iff]; decide)) (rfx hr 59 2 66 (by decide)) ?_
  refine WP_iconst (-1) dX10_settle_45 rfl ?_
  refine WP_puti dX10_settle_46 fX10_232 rfl rfl (lyx_is hy _ _ rfl) ?_
  refine WP_iinc (ls' := [(0, _), (1, _)]) dX10_settle_49 rfl (by decide) rfl ?_
  refine WP_goto 34 dX10_settle_52 rfl ?_
  refine WP_iload_n dX10_settle_34 rfl ?_
  refine WP_iconst (3) dX10_settle_35 rfl ?_
  refine WP_icmp_ge 55 dX10_settle_36 rfl (fun c36 => ?_) (fun c36 => absurd c36 (by decide))
  refine WP_aload_n dX10_settle_55 rfl ?_
  refine WP_getr dX10_settle_56 fX10_83 rfl (lyx_is hy _ _ rfl) (rfx hr 0 9 71 (by decide)) ?_
  refine WP_callV0u (k := 1) dX10_settle_59 ⟨⟨⟨by decide, by decide⟩, zX1_forget⟩, lX10_341, by decide, rfl, vX1_forget.1, vX1_forget.2⟩ (lyx_is hy _ _ rfl) (x_mforget hy hr) (Nat.le_of_ble_eq_true rfl) ?_
  refine WP_aload_n dX10_settle_62 rfl ?_
  refine WP_iconst (-1) dX10_settle_63 rfl ?_
  refine WP_puti dX10_settle_64 fX10_263 rfl rfl (lyx_is hy _ _ rfl) ?_
  have hl := (show fxX g [P_course_ways, P_slot0, P_slot1, P_slot2, P_meeting_rows, P_x] I4 (pp (fi (pp (pp (pp (fi I4 (ad g P_course_ways) 4 1) (ad g P_slot0) 0 (-1)) (ad g P_slot1) 0 (-1)) (ad g P_slot2) 0 (-1)) (ad g P_meeting_rows) 8 0) (ad g P_x) 11 (-1)) from (fxX_pp hy (fi_fx hy (fxX_pp hy (fxX_pp hy (fxX_pp hy (fi_fx hy fxX_rf (by decide) (by decide)) (by decide) (by decide)) (by decide) (by decide)) (by decide) (by decide)) (by decide) (by decide)) (by decide) (by decide)))
  exact WP_vret dX10_settle_67 rfl ⟨rfl, ⟨fxX_tr (fxX_tr (fxX_mono hx3 (by decide)) (fxX_mono hx4 (by decide))) (fxX_mono hl (by decide)), R0_fx hr4 hl (by decide), (by rw [hl P_market_storeCosts (by decide) (by decide), hx4 P_market_storeCosts (by decide) (by decide)]; exact hc3), (fun h1 h2 => by obtain ⟨z1, z2⟩ := hz3 h1 h2; exact ⟨fun q => by rw [hl P_market_losses (by decide) (by decide), hx4 P_market_losses (by decide) (by decide)]; exact z1 q, Stm_fx (Stm_fx z2 hx4 (by decide)) hl (by decide)⟩)⟩, (by rw [pp_off _ _ (lyx_ne hy (show P_slot0 ≠ P_x by decide) (by decide) (by decide)), fi_off (lyx_ne hy (show P_slot0 ≠ P_meeting_rows by decide) (by decide) (by decide)), pp_off _ _ (lyx_ne hy (show P_slot0 ≠ P_slot2 by decide) (by decide) (by decide)), pp_off _ _ (lyx_ne hy (show P_slot0 ≠ P_slot1 by decide) (by decide) (by decide)), pp_self]), (by rw [pp_off _ _ (lyx_ne hy (show P_slot1 ≠ P_x by decide) (by decide) (by decide)), fi_off (lyx_ne hy (show P_slot1 ≠ P_meeting_rows by decide) (by decide) (by decide)), pp_off _ _ (lyx_ne hy (show P_slot1 ≠ P_slot2 by decide) (by decide) (by decide)), pp_self]), (by rw [pp_off _ _ (lyx_ne hy (show P_slot2 ≠ P_x by decide) (by decide) (by decide)), fi_off (lyx_ne hy (show P_slot2 ≠ P_meeting_rows by decide) (by decide) (by decide)), pp_self]), (by rw [pp_self]), rfl⟩
theorem Tf_fx {g : GG} {I I' : pI} {S : List Nat} (h : Tf g P_tb I) (hx : fxX g S I I') (hS : P_tb ∉ S) : Tf g P_tb I' := by
  unfold Tf
  rw [hx P_tb (by decide) hS]
  exact h
theorem Rf_pp {g : GG} (hy : LyX g) {R : pR} {i q : Nat} {v : Option Nat} (h : RfX g R) (hi : i < 74) (hn : ∀ e ∈ rTX, e.1 < 74 ∧ (e.1 ≠ i ∨ e.2.1 ≠ q)) : RfX g (pp R (ad g i) q v) := by
  intro e he
  have h1 := hn e he
  rw [pp_ne _ _ (by rcases h1.2 with a | a
                    · exact Or.inl (lyx_ne hy a h1.1 hi)
                    · exact Or.inr a)]
  exact h e he
set_option maxHeartbeats 4000000 in
set_option maxRecDepth 100000 in
theorem x_readTown0 {g : GG} {I : pI} {J : pJ} {R : pR} (hy : LyX g) (hr : RfX g R) (hl : I (ad g P_tape) 1 = 0) : SP g mX3_readTown [.ref (ad g P_reader), .ref (ad g P_tb)] I J R (fun r I' J' R' => r = some (.int 1) ∧ Tf g P_tb I' ∧ R' = R) := by
  refine SP_of ⟨by decide, rfl⟩ (Nat.le_of_ble_eq_true rfl) ?_
  have c0 : True := trivial
  refine WP_aload_n dX3_readTown_0 rfl ?_
  refine WP_callV0 (k := 7) dX3_readTown_1 ⟨⟨⟨by decide, by decide⟩, zX7_forget⟩, lX3_26, by decide, rfl, vX7_forget.1, vX7_forget.2⟩ (lyx_is hy _ _ rfl) (x_forget_tb hy hr) (Nat.le_of_ble_eq_true rfl) ?_
  rintro r I3 J3 R3 ⟨rfl, hx3, ht3, hz3, eJ, eR⟩
  rw [eJ, eR]
  simp only [Option.toList, List.cons_append, List.nil_append]
  refine WP_aload_n dX3_readTown_4 rfl ?_
  refine WP_iconst (0) dX3_readTown_5 rfl ?_
  refine WP_callV1u (k := 3) dX3_readTown_6 ⟨⟨⟨by decide, by decide⟩, zX3_note⟩, lX3_31, by decide, rfl, vX3_note.1, vX3_note.2⟩ (lyx_is hy _ _ rfl) (x_note0 hy hr) (Nat.le_of_ble_eq_true rfl) ?_
  refine WP_aload_n dX3_readTown_9 rfl ?_
  refine WP_getr dX3_readTown_10 fX3_15 rfl (lyx_is hy _ _ rfl) (rfx hr 3 2 1 (by decide)) ?_
  refine WP_callV0u (k := 5) dX3_readTown_13 ⟨⟨⟨by decide, by decide⟩, zX5_rewind⟩, lX3_35, by decide, rfl, vX5_rewind.1, vX5_rewind.2⟩ (lyx_is hy _ _ rfl) (x_rewind hy hr) (Nat.le_of_ble_eq_true rfl) ?_
  refine WP_iconst (0) dX3_readTown_16 rfl ?_
  refine WP_istore_n (ls' := [(0, _), (1, _), (2, _)]) dX3_readTown_17 (by decide) rfl ?_
  refine WP_iload_n dX3_readTown_18 rfl ?_
  refine WP_sipush (900) dX3_readTown_19 rfl ?_
  refine WP_icmp_gt 114 dX3_readTown_22 rfl (fun c22 => absurd c22 (by decide)) (fun c22 => ?_)
  refine WP_aload_n dX3_readTown_25 rfl ?_
  refine WP_getr dX3_readTown_26 fX3_15 rfl (lyx_is hy _ _ rfl) (rfx hr 3 2 1 (by decide)) ?_
  refine WP_callV0u (k := 5) dX3_readTown_29 ⟨⟨⟨by decide, by decide⟩, zX5_next⟩, lX3_40, by decide, rfl, vX5_next.1, vX5_next.2⟩ (lyx_is hy _ _ rfl) (x_next0 hy hr (by rw [pp_ne _ _ (Or.inr (by decide)), pp_off _ _ (lyx_ne hy (show P_tape ≠ P_reader by decide) (by decide) (by decide)), pp_off _ _ (lyx_ne hy (show P_tape ≠ P_reader by decide) (by decide) (by decide)), hx3 P_tape (by decide) (by decide)]; exact hl) (by rw [pp_self])) (Nat.le_of_ble_eq_true rfl) ?_
  refine WP_aload_n dX3_readTown_32 rfl ?_
  refine WP_getr dX3_readTown_33 fX3_15 rfl (lyx_is hy _ _ rfl) (rfx hr 3 2 1 (by decide)) ?_
  refine WP_geti dX3_readTown_36 fX3_43 rfl (lyx_is hy _ _ rfl) ?_
  refine WP_if_ne 45 dX3_readTown_39 rfl (fun c39 => absurd c39 (by rw [pp_self]; decide)) (fun c39 => ?_)
  refine WP_goto 114 dX3_readTown_42 rfl ?_
  refine WP_iconst (1) dX3_readTown_114 rfl ?_
  exact WP_zret dX3_readTown_115 rfl rfl ⟨rfl, Tf_fx ht3 (fxX_pp hy (fxX_pp hy (fxX_pp hy (fxX_pp hy (fxX_pp hy (S := [P_tape, P_reader]) fxX_rf (by decide) (by decide)) (by decide) (by decide)) (by decide) (by decide)) (by decide) (by decide)) (by decide) (by decide)) (by decide), rfl⟩
set_option maxHeartbeats 4000000 in
set_option maxRecDepth 100000 in
theorem xr_town {g : GG} {I : pI} {J : pJ} {R : pR} (hy : LyX g) (hr : RfX g R) (hf : XF g I J R)  : SP g mX10_town [.ref (ad g P_x)] I J R (rq 0) := by
  refine SP_of ⟨by decide, rfl⟩ (Nat.le_of_ble_eq_true rfl) ?_
  have c0 : True := trivial
  have hf0 := hf
  obtain ⟨hxc, h_length, h_kind, h_place, h_clauses, h_turns, h_days, h_chestC, h_bought, h_held, h_cost0, h_s0, h_s1, h_s2, h_spare, h_loss, h_mloss, h_stamps⟩ := hf
  have hxc0 := hxc
  obtain ⟨h_town, h_sorts, h_things, h_chest, h_stored⟩ := hxc
  refine WP_aload_n dX10_town_0 rfl ?_
  refine WP_getr dX10_town_1 fX10_21 rfl (lyx_is hy _ _ rfl) (rfx hr 0 1 3 (by decide)) ?_
  refine WP_aload_n dX10_town_4 rfl ?_
  refine WP_getr dX10_town_5 fX10_37 rfl (lyx_is hy _ _ rfl) h_spare ?_
  refine WP_callV1 (k := 3) dX10_town_8 ⟨⟨⟨by decide, by decide⟩, zX3_readTown⟩, lX10_98, by decide, rfl, vX3_readTown.1, vX3_readTown.2⟩ (lyx_is hy _ _ rfl) (x_readTown0 hy hr h_length) (Nat.le_of_ble_eq_true rfl) ?_
  rintro r I3 J3 R3 ⟨rfl, ht3, eR⟩
  rw [eR]
  simp only [Option.toList, List.cons_append, List.nil_append]
  refine WP_istore_n (ls' := [(0, _), (1, _)]) dX10_town_11 (by decide) rfl ?_
  refine WP_aload_n dX10_town_12 rfl ?_
  refine WP_getr dX10_town_13 fX10_12 rfl (lyx_is hy _ _ rfl) (rfx hr 0 0 1 (by decide)) ?_
  refine WP_iconst (0) dX10_town_16 rfl ?_
  refine WP_puti dX10_town_17 fX10_90 rfl rfl (lyx_is hy _ _ rfl) ?_
  refine WP_iload_n dX10_town_20 rfl ?_
  refine WP_if_ne 26 dX10_town_21 rfl (fun c21 => ?_) (fun c21 => absurd c21 (by decide))
  refine WP_aload_n dX10_town_26 rfl ?_
  refine WP_getr dX10_town_27 fX10_33 rfl (lyx_is hy _ _ rfl) (rfx hr 0 2 5 (by decide)) ?_
  refine WP_getr dX10_town_30 fX10_102 rfl (lyx_is hy _ _ rfl) h_town ?_
  refine WP_astore_n (ls' := [(0, _), (1, _), (2, _)]) dX10_town_33 (by decide) rfl ?_
  refine WP_aload_n dX10_town_34 rfl ?_
  refine WP_getr dX10_town_35 fX10_33 rfl (lyx_is hy _ _ rfl) (rfx hr 0 2 5 (by decide)) ?_
  refine WP_aload_n dX10_town_38 rfl ?_
  refine WP_getr dX10_town_39 fX10_37 rfl (lyx_is hy _ _ rfl) h_spare ?_
  refine WP_putr dX10_town_42 fX10_102 rfl rfl rfl rfl (lyx_is hy _ _ rfl) ?_
  refine WP_aload_n dX10_town_45 rfl ?_
  refine WP_aload_n dX10_town_46 rfl ?_
  refine WP_putr dX10_town_47 fX10_37 rfl rfl rfl rfl (lyx_is hy _ _ rfl) ?_
  refine WP_aload_n dX10_town_50 rfl ?_
  have hd : ad g P_tb ≠ ad g P_tape := lyx_ne hy (by decide) (by decide) (by decide)
  have hr2 : RfX g (pp (pp R (ad g P_market) 0 (some (ad g P_tb))) (ad g P_x) 10 (some (ad g P_ta))) := Rf_pp hy (Rf_pp hy hr (by decide) (by decide)) (by decide) (by decide)
  have htn : pp (pp R (ad g P_market) 0 (some (ad g P_tb))) (ad g P_x) 10 (some (ad g P_ta)) (ad g P_market) 0 = some (ad g P_tb) := by rw [pp_off _ _ (lyx_ne hy (show P_market ≠ P_x by decide) (by decide) (by decide)), pp_self]
  clear h_town
  have h_town := htn
  replace hr := hr2
  refine WP_callV0 (k := 10) dX10_town_51 ⟨⟨⟨by decide, by decide⟩, zX10_settle⟩, lX10_87, by decide, rfl, vX10_settle.1, vX10_settle.2⟩ (lyx_is hy _ _ rfl) (x_settle_tb hy hr2 htn (by rw [pp_off _ _ hd]; exact ht3.2.2.2.2) (by rw [pp_off _ _ hd]; exact ht3.2.1)) (Nat.le_of_ble_eq_true rfl) ?_
  rintro r I4 J4 R4 ⟨rfl, hsd, hq0, hq1, hq2, hq3, eR4⟩
  rw [eR4]
  simp only [Option.toList, List.cons_append, List.nil_append]
  refine WP_aload_n dX10_town_54 rfl ?_
  refine WP_getr dX10_town_55 fX10_33 rfl (lyx_is hy _ _ rfl) (rfx hr 0 2 5 (by decide)) ?_
  refine WP_getr dX10_town_58 fX10_102 rfl (lyx_is hy _ _ rfl) h_town ?_
  refine WP_geti dX10_town_61 fX10_105 rfl (lyx_is hy _ _ rfl) ?_
  exact WP_iret dX10_town_64 rfl (by unfold rq; rw [hsd.1 P_tb (by decide) (by decide), pp_off _ _ hd]; exact congrArg (fun z => some (Value.int z)) ht3.1)
