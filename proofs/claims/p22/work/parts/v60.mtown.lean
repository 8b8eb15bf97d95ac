theorem tok_adv {B : Nat → Int} {n p : Nat} (hp : p ≤ n) (h : tK B n p ≠ 0) : p < tT B n p := by
  have hl := tF_le B hp
  have hn : tF B n p ≠ n := by intro e; exact h (tok_end e).2
  cases hb : bL (B (tF B n p)) with
  | true =>
    rw [(tok_let rfl hn hb).1, sp_go (by omega) hb]
    have := sp_le bL B (n - (tF B n p + 1)) (tF B n p + 1)
    omega
  | false =>
    cases hd : bD (B (tF B n p)) with
    | true =>
      rw [(tok_dig rfl hn hb hd).1, sp_go (by omega) hd]
      have := sp_le bD B (n - (tF B n p + 1)) (tF B n p + 1)
      omega
    | false => rw [(tok_oth rfl hn hb hd).1]; omega
theorem RTM_0 {g : GG} {I : pI} {J : pJ} (j : Nat → Nat → Int) (h15 : (I (ad g 0) 15).toInt = 0) (h16 : (I (ad g 0) 16).toInt = 0) (h17 : (I (ad g 0) 17).toInt = -1) (h18 : (I (ad g 0) 18).toInt = -1) (h51 : (I (ad g 0) 51).toInt = 0) (h7 : ∀ q, q < 7 → (I (ad g 7) q).toInt = 0) : RTM g (S0 j) I J := by
  have a1 : (S0 j).1 0 1 = 0 := rfl
  have a2 : (S0 j).1 0 2 = 0 := rfl
  refine ⟨⟨h15, h16, h17, h18⟩, fun q hq => h7 q hq, fun d hd => tb0 _ _ h51, fun e he q hq => ?_, fun e he q hq => ?_, fun s hs => ?_, fun s hs => ?_, fun q hq => ?_, fun q hq => ?_⟩
  · rw [a1] at hq; omega
  · rw [a2] at hq; omega
  · rw [a1] at hs; omega
  · rw [a2] at hs; omega
  · rw [a1] at hq; exact absurd hq (Nat.not_lt_zero _)
  · rw [a2] at hq; exact absurd hq (Nat.not_lt_zero _)
theorem rdT_s0 {B : Nat → Int} {n p f : Nat} {S : TwS} (h : tK B n p = 0) : rdT B n f p S = .ok S := by
  cases f with
  | zero => rfl
  | succ f => rw [rdT, if_pos h]
theorem rdT_s1 {B : Nat → Int} {n p f : Nat} {S : TwS} (h : tK B n p ≠ 0) (hc : cls B n p = 99) : rdT B n (f + 1) p S = .error (1, tF B n p) := by
  rw [rdT, if_neg h, if_pos hc]
theorem rdT_s2 {B : Nat → Int} {n p f : Nat} {S : TwS} {e : ER} (h : tK B n p ≠ 0) (hc : cls B n p < 10) (hz : clu B n (cls B n p) p S = .error e) : rdT B n (f + 1) p S = .error e := by
  rw [rdT, if_neg h, if_neg (by omega)]
  unfold clu at hz
  by_cases ha : ahd (cls B n p) S ≠ 0
  · rw [if_pos ha] at hz ⊢; exact Except.error.inj hz ▸ rfl
  · rw [if_neg ha] at hz ⊢
    rw [clz_er hz]
theorem rdT_s3 {B : Nat → Int} {n p f p2 : Nat} {S S2 : TwS} {P2 : Nat → Int} (h : tK B n p ≠ 0) (hc : cls B n p < 10) (hz : clu B n (cls B n p) p S = .ok (S2, P2, p2)) (h3 : tK B n p2 ≠ 3) : rdT B n (f + 1) p S = .error (1, tF B n p2) := by
  rw [rdT, if_neg h, if_neg (by omega)]
  unfold clu at hz
  by_cases ha : ahd (cls B n p) S ≠ 0
  · rw [if_pos ha] at hz; exact absurd hz (by simp)
  · rw [if_neg ha] at hz ⊢
    rw [clz_go hz, if_pos h3]
theorem rdT_s4 {B : Nat → Int} {n p f p2 : Nat} {S S2 : TwS} {P2 : Nat → Int} (h : tK B n p ≠ 0) (hc : cls B n p < 10) (hz : clu B n (cls B n p) p S = .ok (S2, P2, p2)) (h3 : tK B n p2 = 3) : rdT B n (f + 1) p S = rdT B n f (tT B n p2) (tel (cls B n p) P2 S2) ∧ ahd (cls B n p) S = 0 ∧ clz B n (cls B n p) (tT B n p) S = .ok (S2, P2, p2) := by
  rw [rdT, if_neg h, if_neg (by omega)]
  unfold clu at hz
  by_cases ha : ahd (cls B n p) S ≠ 0
  · rw [if_pos ha] at hz; exact absurd hz (by simp)
  · rw [if_neg ha] at hz ⊢
    have e9 : clz B n (cls B n p) (tT B n p) S = .ok (S2, P2, p2) := by rw [clz_go hz, if_neg (by omega)]
    rw [e9]
    exact ⟨rfl, by omega, rfl⟩
theorem gdP_nm {ch : Nat} {v : Int} {S S2 : TwS} (h : gdP ch v S) (e : ∀ q, S2.1 0 q = S.1 0 q) : gdP ch v S2 := by
  unfold gdP at h ⊢
  rw [e 1, e 2]
  exact h
/-- what holds of a town goes on to hold -/
theorem PI_tel {c : Nat} {P : Nat → Int} {S : TwS} (hb : SBn S) (h : PI S) (hj : PJ S) (hc : c < 10) (hP : ∀ j, j < (SHP c).length → gdP ((SHP c).getD j 0) (P j) S) : PI (tel c P S) ∧ PJ (tel c P S) := by
  have hbb := hb
  unfold SBn at hbb
  have u68 : loB 68 = 0 ∧ hiB 68 = 6 := ⟨rfl, rfl⟩
  rcases (show c = 0 ∨ c = 1 ∨ c = 2 ∨ c = 3 ∨ c = 4 ∨ c = 5 ∨ c = 6 ∨ c = 7 ∨ c = 8 ∨ c = 9 by omega) with rfl | rfl | rfl | rfl | rfl | rfl | rfl | rfl | rfl | rfl
  · have g0 := (hP 0 (by decide)).2.2 (by decide)
    have g1 : 0 ≤ P 0 ∧ P 0 ≤ 6 := g0
    exact ⟨PI_t0 hb h, PJ_tel (by decide) (fun z => absurd z (by decide)) (fun _ => by omega) hj⟩
  · refine ⟨PI_t1 hb h, ?_⟩
    unfold PJ at hj ⊢
    simp [tel, pp]; exact hj
  · refine ⟨PI_t2 hb h, ?_⟩
    unfold PJ at hj ⊢
    simp only [tel]
    intro z
    have := hj z
    rw [if_neg (by simp [pp]; omega)]
    simp [pp]; exact this
  · have g0 := (hP 0 (by decide)).1 rfl
    have g1 : 0 ≤ P 1 ∧ P 1 ≤ 6 := (hP 1 (by decide)).2.2 (by decide)
    exact ⟨PI_t3 hb h g0 (by omega), PJ_tel (by decide) (fun z => absurd z (by decide)) (fun _ => by omega) hj⟩
  · have g0 := (hP 0 (by decide)).2.1 rfl
    have g1 : 0 ≤ P 1 ∧ P 1 ≤ 6 := (hP 1 (by decide)).2.2 (by decide)
    exact ⟨PI_t4 hb h g0 (by omega), PJ_tel (by decide) (fun z => absurd z (by decide)) (fun _ => by omega) hj⟩
  · have g0 := (hP 0 (by decide)).2.1 rfl
    have g1 : 0 ≤ P 1 ∧ P 1 ≤ 6 := (hP 1 (by decide)).2.2 (by decide)
    have g2 : 0 ≤ P 2 ∧ P 2 ≤ 999 := (hP 2 (by decide)).2.2 (by decide)
    exact ⟨PI_t5 hb h g0 (by omega) g2.1, PJ_tel (by decide) (fun z => absurd z (by decide)) (fun _ => by omega) hj⟩
  · have g0 := (hP 0 (by decide)).1 rfl
    have g1 := (hP 1 (by decide)).2.1 rfl
    have g2 : 0 ≤ P 2 ∧ P 2 ≤ 6 := (hP 2 (by decide)).2.2 (by decide)
    exact ⟨PI_t6 hb h g0 g1.1 (by omega), PJ_tel (by decide) (fun z => absurd z (by decide)) (fun _ => by omega) hj⟩
  · have g0 := (hP 0 (by decide)).1 rfl
    have g1 : 1 ≤ P 1 ∧ P 1 ≤ 127 := (hP 1 (by decide)).2.2 (by decide)
    exact ⟨PI_t7 hb h g0 g1.1, PJ_tel (by decide) (fun z => absurd z (by decide)) (fun _ => by omega) hj⟩
  · have g0 := (hP 0 (by decide)).1 rfl
    exact ⟨PI_t8 hb h g0.1, PJ_tel (by decide) (fun z => absurd z (by decide)) (fun _ => by omega) hj⟩
  · have g0 := (hP 0 (by decide)).2.1 rfl
    exact ⟨PI_t9 hb h, PJ_tel (by decide) (fun _ => g0.1) (fun z => absurd rfl z) hj⟩
set_option maxHeartbeats 4000000 in
set_option maxRecDepth 100000 in
theorem em_readTown {g : GG} {I : pI} {J : pJ} {R : pR} (hy : Ly g) (hr : Rf g R) {aK aV : Nat → Nat} {fo : Option Nat} (hz : HZ g aK aV fo) {B : Nat → Int} {n p : Nat} (j : Nat → Nat → Int)  (hT : TPM g B n I) (hC : CUM g B n p I) (hn : n ≤ 900) (hB : ∀ q, -128 ≤ B q ∧ B q ≤ 127) (hp : p ≤ n) (hp0 : p = 0) : SP g mX11_readTown [.ref (ad g 0)] I J R (fun r I' J' R' => R' = R ∧ FC g [0, 7, 14, 15, 16, 17, 18, 19, 27, 28, 29, 30, 31, 32, 33, 34] I I' ∧ FC g [4, 5] J J' ∧ FQ g [3, 4, 5, 6, 7, 8, 9, 15, 16, 17, 18, 19, 51] I I' ∧ ∃ v : Int32, r = some (.int v) ∧ ((v.toInt = 0 ∧ ERR g (town B n j) I') ∨ (v.toInt = 1 ∧ ∃ S2 : TwS, town B n j = .ok S2 ∧ RTM g S2 I' J' ∧ PI S2 ∧ PJ S2 ∧ SBn S2 ∧ (I' (ad g 0) 19).toInt = S2.1 0 0 ∧ NOF g I I'))) := by
  refine SP_of ⟨by decide, rfl⟩ (Nat.le_of_ble_eq_true rfl) ?_
  have fI0 : FC g [0, 7, 14, 15, 16, 17, 18, 19, 27, 28, 29, 30, 31, 32, 33, 34] I I := FC_rf
  have fJ0 : FC g [4, 5] J J := FC_rf
  have fQ0 : FQ g [3, 4, 5, 6, 7, 8, 9, 15, 16, 17, 18, 19, 51] I I := FQ_rf
  obtain ⟨w2816, ew2816⟩ : ∃ w : Int32, I (ad g 0) 3 = w := ⟨_, rfl⟩
  obtain ⟨w2817, ew2817⟩ : ∃ w : Int32, I (ad g 0) 5 = w := ⟨_, rfl⟩
  obtain ⟨w2818, ew2818⟩ : ∃ w : Int32, I (ad g 0) 8 = w := ⟨_, rfl⟩
  obtain ⟨w2819, ew2819⟩ : ∃ w : Int32, I (ad g 0) 9 = w := ⟨_, rfl⟩
  obtain ⟨w2820, ew2820⟩ : ∃ w : Int32, I (ad g 0) 15 = w := ⟨_, rfl⟩
  obtain ⟨w2821, ew2821⟩ : ∃ w : Int32, I (ad g 0) 16 = w := ⟨_, rfl⟩
  obtain ⟨w2822, ew2822⟩ : ∃ w : Int32, I (ad g 0) 17 = w := ⟨_, rfl⟩
  obtain ⟨w2823, ew2823⟩ : ∃ w : Int32, I (ad g 0) 18 = w := ⟨_, rfl⟩
  obtain ⟨w2824, ew2824⟩ : ∃ w : Int32, I (ad g 0) 19 = w := ⟨_, rfl⟩
  obtain ⟨w2825, ew2825⟩ : ∃ w : Int32, I (ad g 0) 51 = w := ⟨_, rfl⟩
  refine WP_aload_n dX11_readTown_0 rfl ?_
  refine WQ_iconst (0) (0) dX11_readTown_1 rfl rfl (fun v2826 hv2826 => ?_)
  refine WQ_puti dX11_readTown_2 fX11_88 rfl rfl (ly_is hy 0 11 rfl) (fun I2827 eI2827 => ?_)
  have e2828 : I2827 (ad g 0) 3 = w2816 := by rw [eI2827, pp_ne _ _ (Or.inr (by decide))]; exact ew2816
  have e2829 : I2827 (ad g 0) 5 = w2817 := by rw [eI2827, pp_ne _ _ (Or.inr (by decide))]; exact ew2817
  have e2830 : I2827 (ad g 0) 8 = w2818 := by rw [eI2827, pp_ne _ _ (Or.inr (by decide))]; exact ew2818
  have e2831 : I2827 (ad g 0) 9 = w2819 := by rw [eI2827, pp_ne _ _ (Or.inr (by decide))]; exact ew2819
  have e2832 : I2827 (ad g 0) 16 = w2821 := by rw [eI2827, pp_ne _ _ (Or.inr (by decide))]; exact ew2821
  have e2833 : I2827 (ad g 0) 17 = w2822 := by rw [eI2827, pp_ne _ _ (Or.inr (by decide))]; exact ew2822
  have e2834 : I2827 (ad g 0) 18 = w2823 := by rw [eI2827, pp_ne _ _ (Or.inr (by decide))]; exact ew2823
  have e2835 : I2827 (ad g 0) 19 = w2824 := by rw [eI2827, pp_ne _ _ (Or.inr (by decide))]; exact ew2824
  have e2836 : I2827 (ad g 0) 51 = w2825 := by rw [eI2827, pp_ne _ _ (Or.inr (by decide))]; exact ew2825
  have e2837 : I2827 (ad g 0) 15 = v2826 := by rw [eI2827, pp_self]
  have fI2838 : FC g [0, 7, 14, 15, 16, 17, 18, 19, 27, 28, 29, 30, 31, 32, 33, 34] I I2827 := by rw [eI2827]; exact FC_pp fI0 (by decide)
  have fQ2839 : FQ g [3, 4, 5, 6, 7, 8, 9, 15, 16, 17, 18, 19, 51] I I2827 := by rw [eI2827]; exact FQ_pp0 fQ0 (by decide)
  refine WP_aload_n dX11_readTown_5 rfl ?_
  refine WQ_iconst (0) (0) dX11_readTown_6 rfl rfl (fun v2840 hv2840 => ?_)
  refine WQ_puti dX11_readTown_7 fX11_126 rfl rfl (ly_is hy 0 11 rfl) (fun I2841 eI2841 => ?_)
  have e2842 : I2841 (ad g 0) 3 = w2816 := by rw [eI2841, pp_ne _ _ (Or.inr (by decide))]; exact e2828
  have e2843 : I2841 (ad g 0) 5 = w2817 := by rw [eI2841, pp_ne _ _ (Or.inr (by decide))]; exact e2829
  have e2844 : I2841 (ad g 0) 8 = w2818 := by rw [eI2841, pp_ne _ _ (Or.inr (by decide))]; exact e2830
  have e2845 : I2841 (ad g 0) 9 = w2819 := by rw [eI2841, pp_ne _ _ (Or.inr (by decide))]; exact e2831
  have e2846 : I2841 (ad g 0) 17 = w2822 := by rw [eI2841, pp_ne _ _ (Or.inr (by decide))]; exact e2833
  have e2847 : I2841 (ad g 0) 18 = w2823 := by rw [eI2841, pp_ne _ _ (Or.inr (by decide))]; exact e2834
  have e2848 : I2841 (ad g 0) 19 = w2824 := by rw [eI2841, pp_ne _ _ (Or.inr (by decide))]; exact e2835
  have e2849 : I2841 (ad g 0) 51 = w2825 := by rw [eI2841, pp_ne _ _ (Or.inr (by decide))]; exact e2836
  have e2850 : I2841 (ad g 0) 15 = v2826 := by rw [eI2841, pp_ne _ _ (Or.inr (by decide))]; exact e2837
  have e2851 : I2841 (ad g 0) 16 = v2840 := by rw [eI2841, pp_self]
  have fI2852 : FC g [0, 7, 14, 15, 16, 17, 18, 19, 27, 28, 29, 30, 31, 32, 33, 34] I I2841 := by rw [eI2841]; exact FC_pp fI2838 (by decide)
  have fQ2853 : FQ g [3, 4, 5, 6, 7, 8, 9, 15, 16, 17, 18, 19, 51] I I2841 := by rw [eI2841]; exact FQ_pp0 fQ2839 (by decide)
  refine WP_aload_n dX11_readTown_10 rfl ?_
  refine WQ_iconst (-1) (-1) dX11_readTown_11 rfl rfl (fun v2854 hv2854 => ?_)
  refine WQ_puti dX11_readTown_12 fX11_158 rfl rfl (ly_is hy 0 11 rfl) (fun I2855 eI2855 => ?_)
  have e2856 : I2855 (ad g 0) 3 = w2816 := by rw [eI2855, pp_ne _ _ (Or.inr (by decide))]; exact e2842
  have e2857 : I2855 (ad g 0) 5 = w2817 := by rw [eI2855, pp_ne _ _ (Or.inr (by decide))]; exact e2843
  have e2858 : I2855 (ad g 0) 8 = w2818 := by rw [eI2855, pp_ne _ _ (Or.inr (by decide))]; exact e2844
  have e2859 : I2855 (ad g 0) 9 = w2819 := by rw [eI2855, pp_ne _ _ (Or.inr (by decide))]; exact e2845
  have e2860 : I2855 (ad g 0) 18 = w2823 := by rw [eI2855, pp_ne _ _ (Or.inr (by decide))]; exact e2847
  have e2861 : I2855 (ad g 0) 19 = w2824 := by rw [eI2855, pp_ne _ _ (Or.inr (by decide))]; exact e2848
  have e2862 : I2855 (ad g 0) 51 = w2825 := by rw [eI2855, pp_ne _ _ (Or.inr (by decide))]; exact e2849
  have e2863 : I2855 (ad g 0) 15 = v2826 := by rw [eI2855, pp_ne _ _ (Or.inr (by decide))]; exact e2850
  have e2864 : I2855 (ad g 0) 16 = v2840 := by rw [eI2855, pp_ne _ _ (Or.inr (by decide))]; exact e2851
  have e2865 : I2855 (ad g 0) 17 = v2854 := by rw [eI2855, pp_self]
  have fI2866 : FC g [0, 7, 14, 15, 16, 17, 18, 19, 27, 28, 29, 30, 31, 32, 33, 34] I I2855 := by rw [eI2855]; exact FC_pp fI2852 (by decide)
  have fQ2867 : FQ g [3, 4, 5, 6, 7, 8, 9, 15, 16, 17, 18, 19, 51] I I2855 := by rw [eI2855]; exact FQ_pp0 fQ2853 (by decide)
  refine WP_aload_n dX11_readTown_15 rfl ?_
  refine WQ_iconst (-1) (-1) dX11_readTown_16 rfl rfl (fun v2868 hv2868 => ?_)
  refine WQ_puti dX11_readTown_17 fX11_161 rfl rfl (ly_is hy 0 11 rfl) (fun I2869 eI2869 => ?_)
  have e2870 : I2869 (ad g 0) 3 = w2816 := by rw [eI2869, pp_ne _ _ (Or.inr (by decide))]; exact e2856
  have e2871 : I2869 (ad g 0) 5 = w2817 := by rw [eI2869, pp_ne _ _ (Or.inr (by decide))]; exact e2857
  have e2872 : I2869 (ad g 0) 8 = w2818 := by rw [eI2869, pp_ne _ _ (Or.inr (by decide))]; exact e2858
  have e2873 : I2869 (ad g 0) 9 = w2819 := by rw [eI2869, pp_ne _ _ (Or.inr (by decide))]; exact e2859
  have e2874 : I2869 (ad g 0) 19 = w2824 := by rw [eI2869, pp_ne _ _ (Or.inr (by decide))]; exact e2861
  have e2875 : I2869 (ad g 0) 51 = w2825 := by rw [eI2869, pp_ne _ _ (Or.inr (by decide))]; exact e2862
  have e2876 : I2869 (ad g 0) 15 = v2826 := by rw [eI2869, pp_ne _ _ (Or.inr (by decide))]; exact e2863
  have e2877 : I2869 (ad g 0) 16 = v2840 := by rw [eI2869, pp_ne _ _ (Or.inr (by decide))]; exact e2864
  have e2878 : I2869 (ad g 0) 17 = v2854 := by rw [eI2869, pp_ne _ _ (Or.inr (by decide))]; exact e2865
  have e2879 : I2869 (ad g 0) 18 = v2868 := by rw [eI2869, pp_self]
  have fI2880 : FC g [0, 7, 14, 15, 16, 17, 18, 19, 27, 28, 29, 30, 31, 32, 33, 34] I I2869 := by rw [eI2869]; exact FC_pp fI2866 (by decide)
  have fQ2881 : FQ g [3, 4, 5, 6, 7, 8, 9, 15, 16, 17, 18, 19, 51] I I2869 := by rw [eI2869]; exact FQ_pp0 fQ2867 (by decide)
  refine WP_aload_n dX11_readTown_20 rfl ?_
  refine WQ_iconst (0) (0) dX11_readTown_21 rfl rfl (fun v2882 hv2882 => ?_)
  refine WQ_puti dX11_readTown_22 fX11_78 rfl rfl (ly_is hy 0 11 rfl) (fun I2883 eI2883 => ?_)
  have e2884 : I2883 (ad g 0) 3 = w2816 := by rw [eI2883, pp_ne _ _ (Or.inr (by decide))]; exact e2870
  have e2885 : I2883 (ad g 0) 5 = w2817 := by rw [eI2883, pp_ne _ _ (Or.inr (by decide))]; exact e2871
  have e2886 : I2883 (ad g 0) 8 = w2818 := by rw [eI2883, pp_ne _ _ (Or.inr (by decide))]; exact e2872
  have e2887 : I2883 (ad g 0) 9 = w2819 := by rw [eI2883, pp_ne _ _ (Or.inr (by decide))]; exact e2873
  have e2888 : I2883 (ad g 0) 19 = w2824 := by rw [eI2883, pp_ne _ _ (Or.inr (by decide))]; exact e2874
  have e2889 : I2883 (ad g 0) 15 = v2826 := by rw [eI2883, pp_ne _ _ (Or.inr (by decide))]; exact e2876
  have e2890 : I2883 (ad g 0) 16 = v2840 := by rw [eI2883, pp_ne _ _ (Or.inr (by decide))]; exact e2877
  have e2891 : I2883 (ad g 0) 17 = v2854 := by rw [eI2883, pp_ne _ _ (Or.inr (by decide))]; exact e2878
  have e2892 : I2883 (ad g 0) 18 = v2868 := by rw [eI2883, pp_ne _ _ (Or.inr (by decide))]; exact e2879
  have e2893 : I2883 (ad g 0) 51 = v2882 := by rw [eI2883, pp_self]
  have fI2894 : FC g [0, 7, 14, 15, 16, 17, 18, 19, 27, 28, 29, 30, 31, 32, 33, 34] I I2883 := by rw [eI2883]; exact FC_pp fI2880 (by decide)
  have fQ2895 : FQ g [3, 4, 5, 6, 7, 8, 9, 15, 16, 17, 18, 19, 51] I I2883 := by rw [eI2883]; exact FQ_pp0 fQ2881 (by decide)
  refine WP_aload_n dX11_readTown_25 rfl ?_
  refine WQ_iconst (0) (0) dX11_readTown_26 rfl rfl (fun v2896 hv2896 => ?_)
  refine WQ_puti dX11_readTown_27 fX11_207 rfl rfl (ly_is hy 0 11 rfl) (fun I2897 eI2897 => ?_)
  have e2898 : I2897 (ad g 0) 3 = w2816 := by rw [eI2897, pp_ne _ _ (Or.inr (by decide))]; exact e2884
  have e2899 : I2897 (ad g 0) 5 = w2817 := by rw [eI2897, pp_ne _ _ (Or.inr (by decide))]; exact e2885
  have e2900 : I2897 (ad g 0) 8 = w2818 := by rw [eI2897, pp_ne _ _ (Or.inr (by decide))]; exact e2886
  have e2901 : I2897 (ad g 0) 9 = w2819 := by rw [eI2897, pp_ne _ _ (Or.inr (by decide))]; exact e2887
  have e2902 : I2897 (ad g 0) 15 = v2826 := by rw [eI2897, pp_ne _ _ (Or.inr (by decide))]; exact e2889
  have e2903 : I2897 (ad g 0) 16 = v2840 := by rw [eI2897, pp_ne _ _ (Or.inr (by decide))]; exact e2890
  have e2904 : I2897 (ad g 0) 17 = v2854 := by rw [eI2897, pp_ne _ _ (Or.inr (by decide))]; exact e2891
  have e2905 : I2897 (ad g 0) 18 = v2868 := by rw [eI2897, pp_ne _ _ (Or.inr (by decide))]; exact e2892
  have e2906 : I2897 (ad g 0) 51 = v2882 := by rw [eI2897, pp_ne _ _ (Or.inr (by decide))]; exact e2893
  have e2907 : I2897 (ad g 0) 19 = v2896 := by rw [eI2897, pp_self]
  have fI2908 : FC g [0, 7, 14, 15, 16, 17, 18, 19, 27, 28, 29, 30, 31, 32, 33, 34] I I2897 := by rw [eI2897]; exact FC_pp fI2894 (by decide)
  have fQ2909 : FQ g [3, 4, 5, 6, 7, 8, 9, 15, 16, 17, 18, 19, 51] I I2897 := by rw [eI2897]; exact FQ_pp0 fQ2895 (by decide)
  refine WQ_iconst (0) (0) dX11_readTown_30 rfl rfl (fun v2910 hv2910 => ?_)
  refine WP_istore_n (ls' := [(0, _), (1, _)]) dX11_readTown_31 (by decide) rfl ?_
  have hTa : TPM g B n I2897 := ⟨by rw [fQ2909 2 (by decide)]; exact hT.1, fun q hq => by rw [FC_at hy fI2908 1 (by decide) (by decide)]; exact hT.2 q hq⟩
  have hCa : CUM g B n p I2897 := by
    unfold CUM
    rw [eI2897, pp_ne _ _ (Or.inr (show (3 : Nat) ≠ 19 by decide)), pp_ne _ _ (Or.inr (show (4 : Nat) ≠ 19 by decide)), pp_ne _ _ (Or.inr (show (5 : Nat) ≠ 19 by decide)), pp_ne _ _ (Or.inr (show (6 : Nat) ≠ 19 by decide)), eI2883, pp_ne _ _ (Or.inr (show (3 : Nat) ≠ 51 by decide)), pp_ne _ _ (Or.inr (show (4 : Nat) ≠ 51 by decide)), pp_ne _ _ (Or.inr (show (5 : Nat) ≠ 51 by decide)), pp_ne _ _ (Or.inr (show (6 : Nat) ≠ 51 by decide)), eI2869, pp_ne _ _ (Or.inr (show (3 : Nat) ≠ 18 by decide)), pp_ne _ _ (Or.inr (show (4 : Nat) ≠ 18 by decide)), pp_ne _ _ (Or.inr (show (5 : Nat) ≠ 18 by decide)), pp_ne _ _ (Or.inr (show (6 : Nat) ≠ 18 by decide)), eI2855, pp_ne _ _ (Or.inr (show (3 : Nat) ≠ 17 by decide)), pp_ne _ _ (Or.inr (show (4 : Nat) ≠ 17 by decide)), pp_ne _ _ (Or.inr (show (5 : Nat) ≠ 17 by decide)), pp_ne _ _ (Or.inr (show (6 : Nat) ≠ 17 by decide)), eI2841, pp_ne _ _ (Or.inr (show (3 : Nat) ≠ 16 by decide)), pp_ne _ _ (Or.inr (show (4 : Nat) ≠ 16 by decide)), pp_ne _ _ (Or.inr (show (5 : Nat) ≠ 16 by decide)), pp_ne _ _ (Or.inr (show (6 : Nat) ≠ 16 by decide)), eI2827, pp_ne _ _ (Or.inr (show (3 : Nat) ≠ 15 by decide)), pp_ne _ _ (Or.inr (show (4 : Nat) ≠ 15 by decide)), pp_ne _ _ (Or.inr (show (5 : Nat) ≠ 15 by decide)), pp_ne _ _ (Or.inr (show (6 : Nat) ≠ 15 by decide))]
    exact hC
  have nfa : NOF g I I2897 := by
    unfold NOF
    rw [eI2897, pp_ne _ _ (Or.inr (show (8 : Nat) ≠ 19 by decide)), pp_ne _ _ (Or.inr (show (9 : Nat) ≠ 19 by decide)), eI2883, pp_ne _ _ (Or.inr (show (8 : Nat) ≠ 51 by decide)), pp_ne _ _ (Or.inr (show (9 : Nat) ≠ 51 by decide)), eI2869, pp_ne _ _ (Or.inr (show (8 : Nat) ≠ 18 by decide)), pp_ne _ _ (Or.inr (show (9 : Nat) ≠ 18 by decide)), eI2855, pp_ne _ _ (Or.inr (show (8 : Nat) ≠ 17 by decide)), pp_ne _ _ (Or.inr (show (9 : Nat) ≠ 17 by decide)), eI2841, pp_ne _ _ (Or.inr (show (8 : Nat) ≠ 16 by decide)), pp_ne _ _ (Or.inr (show (9 : Nat) ≠ 16 by decide)), eI2827, pp_ne _ _ (Or.inr (show (8 : Nat) ≠ 15 by decide)), pp_ne _ _ (Or.inr (show (9 : Nat) ≠ 15 by decide))]
    exact ⟨rfl, rfl⟩
  have hv15 : (I2897 (ad g 0) 15).toInt = 0 := by rw [e2902]; omega
  have hv16 : (I2897 (ad g 0) 16).toInt = 0 := by rw [e2903]; omega
  have hv17 : (I2897 (ad g 0) 17).toInt = -1 := by rw [e2904]; omega
  have hv18 : (I2897 (ad g 0) 18).toInt = -1 := by rw [e2905]; omega
  have hv19 : (I2897 (ad g 0) 19).toInt = 0 := by rw [e2907]; omega
  have hv51 : (I2897 (ad g 0) 51).toInt = 0 := by rw [e2906]; omega
  have lp2915 : ∀ (mz : Nat) (i2911 : Int32) (I2912 : pI), FC g [0, 7, 14, 15, 16, 17, 18, 19, 27, 28, 29, 30, 31, 32, 33, 34] I I2912 → FQ g [3, 4, 5, 6, 7, 8, 9, 15, 16, 17, 18, 19, 51] I I2912 → (∃ d : Nat, i2911.toInt = (d : Int) ∧ d ≤ 7 ∧ FC g [7] I2897 I2912 ∧ (∀ q, q < d → (I2912 (ad g 7) q).toInt = 0)) → (8 - i2911.toInt.toNat) < mz → WP g mX11_readTown 32 [(0, .ref (ad g 0)), (1, .int i2911)] [] I2912 J R (fun r I' J' R' => R' = R ∧ FC g [0, 7, 14, 15, 16, 17, 18, 19, 27, 28, 29, 30, 31, 32, 33, 34] I I' ∧ FC g [4, 5] J J' ∧ FQ g [3, 4, 5, 6, 7, 8, 9, 15, 16, 17, 18, 19, 51] I I' ∧ ∃ v : Int32, r = some (.int v) ∧ ((v.toInt = 0 ∧ ERR g (town B n j) I') ∨ (v.toInt = 1 ∧ ∃ S2 : TwS, town B n j = .ok S2 ∧ RTM g S2 I' J' ∧ PI S2 ∧ PJ S2 ∧ SBn S2 ∧ (I' (ad g 0) 19).toInt = S2.1 0 0 ∧ NOF g I I'))) := by
    intro mz
    induction mz with
    | zero =>
      intro i2911 I2912 fI2913 fQ2914 hvlp2915 hmlp2915
      exact absurd hmlp2915 (Nat.not_lt_zero _)
    | succ mz ihlp2915 =>
      intro i2911 I2912 fI2913 fQ2914 hvlp2915 hmlp2915
      obtain ⟨w2916, ew2916⟩ : ∃ w : Int32, I2912 (ad g 0) 3 = w := ⟨_, rfl⟩
      obtain ⟨w2917, ew2917⟩ : ∃ w : Int32, I2912 (ad g 0) 5 = w := ⟨_, rfl⟩
      obtain ⟨w2918, ew2918⟩ : ∃ w : Int32, I2912 (ad g 0) 8 = w := ⟨_, rfl⟩
      obtain ⟨w2919, ew2919⟩ : ∃ w : Int32, I2912 (ad g 0) 9 = w := ⟨_, rfl⟩
      obtain ⟨w2920, ew2920⟩ : ∃ w : Int32, I2912 (ad g 0) 15 = w := ⟨_, rfl⟩
      obtain ⟨w2921, ew2921⟩ : ∃ w : Int32, I2912 (ad g 0) 16 = w := ⟨_, rfl⟩
      obtain ⟨w2922, ew2922⟩ : ∃ w : Int32, I2912 (ad g 0) 17 = w := ⟨_, rfl⟩
      obtain ⟨w2923, ew2923⟩ : ∃ w : Int32, I2912 (ad g 0) 18 = w := ⟨_, rfl⟩
      obtain ⟨w2924, ew2924⟩ : ∃ w : Int32, I2912 (ad g 0) 19 = w := ⟨_, rfl⟩
      obtain ⟨w2925, ew2925⟩ : ∃ w : Int32, I2912 (ad g 0) 51 = w := ⟨_, rfl⟩
      try simp only [ew2916, ew2917, ew2918, ew2919, ew2920, ew2921, ew2922, ew2923, ew2924, ew2925, ew2816, ew2817, ew2818, ew2819, ew2820, ew2821, ew2822, ew2823, ew2824, ew2825] at hvlp2915 hmlp2915
      obtain ⟨d, id, id7, iF, i7⟩ := hvlp2915
      refine WP_iload_n dX11_readTown_32 rfl ?_
      refine WQ_bipush (7) (7) dX11_readTown_33 rfl rfl (fun v2926 hv2926 => ?_)
      refine WQ_icmp_ge 51 dX11_readTown_35 rfl (fun c2926 => ?_) (fun c2926 => ?_)
      · have z0 := FC_at hy iF 0 (by decide) (by decide)
        have hRa : RTM g (S0 j) I2912 J := RTM_0 j (by rw [z0]; exact hv15) (by rw [z0]; exact hv16) (by rw [z0]; exact hv17) (by rw [z0]; exact hv18) (by rw [z0]; exact hv51) (fun q hq => i7 q (by omega))
        have lp2933 : ∀ (mz : Nat)  (I2928 : pI) (J2931 : pJ), FC g [0, 7, 14, 15, 16, 17, 18, 19, 27, 28, 29, 30, 31, 32, 33, 34] I I2928 → FQ g [3, 4, 5, 6, 7, 8, 9, 15, 16, 17, 18, 19, 51] I I2928 → FC g [4, 5] J J2931 → (∃ (p1 f : Nat) (S1 : TwS), p1 ≤ n ∧ n - p1 < f ∧ TPM g B n I2928 ∧ CUM g B n p1 I2928 ∧ RTM g S1 I2928 J2931 ∧ PI S1 ∧ PJ S1 ∧ SBn S1 ∧ (I2928 (ad g 0) 19).toInt = S1.1 0 0 ∧ 0 ≤ S1.1 0 0 ∧ S1.1 0 0 + (n - p1) ≤ 1000 ∧ rdT B n f p1 S1 = town B n j ∧ NOF g I I2928) → (n - (I2928 (ad g 0) 4).toInt.toNat) < mz → WP g mX11_readTown 51 [(0, .ref (ad g 0)), (1, .int i2911)] [] I2928 J2931 R (fun r I' J' R' => R' = R ∧ FC g [0, 7, 14, 15, 16, 17, 18, 19, 27, 28, 29, 30, 31, 32, 33, 34] I I' ∧ FC g [4, 5] J J' ∧ FQ g [3, 4, 5, 6, 7, 8, 9, 15, 16, 17, 18, 19, 51] I I' ∧ ∃ v : Int32, r = some (.int v) ∧ ((v.toInt = 0 ∧ ERR g (town B n j) I') ∨ (v.toInt = 1 ∧ ∃ S2 : TwS, town B n j = .ok S2 ∧ RTM g S2 I' J' ∧ PI S2 ∧ PJ S2 ∧ SBn S2 ∧ (I' (ad g 0) 19).toInt = S2.1 0 0 ∧ NOF g I I'))) := by
          intro mz
          induction mz with
          | zero =>
            intro  I2928 J2931 fI2929 fQ2930 fJ2932 hvlp2933 hmlp2933
            exact absurd hmlp2933 (Nat.not_lt_zero _)
          | succ mz ihlp2933 =>
            intro  I2928 J2931 fI2929 fQ2930 fJ2932 hvlp2933 hmlp2933
            obtain ⟨w2934, ew2934⟩ : ∃ w : Int32, I2928 (ad g 0) 3 = w := ⟨_, rfl⟩
            obtain ⟨w2935, ew2935⟩ : ∃ w : Int32, I2928 (ad g 0) 5 = w := ⟨_, rfl⟩
            obtain ⟨w2936, ew2936⟩ : ∃ w : Int32, I2928 (ad g 0) 8 = w := ⟨_, rfl⟩
            obtain ⟨w2937, ew2937⟩ : ∃ w : Int32, I2928 (ad g 0) 9 = w := ⟨_, rfl⟩
            obtain ⟨w2938, ew2938⟩ : ∃ w : Int32, I2928 (ad g 0) 15 = w := ⟨_, rfl⟩
            obtain ⟨w2939, ew2939⟩ : ∃ w : Int32, I2928 (ad g 0) 16 = w := ⟨_, rfl⟩
            obtain ⟨w2940, ew2940⟩ : ∃ w : Int32, I2928 (ad g 0) 17 = w := ⟨_, rfl⟩
            obtain ⟨w2941, ew2941⟩ : ∃ w : Int32, I2928 (ad g 0) 18 = w := ⟨_, rfl⟩
            obtain ⟨w2942, ew2942⟩ : ∃ w : Int32, I2928 (ad g 0) 19 = w := ⟨_, rfl⟩
            obtain ⟨w2943, ew2943⟩ : ∃ w : Int32, I2928 (ad g 0) 51 = w := ⟨_, rfl⟩
            try simp only [ew2934, ew2935, ew2936, ew2937, ew2938, ew2939, ew2940, ew2941, ew2942, ew2943, ew2816, ew2817, ew2818, ew2819, ew2820, ew2821, ew2822, ew2823, ew2824, ew2825] at hvlp2933 hmlp2933
            obtain ⟨p1, f, S1, ip, ifl, iT, iC, iR, iI, iJ, iB, i19, i0, i00, iE, iN⟩ := hvlp2933
            have c5 := iC.2.2.1
            simp only [ew2935] at c5
            have c4 := iC.2.1
            refine WP_aload_n dX11_readTown_51 rfl ?_
            refine WQ_getim dX11_readTown_52 fX11_27 rfl (ly_is hy 0 11 rfl) ew2935 ?_
            refine WQ_if_eq 87 dX11_readTown_55 rfl (fun c2943 => ?_) (fun c2943 => ?_)
            · refine WQ_iconst (1) (1) dX11_readTown_87 rfl rfl (fun v2945 hv2945 => ?_)
              exact WP_zret dX11_readTown_88 rfl (nar_z (by omega)) ⟨rfl, fI2929, fJ2932, fQ2930, v2945, rfl, by
                try simp only [ew2934, ew2935, ew2936, ew2937, ew2938, ew2939, ew2940, ew2941, ew2942, ew2943, ew2816, ew2817, ew2818, ew2819, ew2820, ew2821, ew2822, ew2823, ew2824, ew2825]
                exact Or.inr ⟨by omega, S1, by rw [← iE]; exact rdT_s0 (by omega), iR, iI, iJ, iB, by omega, iN⟩⟩
            · have hk0 : tK B n p1 ≠ 0 := by omega
              obtain ⟨f9, hf9⟩ : ∃ f9, f = f9 + 1 := ⟨f - 1, by omega⟩
              subst hf9
              have adv := tok_adv ip hk0
              refine WP_aload_n dX11_readTown_58 rfl ?_
              refine WP_callV0 (k := 11) dX11_readTown_59 ⟨⟨⟨by decide, by decide⟩, zX11_readClause⟩, lX11_210, by decide, rfl, vX11_readClause.1, vX11_readClause.2⟩ (ly_is hy 0 11 rfl) (em_readClause hy hr hz   iT iC hn hB ip iR iI iB iJ) (Nat.le_of_ble_eq_true rfl) ?_
              intro r I2948 J2949 Ra hq
              obtain ⟨ec, g2950, g2951, g2952, v2947, er, p2946⟩ := hq
              rw [ec, er]
              clear ec er Ra r
              have e2953 : I2948 (ad g 0) 19 = w2942 := by rw [g2952 19 (by decide)]; exact ew2942
              have fI2954 : FC g [0, 7, 14, 15, 16, 17, 18, 19, 27, 28, 29, 30, 31, 32, 33, 34] I I2948 := FC_tr fI2929 (FC_mono g2950 (by decide))
              have fJ2955 : FC g [4, 5] J J2949 := FC_tr fJ2932 (FC_mono g2951 (by decide))
              have fQ2956 : FQ g [3, 4, 5, 6, 7, 8, 9, 15, 16, 17, 18, 19, 51] I I2948 := FQ_tr fQ2930 (FQ_mono g2952 (by decide))
              obtain ⟨w2957, ew2957⟩ : ∃ w : Int32, I2948 (ad g 0) 3 = w := ⟨_, rfl⟩
              obtain ⟨w2958, ew2958⟩ : ∃ w : Int32, I2948 (ad g 0) 5 = w := ⟨_, rfl⟩
              obtain ⟨w2959, ew2959⟩ : ∃ w : Int32, I2948 (ad g 0) 8 = w := ⟨_, rfl⟩
              obtain ⟨w2960, ew2960⟩ : ∃ w : Int32, I2948 (ad g 0) 9 = w := ⟨_, rfl⟩
              obtain ⟨w2961, ew2961⟩ : ∃ w : Int32, I2948 (ad g 0) 15 = w := ⟨_, rfl⟩
              obtain ⟨w2962, ew2962⟩ : ∃ w : Int32, I2948 (ad g 0) 16 = w := ⟨_, rfl⟩
              obtain ⟨w2963, ew2963⟩ : ∃ w : Int32, I2948 (ad g 0) 17 = w := ⟨_, rfl⟩
              obtain ⟨w2964, ew2964⟩ : ∃ w : Int32, I2948 (ad g 0) 18 = w := ⟨_, rfl⟩
              obtain ⟨w2965, ew2965⟩ : ∃ w : Int32, I2948 (ad g 0) 51 = w := ⟨_, rfl⟩
              try simp only [ew2957, ew2958, ew2959, ew2960, ew2961, ew2962, ew2963, ew2964, e2953, ew2965, ew2816, ew2817, ew2818, ew2819, ew2820, ew2821, ew2822, ew2823, ew2824, ew2825] at p2946
              refine WQ_if_eq 72 dX11_readTown_62 rfl (fun c2965 => ?_) (fun c2965 => ?_)
              · refine WQ_iconst (0) (0) dX11_readTown_72 rfl rfl (fun v2967 hv2967 => ?_)
                exact WP_zret dX11_readTown_73 rfl (nar_z (by omega)) ⟨rfl, fI2954, fJ2955, fQ2956, v2967, rfl, by
                  try simp only [e2953, ew2957, ew2958, ew2959, ew2960, ew2961, ew2962, ew2963, ew2964, ew2965, ew2816, ew2817, ew2818, ew2819, ew2820, ew2821, ew2822, ew2823, ew2824, ew2825]
                  rcases p2946 with ⟨h99, -, e⟩ | ⟨hcl, ⟨-, e⟩ | ⟨z, -⟩⟩
                  · exact Or.inl ⟨by omega, 1, tF B n p1, by rw [← iE]; exact rdT_s1 (by omega) h99, e⟩
                  · obtain ⟨k, pl, e1, e2⟩ := e
                    exact Or.inl ⟨by omega, k, pl, by rw [← iE]; exact rdT_s2 (by omega) hcl e1, e2⟩
                  · exact absurd z (by omega)⟩
              · obtain ⟨hcl, hz0⟩ := Or.resolve_left p2946 (by rintro ⟨-, z, -⟩; omega)
                obtain ⟨-, S2, P2, p2, hcz, hR2, hT2, hC2, nz⟩ := Or.resolve_left hz0 (by rintro ⟨z, -⟩; omega)
                clear hz0 p2946
                have hp2 : p2 ≤ n := by
                  unfold clu at hcz
                  by_cases ha : ahd (cls B n p1) S1 ≠ 0
                  · rw [if_pos ha] at hcz; exact absurd hcz (by simp)
                  · rw [if_neg ha] at hcz
                    exact (prts_ok _ _ _ _ _ _ _ _ iB (tT_le B ip).2 (SHP_ch _ (by omega)) hcz).2.2.2.2.2.2
                refine WP_aload_n dX11_readTown_65 rfl ?_
                refine WP_callV0 (k := 11) dX11_readTown_66 ⟨⟨⟨by decide, by decide⟩, zX11_close⟩, lX11_213, by decide, rfl, vX11_close.1, vX11_close.2⟩ (ly_is hy 0 11 rfl) (em_close hy hr   hT2 hC2 hn hB hp2) (Nat.le_of_ble_eq_true rfl) ?_
                intro r I2970 J2971 Ra hq
                obtain ⟨ec, g2972, g2973, g2974, v2969, er, p2968⟩ := hq
                rw [ec, er]
                clear ec er Ra r
                have e2975 : I2970 (ad g 0) 19 = w2942 := by rw [g2974 19 (by decide)]; exact e2953
                have e2976 : I2970 (ad g 0) 15 = w2961 := by rw [g2974 15 (by decide)]; exact ew2961
                have e2977 : I2970 (ad g 0) 16 = w2962 := by rw [g2974 16 (by decide)]; exact ew2962
                have e2978 : I2970 (ad g 0) 17 = w2963 := by rw [g2974 17 (by decide)]; exact ew2963
                have e2979 : I2970 (ad g 0) 18 = w2964 := by rw [g2974 18 (by decide)]; exact ew2964
                have e2980 : I2970 (ad g 0) 51 = w2965 := by rw [g2974 51 (by decide)]; exact ew2965
                have fI2981 : FC g [0, 7, 14, 15, 16, 17, 18, 19, 27, 28, 29, 30, 31, 32, 33, 34] I I2970 := FC_tr fI2954 (FC_mono g2972 (by decide))
                have fJ2982 : FC g [4, 5] J J2971 := FC_tr fJ2955 (FC_mono g2973 (by decide))
                have fQ2983 : FQ g [3, 4, 5, 6, 7, 8, 9, 15, 16, 17, 18, 19, 51] I I2970 := FQ_tr fQ2956 (FQ_mono g2974 (by decide))
                obtain ⟨w2984, ew2984⟩ : ∃ w : Int32, I2970 (ad g 0) 3 = w := ⟨_, rfl⟩
                obtain ⟨w2985, ew2985⟩ : ∃ w : Int32, I2970 (ad g 0) 5 = w := ⟨_, rfl⟩
                obtain ⟨w2986, ew2986⟩ : ∃ w : Int32, I2970 (ad g 0) 8 = w := ⟨_, rfl⟩
                obtain ⟨w2987, ew2987⟩ : ∃ w : Int32, I2970 (ad g 0) 9 = w := ⟨_, rfl⟩
                try simp only [ew2984, ew2985, ew2986, ew2987, e2976, e2977, e2978, e2979, e2975, e2980, ew2816, ew2817, ew2818, ew2819, ew2820, ew2821, ew2822, ew2823, ew2824, ew2825] at p2968
                refine WQ_if_ne 74 dX11_readTown_69 rfl (fun c2987 => ?_) (fun c2987 => ?_)
                · obtain ⟨-, h3, hT3, hC3, nz3⟩ := Or.resolve_left p2968 (by rintro ⟨z, -⟩; omega)
                  clear p2968
                  have h4 := rdT_s4 (f := f9) hk0 hcl hcz h3
                  have kz := clz_ok iB (tT_le B ip).2 (by omega) h4.2.2
                  have hrm := ahd_0 iB h4.2.1
                  have hbz : SBn S2 := by unfold SBn; rw [kz.1 1, kz.1 2]; exact iB
                  have pi2 := PI_tel hbz (PI_nm iI kz.2.1 kz.2.2.1) (by unfold PJ; rw [kz.2.2.1, kz.1 4]; exact iJ) hcl (fun q hq => gdP_nm (kz.2.2.2.1 q hq) kz.1)
                  have tb2 := tel_b (c := cls B n p1) (P := P2) hbz hcl (by intro e; rw [kz.1 1]; exact hrm.1 e) (by intro e; rw [kz.1 2]; exact hrm.2 e)
                  have adv2 := tok_adv (B := B) hp2 (by omega)
                  have hq2 := tT_le B hp2
                  have hR3 := RTM_fr hy hR2 g2972 g2973 g2974 (by decide) (by decide) (by decide)
                  refine WP_aload_n dX11_readTown_74 rfl ?_
                  refine WP_dup dX11_readTown_75 rfl ?_
                  refine WQ_getim dX11_readTown_76 fX11_207 rfl (ly_is hy 0 11 rfl) e2975 ?_
                  refine WQ_iconst (1) (1) dX11_readTown_79 rfl rfl (fun v2989 hv2989 => ?_)
                  refine WQ_iadd dX11_readTown_80 (by omega) (by omega) (fun v2990 hv2990 => ?_)
                  refine WQ_puti dX11_readTown_81 fX11_207 rfl rfl (ly_is hy 0 11 rfl) (fun I2991 eI2991 => ?_)
                  have e2992 : I2991 (ad g 0) 15 = w2961 := by rw [eI2991, pp_ne _ _ (Or.inr (by decide))]; exact e2976
                  have e2993 : I2991 (ad g 0) 16 = w2962 := by rw [eI2991, pp_ne _ _ (Or.inr (by decide))]; exact e2977
                  have e2994 : I2991 (ad g 0) 17 = w2963 := by rw [eI2991, pp_ne _ _ (Or.inr (by decide))]; exact e2978
                  have e2995 : I2991 (ad g 0) 18 = w2964 := by rw [eI2991, pp_ne _ _ (Or.inr (by decide))]; exact e2979
                  have e2996 : I2991 (ad g 0) 51 = w2965 := by rw [eI2991, pp_ne _ _ (Or.inr (by decide))]; exact e2980
                  have e2997 : I2991 (ad g 0) 3 = w2984 := by rw [eI2991, pp_ne _ _ (Or.inr (by decide))]; exact ew2984
                  have e2998 : I2991 (ad g 0) 5 = w2985 := by rw [eI2991, pp_ne _ _ (Or.inr (by decide))]; exact ew2985
                  have e2999 : I2991 (ad g 0) 8 = w2986 := by rw [eI2991, pp_ne _ _ (Or.inr (by decide))]; exact ew2986
                  have e3000 : I2991 (ad g 0) 9 = w2987 := by rw [eI2991, pp_ne _ _ (Or.inr (by decide))]; exact ew2987
                  have e3001 : I2991 (ad g 0) 19 = v2990 := by rw [eI2991, pp_self]
                  have fI3002 : FC g [0, 7, 14, 15, 16, 17, 18, 19, 27, 28, 29, 30, 31, 32, 33, 34] I I2991 := by rw [eI2991]; exact FC_pp fI2981 (by decide)
                  have fQ3003 : FQ g [3, 4, 5, 6, 7, 8, 9, 15, 16, 17, 18, 19, 51] I I2991 := by rw [eI2991]; exact FQ_pp0 fQ2983 (by decide)
                  have tpm_p0x : TPM g B n I2991 := by rw [eI2991]; exact tpm_p0 hy hT3 (by decide)
                  have cum_p0x : CUM g B n (tT B n p2) I2991 := by rw [eI2991]; exact cum_p0 hC3 (by decide)
                  have nof_x : NOF g I I2991 := by rw [eI2991]; exact NOF_tr (NOF_tr (NOF_tr iN nz) nz3) (NOF_p0 (by decide))
                  have rtm_x : RTM g (tel (cls B n p1) P2 S2) I2991 J2971 := RTM_fr hy hR3 (C := [0]) (D := []) (Q := [19]) (by rw [eI2991]; exact FC_pp FC_rf (by decide)) FC_rf (by rw [eI2991]; exact FQ_pp0 FQ_rf (by decide)) (by decide) (by decide) (by decide)
                  refine WP_goto 51 dX11_readTown_84 rfl ?_
                  refine WP_sub (fc rfl (fc rfl fn)) (ihlp2933 I2991 J2971 fI3002 fQ3003 fJ2982 ?_ ?_)
                  · try simp only [e2997, e2998, e2999, e3000, e2992, e2993, e2994, e2995, e3001, e2996, ew2816, ew2817, ew2818, ew2819, ew2820, ew2821, ew2822, ew2823, ew2824, ew2825]
                    refine ⟨tT B n p2, f9, tel (cls B n p1) P2 S2, by omega, by omega, tpm_p0x, cum_p0x, rtm_x, pi2.1, pi2.2, tb2.1, ?_, by rw [tb2.2, kz.1 0]; omega, by rw [tb2.2, kz.1 0]; omega, ?_, nof_x⟩
                    · rw [tb2.2, kz.1 0]; omega
                    · rw [← iE]; exact h4.1.symm
                  · try simp only [e2997, e2998, e2999, e3000, e2992, e2993, e2994, e2995, e3001, e2996, ew2816, ew2817, ew2818, ew2819, ew2820, ew2821, ew2822, ew2823, ew2824, ew2825]
                    have zc := cum_p0x.2.1
                    have zt := tT_le B (p := tT B n p2) (n := n) (by omega)
                    have zf := tF_le B (p := tT B n p2) (n := n) (by omega)
                    omega
                · refine WQ_iconst (0) (0) dX11_readTown_72 rfl rfl (fun v3004 hv3004 => ?_)
                  exact WP_zret dX11_readTown_73 rfl (nar_z (by omega)) ⟨rfl, fI2981, fJ2982, fQ2983, v3004, rfl, by
                    try simp only [e2975, e2976, e2977, e2978, e2979, e2980, ew2984, ew2985, ew2986, ew2987, ew2816, ew2817, ew2818, ew2819, ew2820, ew2821, ew2822, ew2823, ew2824, ew2825]
                    rcases p2968 with ⟨z, h3, e⟩ | ⟨z, -⟩
                    · exact Or.inl ⟨by omega, 1, tF B n p2, by rw [← iE]; exact rdT_s3 (by omega) hcl hcz h3, e⟩
                    · exact absurd z (by omega)⟩
        refine WP_sub (fc rfl (fc rfl fn)) (lp2933 _ I2912 J fI2913 fQ2914 fJ0 ?_ (Nat.lt_succ_self _))
        · try simp only [ew2916, ew2917, ew2918, ew2919, ew2920, ew2921, ew2922, ew2923, ew2924, ew2925, ew2816, ew2817, ew2818, ew2819, ew2820, ew2821, ew2822, ew2823, ew2824, ew2825]
          refine ⟨0, 901, S0 j, by omega, by omega, TPM_fr hy hTa iF (by decide), hp0 ▸ CUM_fr hy hCa iF (by decide), hRa, PI_0 j, fun z => absurd z (by simp [S0]), (S0_b j).1, ?_, by rw [(S0_b j).2]; omega, by rw [(S0_b j).2]; omega, rfl, NOF_tr nfa (NOF_fr hy iF (by decide))⟩
          have z19 : (I2912 (ad g 0) 19).toInt = 0 := by rw [z0]; exact hv19
          rw [ew2924] at z19
          rw [(S0_b j).2]; exact z19
      · refine WP_aload_n dX11_readTown_38 rfl ?_
        refine WP_getr dX11_readTown_39 fX11_84 rfl (ly_is hy 0 11 rfl) (rf hr 0 25 7 (by decide)) ?_
        refine WP_iload_n dX11_readTown_42 rfl ?_
        refine WQ_iconst (0) (0) dX11_readTown_43 rfl rfl (fun v3005 hv3005 => ?_)
        refine WE_is dX11_readTown_44 (ly_is hy 7 13 rfl) (ly_n hy 7 7 rfl) (by omega) (by omega) (fun I3006 eI3006 => ?_)
        have e3007 : I3006 (ad g 0) 3 = w2916 := by rw [eI3006, pp_ne _ _ (Or.inl (ly_ne hy (by decide) (by decide) (by decide)))]; exact ew2916
        have e3008 : I3006 (ad g 0) 5 = w2917 := by rw [eI3006, pp_ne _ _ (Or.inl (ly_ne hy (by decide) (by decide) (by decide)))]; exact ew2917
        have e3009 : I3006 (ad g 0) 8 = w2918 := by rw [eI3006, pp_ne _ _ (Or.inl (ly_ne hy (by decide) (by decide) (by decide)))]; exact ew2918
        have e3010 : I3006 (ad g 0) 9 = w2919 := by rw [eI3006, pp_ne _ _ (Or.inl (ly_ne hy (by decide) (by decide) (by decide)))]; exact ew2919
        have e3011 : I3006 (ad g 0) 15 = w2920 := by rw [eI3006, pp_ne _ _ (Or.inl (ly_ne hy (by decide) (by decide) (by decide)))]; exact ew2920
        have e3012 : I3006 (ad g 0) 16 = w2921 := by rw [eI3006, pp_ne _ _ (Or.inl (ly_ne hy (by decide) (by decide) (by decide)))]; exact ew2921
        have e3013 : I3006 (ad g 0) 17 = w2922 := by rw [eI3006, pp_ne _ _ (Or.inl (ly_ne hy (by decide) (by decide) (by decide)))]; exact ew2922
        have e3014 : I3006 (ad g 0) 18 = w2923 := by rw [eI3006, pp_ne _ _ (Or.inl (ly_ne hy (by decide) (by decide) (by decide)))]; exact ew2923
        have e3015 : I3006 (ad g 0) 19 = w2924 := by rw [eI3006, pp_ne _ _ (Or.inl (ly_ne hy (by decide) (by decide) (by decide)))]; exact ew2924
        have e3016 : I3006 (ad g 0) 51 = w2925 := by rw [eI3006, pp_ne _ _ (Or.inl (ly_ne hy (by decide) (by decide) (by decide)))]; exact ew2925
        have fI3017 : FC g [0, 7, 14, 15, 16, 17, 18, 19, 27, 28, 29, 30, 31, 32, 33, 34] I I3006 := by rw [eI3006]; exact FC_pp fI2913 (by decide)
        have fQ3018 : FQ g [3, 4, 5, 6, 7, 8, 9, 15, 16, 17, 18, 19, 51] I I3006 := by rw [eI3006]; exact FQ_ppn (ly_ne hy (by decide) (by decide) (by decide)) fQ2914
        refine WP_iinc (ls' := [(0, _), (1, _)]) dX11_readTown_45 rfl (by decide) rfl ?_
        have hv3019 : (i2911 + Int32.ofInt (1)).toInt = i2911.toInt + (1) := ia_n rfl (by omega) (by omega)
        generalize i2911 + Int32.ofInt (1) = v3019 at hv3019 ⊢
        refine WP_goto 32 dX11_readTown_48 rfl ?_
        refine WP_sub (fc rfl (fc rfl fn)) (ihlp2915 v3019 I3006 fI3017 fQ3018 ?_ ?_)
        · try simp only [e3007, e3008, e3009, e3010, e3011, e3012, e3013, e3014, e3015, e3016, ew2816, ew2817, ew2818, ew2819, ew2820, ew2821, ew2822, ew2823, ew2824, ew2825]
          refine ⟨d + 1, by omega, by omega, ?_, fun q hq => ?_⟩
          · rw [eI3006]; exact FC_pp iF (by decide)
          · rw [eI3006, show i2911.toInt.toNat = d by omega, pp_at]
            split
            · omega
            · exact i7 q (by omega)
        · try simp only [e3007, e3008, e3009, e3010, e3011, e3012, e3013, e3014, e3015, e3016, ew2816, ew2817, ew2818, ew2819, ew2820, ew2821, ew2822, ew2823, ew2824, ew2825]
          omega
  refine WP_sub (fc rfl (fc rfl fn)) (lp2915 _ v2910 I2897 fI2908 fQ2909 ?_ (Nat.lt_succ_self _))
  · try simp only [e2898, e2899, e2900, e2901, e2902, e2903, e2904, e2905, e2907, e2906, ew2816, ew2817, ew2818, ew2819, ew2820, ew2821, ew2822, ew2823, ew2824, ew2825]
    exact ⟨0, by omega, by omega, FC_rf, fun q hq => absurd hq (Nat.not_lt_zero _)⟩
