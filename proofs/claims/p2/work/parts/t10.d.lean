set_option maxHeartbeats 4000000 in
set_option maxRecDepth 100000 in
theorem sx_forget_6 {g : GG} {n : Int} {L : Int32} (hy : LyX g)  {I : pI} {J : pJ} {R : pR} (hr : RfX g R) (hI : XI g n L I)   : SP g mX7_forget [.ref (ad g 6)] I J R (fun r I' J' R' => (XI g n L I' ∧ R' = R) ∧ r = none) := by
  refine SP_of ⟨by decide, rfl⟩ (Nat.le_of_ble_eq_true rfl) ?_
  have e18898 : I (ad g 1) 1 = L := hI.2
  have b18899 := BT_get hI.1 1 1 2 (0) (0) (900) (by decide) 1 (by decide) (by decide)
  rw [e18898] at b18899
  refine WP_aload_n dX7_forget_0 rfl ?_
  refine WQ_iconst (0) (0) dX7_forget_1 rfl rfl (fun v18900 hv18900 => ?_)
  refine WQ_puti dX7_forget_2 fX7_61 rfl rfl (lyx_is hy 6 7 rfl) (fun I18901 eI18901 => ?_)
  have hI18901 : XI g n L I18901 := by rw [eI18901]; exact (xi_f0 hy hI (c := 6) (by decide) (Or.inl (by decide)) (by decide))
  have e18902 : I18901 (ad g 1) 1 = L := by rw [eI18901, pp_ne _ _ (Or.inl (lyx_ne hy (by decide) (by decide) (by decide)))]; exact e18898
  have e18903 : I18901 (ad g 6) 0 = v18900 := by rw [eI18901, pp_self]
  clear eI18901
  refine WP_aload_n dX7_forget_5 rfl ?_
  refine WQ_iconst (0) (0) dX7_forget_6 rfl rfl (fun v18904 hv18904 => ?_)
  refine WQ_puti dX7_forget_7 fX7_65 rfl rfl (lyx_is hy 6 7 rfl) (fun I18905 eI18905 => ?_)
  have hI18905 : XI g n L I18905 := by rw [eI18905]; exact (xi_f hy hI18901 (c := 6) (0) (0) (4) (by decide) (Or.inl (by decide)) (by decide) (by omega) (by omega))
  have e18906 : I18905 (ad g 1) 1 = L := by rw [eI18905, pp_ne _ _ (Or.inl (lyx_ne hy (by decide) (by decide) (by decide)))]; exact e18902
  have e18907 : I18905 (ad g 6) 0 = v18900 := by rw [eI18905, pp_ne _ _ (Or.inr (by decide))]; exact e18903
  have e18908 : I18905 (ad g 6) 1 = v18904 := by rw [eI18905, pp_self]
  clear eI18905
  refine WP_aload_n dX7_forget_10 rfl ?_
  refine WQ_iconst (0) (0) dX7_forget_11 rfl rfl (fun v18909 hv18909 => ?_)
  refine WQ_puti dX7_forget_12 fX7_68 rfl rfl (lyx_is hy 6 7 rfl) (fun I18910 eI18910 => ?_)
  have hI18910 : XI g n L I18910 := by rw [eI18910]; exact (xi_f hy hI18905 (c := 6) (0) (0) (3) (by decide) (Or.inl (by decide)) (by decide) (by omega) (by omega))
  have e18911 : I18910 (ad g 1) 1 = L := by rw [eI18910, pp_ne _ _ (Or.inl (lyx_ne hy (by decide) (by decide) (by decide)))]; exact e18906
  have e18912 : I18910 (ad g 6) 0 = v18900 := by rw [eI18910, pp_ne _ _ (Or.inr (by decide))]; exact e18907
  have e18913 : I18910 (ad g 6) 1 = v18904 := by rw [eI18910, pp_ne _ _ (Or.inr (by decide))]; exact e18908
  have e18914 : I18910 (ad g 6) 2 = v18909 := by rw [eI18910, pp_self]
  clear eI18910
  refine WP_aload_n dX7_forget_15 rfl ?_
  refine WQ_iconst (-1) (-1) dX7_forget_16 rfl rfl (fun v18915 hv18915 => ?_)
  refine WQ_puti dX7_forget_17 fX7_71 rfl rfl (lyx_is hy 6 7 rfl) (fun I18916 eI18916 => ?_)
  have hI18916 : XI g n L I18916 := by rw [eI18916]; exact (xi_f hy hI18910 (c := 6) (-1) (0) (3) (by decide) (Or.inl (by decide)) (by decide) (by omega) (by omega))
  have e18917 : I18916 (ad g 1) 1 = L := by rw [eI18916, pp_ne _ _ (Or.inl (lyx_ne hy (by decide) (by decide) (by decide)))]; exact e18911
  have e18918 : I18916 (ad g 6) 0 = v18900 := by rw [eI18916, pp_ne _ _ (Or.inr (by decide))]; exact e18912
  have e18919 : I18916 (ad g 6) 1 = v18904 := by rw [eI18916, pp_ne _ _ (Or.inr (by decide))]; exact e18913
  have e18920 : I18916 (ad g 6) 2 = v18909 := by rw [eI18916, pp_ne _ _ (Or.inr (by decide))]; exact e18914
  have e18921 : I18916 (ad g 6) 3 = v18915 := by rw [eI18916, pp_self]
  clear eI18916
  refine WP_aload_n dX7_forget_20 rfl ?_
  refine WQ_iconst (-1) (-1) dX7_forget_21 rfl rfl (fun v18922 hv18922 => ?_)
  refine WQ_puti dX7_forget_22 fX7_74 rfl rfl (lyx_is hy 6 7 rfl) (fun I18923 eI18923 => ?_)
  have hI18923 : XI g n L I18923 := by rw [eI18923]; exact (xi_f hy hI18916 (c := 6) (-1) (0) (2) (by decide) (Or.inl (by decide)) (by decide) (by omega) (by omega))
  have e18924 : I18923 (ad g 1) 1 = L := by rw [eI18923, pp_ne _ _ (Or.inl (lyx_ne hy (by decide) (by decide) (by decide)))]; exact e18917
  have e18925 : I18923 (ad g 6) 0 = v18900 := by rw [eI18923, pp_ne _ _ (Or.inr (by decide))]; exact e18918
  have e18926 : I18923 (ad g 6) 1 = v18904 := by rw [eI18923, pp_ne _ _ (Or.inr (by decide))]; exact e18919
  have e18927 : I18923 (ad g 6) 2 = v18909 := by rw [eI18923, pp_ne _ _ (Or.inr (by decide))]; exact e18920
  have e18928 : I18923 (ad g 6) 3 = v18915 := by rw [eI18923, pp_ne _ _ (Or.inr (by decide))]; exact e18921
  have e18929 : I18923 (ad g 6) 4 = v18922 := by rw [eI18923, pp_self]
  clear eI18923
  refine WP_aload_n dX7_forget_25 rfl ?_
  refine WP_getr dX7_forget_26 fX7_9 rfl (lyx_is hy 6 7 rfl) (rfx hr 6 5 7 (by decide)) ?_
  refine WQ_iconst (0) (0) dX7_forget_29 rfl rfl (fun v18930 hv18930 => ?_)
  refine WP_callS2u dX7_forget_30 ⟨⟨⟨by decide, by decide⟩, zJ7_fill_53178⟩, lX7_77, tJ7_fill_53178⟩ (s_fill hy hr 7 7 rfl rfl (by decide) v18930) (Nat.le_of_ble_eq_true rfl) ?_
  obtain ⟨I18931, eI18931⟩ : ∃ I9 : pI, I9 = fi I18923 (ad g 7) 7 v18930 := ⟨_, rfl⟩
  rw [← eI18931]
  have hI18931 : XI g n L I18931 := by rw [eI18931]; exact (xi_fill hy hI18923 7 7 v18930 (0) (0) (900) (by decide) (by decide) (by omega) (by omega))
  have e18932 : I18931 (ad g 1) 1 = L := by rw [eI18931, fi_off (lyx_ne hy (by decide) (by decide) (by decide))]; exact e18924
  have e18933 : I18931 (ad g 6) 0 = v18900 := by rw [eI18931, fi_off (lyx_ne hy (by decide) (by decide) (by decide))]; exact e18925
  have e18934 : I18931 (ad g 6) 1 = v18904 := by rw [eI18931, fi_off (lyx_ne hy (by decide) (by decide) (by decide))]; exact e18926
  have e18935 : I18931 (ad g 6) 2 = v18909 := by rw [eI18931, fi_off (lyx_ne hy (by decide) (by decide) (by decide))]; exact e18927
  have e18936 : I18931 (ad g 6) 3 = v18915 := by rw [eI18931, fi_off (lyx_ne hy (by decide) (by decide) (by decide))]; exact e18928
  have e18937 : I18931 (ad g 6) 4 = v18922 := by rw [eI18931, fi_off (lyx_ne hy (by decide) (by decide) (by decide))]; exact e18929
  clear eI18931
  refine WP_aload_n dX7_forget_33 rfl ?_
  refine WP_getr dX7_forget_34 fX7_24 rfl (lyx_is hy 6 7 rfl) (rfx hr 6 9 11 (by decide)) ?_
  refine WQ_iconst (0) (0) dX7_forget_37 rfl rfl (fun v18938 hv18938 => ?_)
  refine WP_callS2u dX7_forget_38 ⟨⟨⟨by decide, by decide⟩, zJ7_fill_53178⟩, lX7_77, tJ7_fill_53178⟩ (s_fill hy hr 11 4 rfl rfl (by decide) v18938) (Nat.le_of_ble_eq_true rfl) ?_
  obtain ⟨I18939, eI18939⟩ : ∃ I9 : pI, I9 = fi I18931 (ad g 11) 4 v18938 := ⟨_, rfl⟩
  rw [← eI18939]
  have hI18939 : XI g n L I18939 := by rw [eI18939]; exact (xi_fill0 hy hI18931 11 4 v18938 (by decide) (by decide))
  have e18940 : I18939 (ad g 1) 1 = L := by rw [eI18939, fi_off (lyx_ne hy (by decide) (by decide) (by decide))]; exact e18932
  have e18941 : I18939 (ad g 6) 0 = v18900 := by rw [eI18939, fi_off (lyx_ne hy (by decide) (by decide) (by decide))]; exact e18933
  have e18942 : I18939 (ad g 6) 1 = v18904 := by rw [eI18939, fi_off (lyx_ne hy (by decide) (by decide) (by decide))]; exact e18934
  have e18943 : I18939 (ad g 6) 2 = v18909 := by rw [eI18939, fi_off (lyx_ne hy (by decide) (by decide) (by decide))]; exact e18935
  have e18944 : I18939 (ad g 6) 3 = v18915 := by rw [eI18939, fi_off (lyx_ne hy (by decide) (by decide) (by decide))]; exact e18936
  have e18945 : I18939 (ad g 6) 4 = v18922 := by rw [eI18939, fi_off (lyx_ne hy (by decide) (by decide) (by decide))]; exact e18937
  clear eI18939
  refine WP_aload_n dX7_forget_41 rfl ?_
  refine WP_getr dX7_forget_42 fX7_27 rfl (lyx_is hy 6 7 rfl) (rfx hr 6 10 12 (by decide)) ?_
  refine WQ_iconst (0) (0) dX7_forget_45 rfl rfl (fun v18946 hv18946 => ?_)
  refine WP_callS2u dX7_forget_46 ⟨⟨⟨by decide, by decide⟩, zJ7_fill_53178⟩, lX7_77, tJ7_fill_53178⟩ (s_fill hy hr 12 28 rfl rfl (by decide) v18946) (Nat.le_of_ble_eq_true rfl) ?_
  obtain ⟨I18947, eI18947⟩ : ∃ I9 : pI, I9 = fi I18939 (ad g 12) 28 v18946 := ⟨_, rfl⟩
  rw [← eI18947]
  have hI18947 : XI g n L I18947 := by rw [eI18947]; exact (xi_fill hy hI18939 12 28 v18946 (0) (0) (20) (by decide) (by decide) (by omega) (by omega))
  have e18948 : I18947 (ad g 1) 1 = L := by rw [eI18947, fi_off (lyx_ne hy (by decide) (by decide) (by decide))]; exact e18940
  have e18949 : I18947 (ad g 6) 0 = v18900 := by rw [eI18947, fi_off (lyx_ne hy (by decide) (by decide) (by decide))]; exact e18941
  have e18950 : I18947 (ad g 6) 1 = v18904 := by rw [eI18947, fi_off (lyx_ne hy (by decide) (by decide) (by decide))]; exact e18942
  have e18951 : I18947 (ad g 6) 2 = v18909 := by rw [eI18947, fi_off (lyx_ne hy (by decide) (by decide) (by decide))]; exact e18943
  have e18952 : I18947 (ad g 6) 3 = v18915 := by rw [eI18947, fi_off (lyx_ne hy (by decide) (by decide) (by decide))]; exact e18944
  have e18953 : I18947 (ad g 6) 4 = v18922 := by rw [eI18947, fi_off (lyx_ne hy (by decide) (by decide) (by decide))]; exact e18945
  clear eI18947
  refine WP_aload_n dX7_forget_49 rfl ?_
  refine WP_getr dX7_forget_50 fX7_30 rfl (lyx_is hy 6 7 rfl) (rfx hr 6 11 13 (by decide)) ?_
  refine WQ_iconst (-1) (-1) dX7_forget_53 rfl rfl (fun v18954 hv18954 => ?_)
  refine WP_callS2u dX7_forget_54 ⟨⟨⟨by decide, by decide⟩, zJ7_fill_53178⟩, lX7_77, tJ7_fill_53178⟩ (s_fill hy hr 13 28 rfl rfl (by decide) v18954) (Nat.le_of_ble_eq_true rfl) ?_
  obtain ⟨I18955, eI18955⟩ : ∃ I9 : pI, I9 = fi I18947 (ad g 13) 28 v18954 := ⟨_, rfl⟩
  rw [← eI18955]
  have hI18955 : XI g n L I18955 := by rw [eI18955]; exact (xi_fill hy hI18947 13 28 v18954 (-1) (0) (2) (by decide) (by decide) (by omega) (by omega))
  have e18956 : I18955 (ad g 1) 1 = L := by rw [eI18955, fi_off (lyx_ne hy (by decide) (by decide) (by decide))]; exact e18948
  have e18957 : I18955 (ad g 6) 0 = v18900 := by rw [eI18955, fi_off (lyx_ne hy (by decide) (by decide) (by decide))]; exact e18949
  have e18958 : I18955 (ad g 6) 1 = v18904 := by rw [eI18955, fi_off (lyx_ne hy (by decide) (by decide) (by decide))]; exact e18950
  have e18959 : I18955 (ad g 6) 2 = v18909 := by rw [eI18955, fi_off (lyx_ne hy (by decide) (by decide) (by decide))]; exact e18951
  have e18960 : I18955 (ad g 6) 3 = v18915 := by rw [eI18955, fi_off (lyx_ne hy (by decide) (by decide) (by decide))]; exact e18952
  have e18961 : I18955 (ad g 6) 4 = v18922 := by rw [eI18955, fi_off (lyx_ne hy (by decide) (by decide) (by decide))]; exact e18953
  clear eI18955
  refine WP_aload_n dX7_forget_57 rfl ?_
  refine WP_getr dX7_forget_58 fX7_33 rfl (lyx_is hy 6 7 rfl) (rfx hr 6 12 14 (by decide)) ?_
  refine WQ_iconst (0) (0) dX7_forget_61 rfl rfl (fun v18962 hv18962 => ?_)
  refine WP_callS2u dX7_forget_62 ⟨⟨⟨by decide, by decide⟩, zJ7_fill_53178⟩, lX7_77, tJ7_fill_53178⟩ (s_fill hy hr 14 28 rfl rfl (by decide) v18962) (Nat.le_of_ble_eq_true rfl) ?_
  obtain ⟨I18963, eI18963⟩ : ∃ I9 : pI, I9 = fi I18955 (ad g 14) 28 v18962 := ⟨_, rfl⟩
  rw [← eI18963]
  have hI18963 : XI g n L I18963 := by rw [eI18963]; exact (xi_fill hy hI18955 14 28 v18962 (0) (0) (3) (by decide) (by decide) (by omega) (by omega))
  have e18964 : I18963 (ad g 1) 1 = L := by rw [eI18963, fi_off (lyx_ne hy (by decide) (by decide) (by decide))]; exact e18956
  have e18965 : I18963 (ad g 6) 0 = v18900 := by rw [eI18963, fi_off (lyx_ne hy (by decide) (by decide) (by decide))]; exact e18957
  have e18966 : I18963 (ad g 6) 1 = v18904 := by rw [eI18963, fi_off (lyx_ne hy (by decide) (by decide) (by decide))]; exact e18958
  have e18967 : I18963 (ad g 6) 2 = v18909 := by rw [eI18963, fi_off (lyx_ne hy (by decide) (by decide) (by decide))]; exact e18959
  have e18968 : I18963 (ad g 6) 3 = v18915 := by rw [eI18963, fi_off (lyx_ne hy (by decide) (by decide) (by decide))]; exact e18960
  have e18969 : I18963 (ad g 6) 4 = v18922 := by rw [eI18963, fi_off (lyx_ne hy (by decide) (by decide) (by decide))]; exact e18961
  clear eI18963
  refine WP_aload_n dX7_forget_65 rfl ?_
  refine WP_getr dX7_forget_66 fX7_36 rfl (lyx_is hy 6 7 rfl) (rfx hr 6 13 15 (by decide)) ?_
  refine WQ_iconst (0) (0) dX7_forget_69 rfl rfl (fun v18970 hv18970 => ?_)
  refine WP_callS2u dX7_forget_70 ⟨⟨⟨by decide, by decide⟩, zJ7_fill_53178⟩, lX7_77, tJ7_fill_53178⟩ (s_fill hy hr 15 28 rfl rfl (by decide) v18970) (Nat.le_of_ble_eq_true rfl) ?_
  obtain ⟨I18971, eI18971⟩ : ∃ I9 : pI, I9 = fi I18963 (ad g 15) 28 v18970 := ⟨_, rfl⟩
  rw [← eI18971]
  have hI18971 : XI g n L I18971 := by rw [eI18971]; exact (xi_fill hy hI18963 15 28 v18970 (0) (0) (99) (by decide) (by decide) (by omega) (by omega))
  have e18972 : I18971 (ad g 1) 1 = L := by rw [eI18971, fi_off (lyx_ne hy (by decide) (by decide) (by decide))]; exact e18964
  have e18973 : I18971 (ad g 6) 0 = v18900 := by rw [eI18971, fi_off (lyx_ne hy (by decide) (by decide) (by decide))]; exact e18965
  have e18974 : I18971 (ad g 6) 1 = v18904 := by rw [eI18971, fi_off (lyx_ne hy (by decide) (by decide) (by decide))]; exact e18966
  have e18975 : I18971 (ad g 6) 2 = v18909 := by rw [eI18971, fi_off (lyx_ne hy (by decide) (by decide) (by decide))]; exact e18967
  have e18976 : I18971 (ad g 6) 3 = v18915 := by rw [eI18971, fi_off (lyx_ne hy (by decide) (by decide) (by decide))]; exact e18968
  have e18977 : I18971 (ad g 6) 4 = v18922 := by rw [eI18971, fi_off (lyx_ne hy (by decide) (by decide) (by decide))]; exact e18969
  clear eI18971
  refine WP_aload_n dX7_forget_73 rfl ?_
  refine WP_getr dX7_forget_74 fX7_45 rfl (lyx_is hy 6 7 rfl) (rfx hr 6 16 18 (by decide)) ?_
  refine WQ_iconst (5) (5) dX7_forget_77 rfl rfl (fun v18978 hv18978 => ?_)
  refine WP_callS2u dX7_forget_78 ⟨⟨⟨by decide, by decide⟩, zJ7_fill_53178⟩, lX7_77, tJ7_fill_53178⟩ (s_fill hy hr 18 21 rfl rfl (by decide) v18978) (Nat.le_of_ble_eq_true rfl) ?_
  obtain ⟨I18979, eI18979⟩ : ∃ I9 : pI, I9 = fi I18971 (ad g 18) 21 v18978 := ⟨_, rfl⟩
  rw [← eI18979]
  have hI18979 : XI g n L I18979 := by rw [eI18979]; exact (xi_fill hy hI18971 18 21 v18978 (0) (0) (20) (by decide) (by decide) (by omega) (by omega))
  have e18980 : I18979 (ad g 1) 1 = L := by rw [eI18979, fi_off (lyx_ne hy (by decide) (by decide) (by decide))]; exact e18972
  have e18981 : I18979 (ad g 6) 0 = v18900 := by rw [eI18979, fi_off (lyx_ne hy (by decide) (by decide) (by decide))]; exact e18973
  have e18982 : I18979 (ad g 6) 1 = v18904 := by rw [eI18979, fi_off (lyx_ne hy (by decide) (by decide) (by decide))]; exact e18974
  have e18983 : I18979 (ad g 6) 2 = v18909 := by rw [eI18979, fi_off (lyx_ne hy (by decide) (by decide) (by decide))]; exact e18975
  have e18984 : I18979 (ad g 6) 3 = v18915 := by rw [eI18979, fi_off (lyx_ne hy (by decide) (by decide) (by decide))]; exact e18976
  have e18985 : I18979 (ad g 6) 4 = v18922 := by rw [eI18979, fi_off (lyx_ne hy (by decide) (by decide) (by decide))]; exact e18977
  clear eI18979
  refine WP_aload_n dX7_forget_81 rfl ?_
  refine WP_getr dX7_forget_82 fX7_48 rfl (lyx_is hy 6 7 rfl) (rfx hr 6 17 19 (by decide)) ?_
  refine WQ_iconst (-1) (-1) dX7_forget_85 rfl rfl (fun v18986 hv18986 => ?_)
  refine WP_callS2u dX7_forget_86 ⟨⟨⟨by decide, by decide⟩, zJ7_fill_53178⟩, lX7_77, tJ7_fill_53178⟩ (s_fill hy hr 19 21 rfl rfl (by decide) v18986) (Nat.le_of_ble_eq_true rfl) ?_
  obtain ⟨I18987, eI18987⟩ : ∃ I9 : pI, I9 = fi I18979 (ad g 19) 21 v18986 := ⟨_, rfl⟩
  rw [← eI18987]
  have hI18987 : XI g n L I18987 := by rw [eI18987]; exact (xi_fill hy hI18979 19 21 v18986 (-1) (0) (999) (by decide) (by decide) (by omega) (by omega))
  have e18988 : I18987 (ad g 1) 1 = L := by rw [eI18987, fi_off (lyx_ne hy (by decide) (by decide) (by decide))]; exact e18980
  have e18989 : I18987 (ad g 6) 0 = v18900 := by rw [eI18987, fi_off (lyx_ne hy (by decide) (by decide) (by decide))]; exact e18981
  have e18990 : I18987 (ad g 6) 1 = v18904 := by rw [eI18987, fi_off (lyx_ne hy (by decide) (by decide) (by decide))]; exact e18982
  have e18991 : I18987 (ad g 6) 2 = v18909 := by rw [eI18987, fi_off (lyx_ne hy (by decide) (by decide) (by decide))]; exact e18983
  have e18992 : I18987 (ad g 6) 3 = v18915 := by rw [eI18987, fi_off (lyx_ne hy (by decide) (by decide) (by decide))]; exact e18984
  have e18993 : I18987 (ad g 6) 4 = v18922 := by rw [eI18987, fi_off (lyx_ne hy (by decide) (by decide) (by decide))]; exact e18985
  clear eI18987
  refine WP_aload_n dX7_forget_89 rfl ?_
  refine WP_getr dX7_forget_90 fX7_55 rfl (lyx_is hy 6 7 rfl) (rfx hr 6 19 21 (by decide)) ?_
  refine WQ_iconst (0) (0) dX7_forget_93 rfl rfl (fun v18994 hv18994 => ?_)
  refine WP_callS2u dX7_forget_94 ⟨⟨⟨by decide, by decide⟩, zJ7_fill_53178⟩, lX7_77, tJ7_fill_53178⟩ (s_fill hy hr 21 48 rfl rfl (by decide) v18994) (Nat.le_of_ble_eq_true rfl) ?_
  obtain ⟨I18995, eI18995⟩ : ∃ I9 : pI, I9 = fi I18987 (ad g 21) 48 v18994 := ⟨_, rfl⟩
  rw [← eI18995]
  have hI18995 : XI g n L I18995 := by rw [eI18995]; exact (xi_fill0 hy hI18987 21 48 v18994 (by decide) (by decide))
  have e18996 : I18995 (ad g 1) 1 = L := by rw [eI18995, fi_off (lyx_ne hy (by decide) (by decide) (by decide))]; exact e18988
  have e18997 : I18995 (ad g 6) 0 = v18900 := by rw [eI18995, fi_off (lyx_ne hy (by decide) (by decide) (by decide))]; exact e18989
  have e18998 : I18995 (ad g 6) 1 = v18904 := by rw [eI18995, fi_off (lyx_ne hy (by decide) (by decide) (by decide))]; exact e18990
  have e18999 : I18995 (ad g 6) 2 = v18909 := by rw [eI18995, fi_off (lyx_ne hy (by decide) (by decide) (by decide))]; exact e18991
  have e19000 : I18995 (ad g 6) 3 = v18915 := by rw [eI18995, fi_off (lyx_ne hy (by decide) (by decide) (by decide))]; exact e18992
  have e19001 : I18995 (ad g 6) 4 = v18922 := by rw [eI18995, fi_off (lyx_ne hy (by decide) (by decide) (by decide))]; exact e18993
  clear eI18995
  exact WP_vret dX7_forget_97 rfl ⟨⟨hI18995, rfl⟩, rfl⟩
set_option maxHeartbeats 4000000 in
set_option maxRecDepth 100000 in
theorem sx_readTown_6 {g : GG} {n : Int} {L : Int32} (hy : LyX g) {aK aV : Nat → Nat} {fo : Option Nat} (hz : HZ g aK aV fo)  {I : pI} {J : pJ} {R : pR} (hr : RfX g R) (hI : XI g n L I)   : SP g mX3_readTown [.ref (ad g 3), .ref (ad g 6)] I J R (fun r I' J' R' => (XI g n L I' ∧ R' = R) ∧ ∃ v : Int32, r = some (.int v) ∧ 0 ≤ v.toInt ∧ v.toInt ≤ 1) := by
  refine SP_of ⟨by decide, rfl⟩ (Nat.le_of_ble_eq_true rfl) ?_
  have e19002 : I (ad g 1) 1 = L := hI.2
  have b19003 := BT_get hI.1 1 1 2 (0) (0) (900) (by decide) 1 (by decide) (by decide)
  rw [e19002] at b19003
  refine WP_aload_n dX3_readTown_0 rfl ?_
  refine WP_callV0 (k := 7) dX3_readTown_1 ⟨⟨⟨by decide, by decide⟩, zX7_forget⟩, lX3_26, by decide, rfl, vX7_forget.1, vX7_forget.2⟩ (lyx_is hy 6 7 rfl) (sx_forget_6 hy hr hI  ) (Nat.le_of_ble_eq_true rfl) ?_
  intro r I19004 J19005 Ra hq
  obtain ⟨⟨hI19004, ec⟩, rfl⟩ := hq
  rw [ec]
  clear ec Ra
  have e19006 : I19004 (ad g 1) 1 = L := hI19004.2
  have b19007 := BT_get hI19004.1 1 1 2 (0) (0) (900) (by decide) 1 (by decide) (by decide)
  rw [e19006] at b19007
  refine WP_aload_n dX3_readTown_4 rfl ?_
  refine WQ_iconst (0) (0) dX3_readTown_5 rfl rfl (fun v19008 hv19008 => ?_)
  refine WP_callV1 (k := 3) dX3_readTown_6 ⟨⟨⟨by decide, by decide⟩, zX3_note⟩, lX3_31, by decide, rfl, vX3_note.1, vX3_note.2⟩ (lyx_is hy 3 3 rfl) (sx_notef hy hr hI19004 v19008 ) (Nat.le_of_ble_eq_true rfl) ?_
  intro r I19009 J19010 Ra hq
  obtain ⟨⟨hI19009, ec, fiI19009⟩, rfl⟩ := hq
  rw [ec]
  clear ec Ra
  have e19011 : I19009 (ad g 1) 1 = L := hI19009.2
  have b19012 := BT_get hI19009.1 1 1 2 (0) (0) (900) (by decide) 1 (by decide) (by decide)
  rw [e19011] at b19012
  refine WP_aload_n dX3_readTown_9 rfl ?_
  refine WP_getr dX3_readTown_10 fX3_15 rfl (lyx_is hy 3 3 rfl) (rfx hr 3 2 1 (by decide)) ?_
  refine WP_callV0 (k := 5) dX3_readTown_13 ⟨⟨⟨by decide, by decide⟩, zX5_rewind⟩, lX3_35, by decide, rfl, vX5_rewind.1, vX5_rewind.2⟩ (lyx_is hy 1 5 rfl) (sx_rewindf hy hr hI19009  ) (Nat.le_of_ble_eq_true rfl) ?_
  intro r I19013 J19014 Ra hq
  obtain ⟨⟨hI19013, ec, fiI19013⟩, rfl⟩ := hq
  rw [ec]
  clear ec Ra
  have e19015 : I19013 (ad g 1) 1 = L := hI19013.2
  have b19016 := BT_get hI19013.1 1 1 2 (0) (0) (900) (by decide) 1 (by decide) (by decide)
  rw [e19015] at b19016
  refine WQ_iconst (0) (0) dX3_readTown_16 rfl rfl (fun v19017 hv19017 => ?_)
  refine WP_istore_n (ls' := [(0, _), (1, _), (2, _)]) dX3_readTown_17 (by decide) rfl ?_
  have lp18_19020 : ∀ (mz : Nat) (i19018 : Int32) (I19019 : pI) (J19020 : pJ), XI g n L I19019 → 0 ≤ i19018.toInt → i19018.toInt ≤ 901 → (902 - i19018.toInt).toNat < mz → WP g mX3_readTown 18 [(0, .ref (ad g 3)), (1, .ref (ad g 6)), (2, .int i19018)] [] I19019 J19020 R (fun r I' J' R' => (XI g n L I' ∧ R' = R) ∧ ∃ v : Int32, r = some (.int v) ∧ 0 ≤ v.toInt ∧ v.toInt ≤ 1) := by
    intro mz
    induction mz with
    | zero =>
      intro i19018 I19019 J19020 hI19019 ai19018 bi19018 hmlp18_19020
      exact absurd hmlp18_19020 (Nat.not_lt_zero _)
    | succ mz ihlp18_19020 =>
      intro i19018 I19019 J19020 hI19019 ai19018 bi19018 hmlp18_19020
      have e19022 : I19019 (ad g 1) 1 = L := hI19019.2
      have b19023 := BT_get hI19019.1 1 1 2 (0) (0) (900) (by decide) 1 (by decide) (by decide)
      rw [e19022] at b19023
      refine WP_iload_n dX3_readTown_18 rfl ?_
      refine WQ_sipush (900) (900) dX3_readTown_19 rfl rfl (fun v19024 hv19024 => ?_)
      refine WQ_icmp_gt 114 dX3_readTown_22 rfl (fun c19024 => ?_) (fun c19024 => ?_)
      · refine WQ_iconst (1) (1) dX3_readTown_114 rfl rfl (fun v19026 hv19026 => ?_)
        exact WP_zret dX3_readTown_115 rfl (nar_z (by omega)) ⟨⟨hI19019, rfl⟩, _, rfl, by omega, by omega⟩
      · refine WP_aload_n dX3_readTown_25 rfl ?_
        refine WP_getr dX3_readTown_26 fX3_15 rfl (lyx_is hy 3 3 rfl) (rfx hr 3 2 1 (by decide)) ?_
        refine WP_callV0 (k := 5) dX3_readTown_29 ⟨⟨⟨by decide, by decide⟩, zX5_next⟩, lX3_40, by decide, rfl, vX5_next.1, vX5_next.2⟩ (lyx_is hy 1 5 rfl) (sx_nextf hy hr hI19019  ) (Nat.le_of_ble_eq_true rfl) ?_
        intro r I19027 J19028 Ra hq
        obtain ⟨⟨hI19027, ec, fiI19027⟩, rfl⟩ := hq
        rw [ec]
        clear ec Ra
        have e19029 : I19027 (ad g 1) 1 = L := hI19027.2
        have b19030 := BT_get hI19027.1 1 1 2 (0) (0) (900) (by decide) 1 (by decide) (by decide)
        rw [e19029] at b19030
        refine WP_aload_n dX3_readTown_32 rfl ?_
        refine WP_getr dX3_readTown_33 fX3_15 rfl (lyx_is hy 3 3 rfl) (rfx hr 3 2 1 (by decide)) ?_
        refine WQ_geti dX3_readTown_36 fX3_43 rfl (lyx_is hy 1 5 rfl) (BT_get hI19027.1 1 2 3 (0) (0) (4) (by decide) 2 (by decide) (by decide)) (fun v19031 ev19031 av19031 bv19031 => ?_)
        refine WQ_if_ne 45 dX3_readTown_39 rfl (fun c19031 => ?_) (fun c19031 => ?_)
        · refine WP_aload_n dX3_readTown_45 rfl ?_
          refine WP_callV0 (k := 3) dX3_readTown_46 ⟨⟨⟨by decide, by decide⟩, zX3_clauseAtHand⟩, lX3_46, by decide, rfl, vX3_clauseAtHand.1, vX3_clauseAtHand.2⟩ (lyx_is hy 3 3 rfl) (sx_clauseAtHand hy hz hr hI19027  ) (Nat.le_of_ble_eq_true rfl) ?_
          intro r Ia Ja Ra hq
          obtain ⟨⟨ea, eb, ec⟩, v19033, rfl, av19033, bv19033⟩ := hq
          show WP _ _ _ _ (.int _ :: _) _ _ _ _
          rw [ea, eb, ec]
          clear ea eb ec Ia Ja Ra
          refine WP_istore_n (ls' := [(0, _), (1, _), (2, _), (3, _)]) dX3_readTown_49 (by decide) rfl ?_
          refine WP_iload_n dX3_readTown_50 rfl ?_
          refine WQ_iconst (-1) (-1) dX3_readTown_51 rfl rfl (fun v19034 hv19034 => ?_)
          refine WQ_icmp_ne 59 dX3_readTown_52 rfl (fun c19034 => ?_) (fun c19034 => ?_)
          · rcases (show (0 ≤ v19033.toInt ∧ v19033.toInt ≤ 0) ∨ (1 ≤ v19033.toInt ∧ v19033.toInt ≤ 1) ∨ (2 ≤ v19033.toInt ∧ v19033.toInt ≤ 2) ∨ (3 ≤ v19033.toInt ∧ v19033.toInt ≤ 3) ∨ (4 ≤ v19033.toInt ∧ v19033.toInt ≤ 4) ∨ (5 ≤ v19033.toInt ∧ v19033.toInt ≤ 5) ∨ (6 ≤ v19033.toInt ∧ v19033.toInt ≤ 6) ∨ (7 ≤ v19033.toInt ∧ v19033.toInt ≤ 7) ∨ (8 ≤ v19033.toInt ∧ v19033.toInt ≤ 8) ∨ (9 ≤ v19033.toInt ∧ v19033.toInt ≤ 9) by omega) with ⟨k19036_0, k19036_1⟩ | ⟨k19036_2, k19036_3⟩ | ⟨k19036_4, k19036_5⟩ | ⟨k19036_6, k19036_7⟩ | ⟨k19036_8, k19036_9⟩ | ⟨k19036_10, k19036_11⟩ | ⟨k19036_12, k19036_13⟩ | ⟨k19036_14, k19036_15⟩ | ⟨k19036_16, k19036_17⟩ | ⟨k19036_18, k19036_19⟩
            · refine WP_aload_n dX3_readTown_59 rfl ?_
              refine WP_iload_n dX3_readTown_60 rfl ?_
              refine WP_callV1 (k := 7) dX3_readTown_61 ⟨⟨⟨by decide, by decide⟩, zX7_faultAhead⟩, lX3_50, by decide, rfl, vX7_faultAhead.1, vX7_faultAhead.2⟩ (lyx_is hy 6 7 rfl) (sx_faultAhead_6_0 hy hr hI19027 v19033 (by omega) (by omega)) (Nat.le_of_ble_eq_true rfl) ?_
              intro r Ia Ja Ra hq
              obtain ⟨⟨ea, eb, ec⟩, v19037, rfl, av19037, bv19037⟩ := hq
              show WP _ _ _ _ (.int _ :: _) _ _ _ _
              rw [ea, eb, ec]
              clear ea eb ec Ia Ja Ra
              refine WP_istore (ls' := [(0, _), (1, _), (2, _), (3, _), (4, _)]) dX3_readTown_64 (by decide) rfl ?_
              refine WP_iload dX3_readTown_66 rfl ?_
              refine WQ_if_ne 86 dX3_readTown_68 rfl (fun c19037 => ?_) (fun c19037 => ?_)
              · refine WP_iload dX3_readTown_86 rfl ?_
                refine WQ_if_eq 99 dX3_readTown_88 rfl (fun c19038 => False.elim (by omega)) (fun c19038 => ?_)
                refine WP_aload_n dX3_readTown_91 rfl ?_
                refine WP_iload dX3_readTown_92 rfl ?_
                refine WP_callV1 (k := 3) dX3_readTown_94 ⟨⟨⟨by decide, by decide⟩, zX3_note⟩, lX3_31, by decide, rfl, vX3_note.1, vX3_note.2⟩ (lyx_is hy 3 3 rfl) (sx_notef hy hr hI19027 v19037 ) (Nat.le_of_ble_eq_true rfl) ?_
                intro r I19040 J19041 Ra hq
                obtain ⟨⟨hI19040, ec, fiI19040⟩, rfl⟩ := hq
                rw [ec]
                clear ec Ra
                have e19042 : I19040 (ad g 1) 2 = v19031 := by rw [fz_at fiI19040 1 (by decide) (by decide)]; exact ev19031
                have e19043 : I19040 (ad g 1) 1 = L := hI19040.2
                have b19044 := BT_get hI19040.1 1 1 2 (0) (0) (900) (by decide) 1 (by decide) (by decide)
                rw [e19043] at b19044
                refine WQ_iconst (0) (0) dX3_readTown_97 rfl rfl (fun v19045 hv19045 => ?_)
                exact WP_zret dX3_readTown_98 rfl (nar_z (by omega)) ⟨⟨hI19040, rfl⟩, _, rfl, by omega, by omega⟩
              · refine WP_aload_n dX3_readTown_71 rfl ?_
                refine WP_getr dX3_readTown_72 fX3_15 rfl (lyx_is hy 3 3 rfl) (rfx hr 3 2 1 (by decide)) ?_
                refine WP_callV0 (k := 5) dX3_readTown_75 ⟨⟨⟨by decide, by decide⟩, zX5_next⟩, lX3_40, by decide, rfl, vX5_next.1, vX5_next.2⟩ (lyx_is hy 1 5 rfl) (sx_nextf hy hr hI19027  ) (Nat.le_of_ble_eq_true rfl) ?_
                intro r I19046 J19047 Ra hq
                obtain ⟨⟨hI19046, ec, fiI19046⟩, rfl⟩ := hq
                rw [ec]
                clear ec Ra
                have e19048 : I19046 (ad g 1) 1 = L := hI19046.2
                have b19049 := BT_get hI19046.1 1 1 2 (0) (0) (900) (by decide) 1 (by decide) (by decide)
                rw [e19048] at b19049
                refine WP_aload_n dX3_readTown_78 rfl ?_
                refine WP_iload_n dX3_readTown_79 rfl ?_
                refine WP_aload_n dX3_readTown_80 rfl ?_
                refine WP_callV2 (k := 3) dX3_readTown_81 ⟨⟨⟨by decide, by decide⟩, zX3_faultInParts⟩, lX3_54, by decide, rfl, vX3_faultInParts.1, vX3_faultInParts.2⟩ (lyx_is hy 3 3 rfl) (sx_parts_6_0 hy hz hr hI19046 v19033 (by omega) (by omega)) (Nat.le_of_ble_eq_true rfl) ?_
                intro r I19050 J19051 Ra hq
                obtain ⟨⟨hI19050, ec, ⟨pI19050, sI19050_6_1, sI19050_6_2⟩⟩, v19052, rfl, av19052, bv19052, cv19052⟩ := hq
                show WP _ _ _ _ (.int _ :: _) _ _ _ _
                rw [ec]
                clear ec Ra
                have e19053 : I19050 (ad g 1) 1 = L := hI19050.2
                have b19054 := BT_get hI19050.1 1 1 2 (0) (0) (900) (by decide) 1 (by decide) (by decide)
                rw [e19053] at b19054
                obtain ⟨w19055, ew19055⟩ : ∃ w : Int32, I19050 (ad g 4) 0 = w := ⟨_, rfl⟩
                have bw19055 := BT_get hI19050.1 4 0 5 (0) (0) (1000) (by decide) 0 (by decide) (by decide)
                rw [ew19055] at bw19055
                rw [ew19055] at cv19052
                obtain ⟨w19056, ew19056⟩ : ∃ w : Int32, I19050 (ad g 4) 1 = w := ⟨_, rfl⟩
                have bw19056 := BT_get hI19050.1 4 0 5 (0) (0) (1000) (by decide) 1 (by decide) (by decide)
                rw [ew19056] at bw19056
                rw [ew19056] at cv19052
                refine WP_istore (ls' := [(0, _), (1, _), (2, _), (3, _), (4, _)]) dX3_readTown_84 (by decide) rfl ?_
                refine WP_iload dX3_readTown_86 rfl ?_
                refine WQ_if_eq 99 dX3_readTown_88 rfl (fun c19056 => ?_) (fun c19056 => ?_)
                · refine WP_aload_n dX3_readTown_99 rfl ?_
                  refine WP_iload_n dX3_readTown_100 rfl ?_
                  refine WP_aload_n dX3_readTown_101 rfl ?_
                  refine WP_getr dX3_readTown_102 fX3_9 rfl (lyx_is hy 3 3 rfl) (rfx hr 3 3 4 (by decide)) ?_
                  refine WP_callV2 (k := 7) dX3_readTown_105 ⟨⟨⟨by decide, by decide⟩, zX7_tell⟩, lX3_58, by decide, rfl, vX7_tell.1, vX7_tell.2⟩ (lyx_is hy 6 7 rfl) (sx_tell_6_0 hy hr hI19050 v19033 (by omega) (by omega) (by rw [ew19055, ew19056]; omega)) (Nat.le_of_ble_eq_true rfl) ?_
                  intro r I19058 J19059 Ra hq
                  obtain ⟨⟨hI19058, ec, pI19058⟩, rfl⟩ := hq
                  rw [ec]
                  clear ec Ra
                  have e19060 : I19058 (ad g 1) 1 = L := hI19058.2
                  have b19061 := BT_get hI19058.1 1 1 2 (0) (0) (900) (by decide) 1 (by decide) (by decide)
                  rw [e19060] at b19061
                  refine WP_iinc (ls' := [(0, _), (1, _), (2, _), (3, _), (4, _)]) dX3_readTown_108 rfl (by decide) rfl ?_
                  have hv19062 : (i19018 + Int32.ofInt (1)).toInt = i19018.toInt + (1) := ia_n rfl (by omega) (by omega)
                  generalize i19018 + Int32.ofInt (1) = v19062 at hv19062 ⊢
                  refine WP_goto 18 dX3_readTown_111 rfl ?_
                  exact WP_sub (fc rfl (fc rfl (fc rfl fn))) (ihlp18_19020 v19062 I19058 J19059 hI19058 (by omega) (by omega) (by omega))
                · refine WP_aload_n dX3_readTown_91 rfl ?_
                  refine WP_iload dX3_readTown_92 rfl ?_
                  refine WP_callV1 (k := 3) dX3_readTown_94 ⟨⟨⟨by decide, by decide⟩, zX3_note⟩, lX3_31, by decide, rfl, vX3_note.1, vX3_note.2⟩ (lyx_is hy 3 3 rfl) (sx_notef hy hr hI19050 v19052 ) (Nat.le_of_ble_eq_true rfl) ?_
                  intro r I19063 J19064 Ra hq
                  obtain ⟨⟨hI19063, ec, fiI19063⟩, rfl⟩ := hq
                  rw [ec]
                  clear ec Ra
                  have e19065 : I19063 (ad g 4) 0 = w19055 := by rw [fz_at fiI19063 4 (by decide) (by decide)]; exact ew19055
                  have e19066 : I19063 (ad g 4) 1 = w19056 := by rw [fz_at fiI19063 4 (by decide) (by decide)]; exact ew19056
                  have e19067 : I19063 (ad g 1) 1 = L := hI19063.2
                  have b19068 := BT_get hI19063.1 1 1 2 (0) (0) (900) (by decide) 1 (by decide) (by decide)
                  rw [e19067] at b19068
                  refine WQ_iconst (0) (0) dX3_readTown_97 rfl rfl (fun v19069 hv19069 => ?_)
                  exact WP_zret dX3_readTown_98 rfl (nar_z (by omega)) ⟨⟨hI19063, rfl⟩, _, rfl, by omega, by omega⟩
            · refine WP_aload_n dX3_readTown_59 rfl ?_
              refine WP_iload_n dX3_readTown_60 rfl ?_
              refine WP_callV1 (k := 7) dX3_readTown_61 ⟨⟨⟨by decide, by decide⟩, zX7_faultAhead⟩, lX3_50, by decide, rfl, vX7_faultAhead.1, vX7_faultAhead.2⟩ (lyx_is hy 6 7 rfl) (sx_faultAhead_6_1 hy hr hI19027 v19033 (by omega) (by omega)) (Nat.le_of_ble_eq_true rfl) ?_
              intro r Ia Ja Ra hq
              obtain ⟨⟨ea, eb, ec⟩, v19070, rfl, av19070, bv19070, cv19070⟩ := hq
              show WP _ _ _ _ (.int _ :: _) _ _ _ _
              rw [ea, eb, ec]
              clear ea eb ec Ia Ja Ra
              obtain ⟨w19071, ew19071⟩ : ∃ w : Int32, I19027 (ad g 6) 1 = w := ⟨_, rfl⟩
              have bw19071 := BT_get hI19027.1 6 1 2 (0) (0) (4) (by decide) 1 (by decide) (by decide)
              rw [ew19071] at bw19071
              rw [ew19071] at cv19070
              refine WP_istore (ls' := [(0, _), (1, _), (2, _), (3, _), (4, _)]) dX3_readTown_64 (by decide) rfl ?_
              refine WP_iload dX3_readTown_66 rfl ?_
              refine WQ_if_ne 86 dX3_readTown_68 rfl (fun c19071 => ?_) (fun c19071 => ?_)
              · refine WP_iload dX3_readTown_86 rfl ?_
                refine WQ_if_eq 99 dX3_readTown_88 rfl (fun c19072 => False.elim (by omega)) (fun c19072 => ?_)
                refine WP_aload_n dX3_readTown_91 rfl ?_
                refine WP_iload dX3_readTown_92 rfl ?_
                refine WP_callV1 (k := 3) dX3_readTown_94 ⟨⟨⟨by decide, by decide⟩, zX3_note⟩, lX3_31, by decide, rfl, vX3_note.1, vX3_note.2⟩ (lyx_is hy 3 3 rfl) (sx_notef hy hr hI19027 v19070 ) (Nat.le_of_ble_eq_true rfl) ?_
                intro r I19074 J19075 Ra hq
                obtain ⟨⟨hI19074, ec, fiI19074⟩, rfl⟩ := hq
                rw [ec]
                clear ec Ra
                have e19076 : I19074 (ad g 1) 2 = v19031 := by rw [fz_at fiI19074 1 (by decide) (by decide)]; exact ev19031
                have e19077 : I19074 (ad g 6) 1 = w19071 := by rw [fz_at fiI19074 6 (by decide) (by decide)]; exact ew19071
                have e19078 : I19074 (ad g 1) 1 = L := hI19074.2
                have b19079 := BT_get hI19074.1 1 1 2 (0) (0) (900) (by decide) 1 (by decide) (by decide)
                rw [e19078] at b19079
                refine WQ_iconst (0) (0) dX3_readTown_97 rfl rfl (fun v19080 hv19080 => ?_)
                exact WP_zret dX3_readTown_98 rfl (nar_z (by omega)) ⟨⟨hI19074, rfl⟩, _, rfl, by omega, by omega⟩
              · refine WP_aload_n dX3_readTown_71 rfl ?_
                refine WP_getr dX3_readTown_72 fX3_15 rfl (lyx_is hy 3 3 rfl) (rfx hr 3 2 1 (by decide)) ?_
                refine WP_callV0 (k := 5) dX3_readTown_75 ⟨⟨⟨by decide, by decide⟩, zX5_next⟩, lX3_40, by decide, rfl, vX5_next.1, vX5_next.2⟩ (lyx_is hy 1 5 rfl) (sx_nextf hy hr hI19027  ) (Nat.le_of_ble_eq_true rfl) ?_
                intro r I19081 J19082 Ra hq
                obtain ⟨⟨hI19081, ec, fiI19081⟩, rfl⟩ := hq
                rw [ec]
                clear ec Ra
                have e19083 : I19081 (ad g 6) 1 = w19071 := by rw [fz_at fiI19081 6 (by decide) (by decide)]; exact ew19071
                have e19084 : I19081 (ad g 1) 1 = L := hI19081.2
                have b19085 := BT_get hI19081.1 1 1 2 (0) (0) (900) (by decide) 1 (by decide) (by decide)
                rw [e19084] at b19085
                refine WP_aload_n dX3_readTown_78 rfl ?_
                refine WP_iload_n dX3_readTown_79 rfl ?_
                refine WP_aload_n dX3_readTown_80 rfl ?_
                refine WP_callV2 (k := 3) dX3_readTown_81 ⟨⟨⟨by decide, by decide⟩, zX3_faultInParts⟩, lX3_54, by decide, rfl, vX3_faultInParts.1, vX3_faultInParts.2⟩ (lyx_is hy 3 3 rfl) (sx_parts_6_1 hy hz hr hI19081 v19033 (by omega) (by omega) (by rw [e19083]; omega)) (Nat.le_of_ble_eq_true rfl) ?_
                intro r I19086 J19087 Ra hq
                obtain ⟨⟨hI19086, ec, ⟨pI19086, sI19086_6_1, sI19086_6_2⟩⟩, v19088, rfl, av19088, bv19088, cv19088⟩ := hq
                show WP _ _ _ _ (.int _ :: _) _ _ _ _
                rw [ec]
                clear ec Ra
                have e19089 : I19086 (ad g 6) 1 = w19071 := by rw [sI19086_6_1]; exact e19083
                have e19090 : I19086 (ad g 1) 1 = L := hI19086.2
                have b19091 := BT_get hI19086.1 1 1 2 (0) (0) (900) (by decide) 1 (by decide) (by decide)
                rw [e19090] at b19091
                obtain ⟨w19092, ew19092⟩ : ∃ w : Int32, I19086 (ad g 4) 1 = w := ⟨_, rfl⟩
                have bw19092 := BT_get hI19086.1 4 0 5 (0) (0) (1000) (by decide) 1 (by decide) (by decide)
                rw [ew19092] at bw19092
                rw [ew19092] at cv19088
                obtain ⟨w19093, ew19093⟩ : ∃ w : Int32, I19086 (ad g 4) 2 = w := ⟨_, rfl⟩
                have bw19093 := BT_get hI19086.1 4 0 5 (0) (0) (1000) (by decide) 2 (by decide) (by decide)
                rw [ew19093] at bw19093
                rw [ew19093] at cv19088
                obtain ⟨w19094, ew19094⟩ : ∃ w : Int32, I19086 (ad g 4) 3 = w := ⟨_, rfl⟩
                have bw19094 := BT_get hI19086.1 4 0 5 (0) (0) (1000) (by decide) 3 (by decide) (by decide)
                rw [ew19094] at bw19094
                rw [ew19094] at cv19088
                refine WP_istore (ls' := [(0, _), (1, _), (2, _), (3, _), (4, _)]) dX3_readTown_84 (by decide) rfl ?_
                refine WP_iload dX3_readTown_86 rfl ?_
                refine WQ_if_eq 99 dX3_readTown_88 rfl (fun c19094 => ?_) (fun c19094 => ?_)
                · refine WP_aload_n dX3_readTown_99 rfl ?_
                  refine WP_iload_n dX3_readTown_100 rfl ?_
                  refine WP_aload_n dX3_readTown_101 rfl ?_
                  refine WP_getr dX3_readTown_102 fX3_9 rfl (lyx_is hy 3 3 rfl) (rfx hr 3 3 4 (by decide)) ?_
                  refine WP_callV2 (k := 7) dX3_readTown_105 ⟨⟨⟨by decide, by decide⟩, zX7_tell⟩, lX3_58, by decide, rfl, vX7_tell.1, vX7_tell.2⟩ (lyx_is hy 6 7 rfl) (sx_tell_6_1 hy hr hI19086 v19033 (by omega) (by omega) (by rw [ew19092, ew19093, ew19094, e19089]; omega)) (Nat.le_of_ble_eq_true rfl) ?_
                  intro r I19096 J19097 Ra hq
                  obtain ⟨⟨hI19096, ec, pI19096⟩, rfl⟩ := hq
                  rw [ec]
                  clear ec Ra
                  have e19098 : I19096 (ad g 1) 1 = L := hI19096.2
                  have b19099 := BT_get hI19096.1 1 1 2 (0) (0) (900) (by decide) 1 (by decide) (by decide)
                  rw [e19098] at b19099
                  refine WP_iinc (ls' := [(0, _), (1, _), (2, _), (3, _), (4, _)]) dX3_readTown_108 rfl (by decide) rfl ?_
                  have hv19100 : (i19018 + Int32.ofInt (1)).toInt = i19018.toInt + (1) := ia_n rfl (by omega) (by omega)
                  generalize i19018 + Int32.ofInt (1) = v19100 at hv19100 ⊢
                  refine WP_goto 18 dX3_readTown_111 rfl ?_
                  exact WP_sub (fc rfl (fc rfl (fc rfl fn))) (ihlp18_19020 v19100 I19096 J19097 hI19096 (by omega) (by omega) (by omega))
                · refine WP_aload_n dX3_readTown_91 rfl ?_
                  refine WP_iload dX3_readTown_92 rfl ?_
                  refine WP_callV1 (k := 3) dX3_readTown_94 ⟨⟨⟨by decide, by decide⟩, zX3_note⟩, lX3_31, by decide, rfl, vX3_note.1, vX3_note.2⟩ (lyx_is hy 3 3 rfl) (sx_notef hy hr hI19086 v19088 ) (Nat.le_of_ble_eq_true rfl) ?_
                  intro r I19101 J19102 Ra hq
                  obtain ⟨⟨hI19101, ec, fiI19101⟩, rfl⟩ := hq
                  rw [ec]
                  clear ec Ra
                  have e19103 : I19101 (ad g 6) 1 = w19071 := by rw [fz_at fiI19101 6 (by decide) (by decide)]; exact e19089
                  have e19104 : I19101 (ad g 4) 1 = w19092 := by rw [fz_at fiI19101 4 (by decide) (by decide)]; exact ew19092
                  have e19105 : I19101 (ad g 4) 2 = w19093 := by rw [fz_at fiI19101 4 (by decide) (by decide)]; exact ew19093
                  have e19106 : I19101 (ad g 4) 3 = w19094 := by rw [fz_at fiI19101 4 (by decide) (by decide)]; exact ew19094
                  have e19107 : I19101 (ad g 1) 1 = L := hI19101.2
                  have b19108 := BT_get hI19101.1 1 1 2 (0) (0) (900) (by decide) 1 (by decide) (by decide)
                  rw [e19107] at b19108
                  refine WQ_iconst (0) (0) dX3_readTown_97 rfl rfl (fun v19109 hv19109 => ?_)
                  exact WP_zret dX3_readTown_98 rfl (nar_z (by omega)) ⟨⟨hI19101, rfl⟩, _, rfl, by omega, by omega⟩
            · refine WP_aload_n dX3_readTown_59 rfl ?_
              refine WP_iload_n dX3_readTown_60 rfl ?_
              refine WP_callV1 (k := 7) dX3_readTown_61 ⟨⟨⟨by decide, by decide⟩, zX7_faultAhead⟩, lX3_50, by decide, rfl, vX7_faultAhead.1, vX7_faultAhead.2⟩ (lyx_is hy 6 7 rfl) (sx_faultAhead_6_2 hy hr hI19027 v19033 (by omega) (by omega)) (Nat.le_of_ble_eq_true rfl) ?_
              intro r Ia Ja Ra hq
              obtain ⟨⟨ea, eb, ec⟩, v19110, rfl, av19110, bv19110, cv19110⟩ := hq
              show WP _ _ _ _ (.int _ :: _) _ _ _ _
              rw [ea, eb, ec]
              clear ea eb ec Ia Ja Ra
              obtain ⟨w19111, ew19111⟩ : ∃ w : Int32, I19027 (ad g 6) 2 = w := ⟨_, rfl⟩
              have bw19111 := BT_get hI19027.1 6 2 3 (0) (0) (3) (by decide) 2 (by decide) (by decide)
              rw [ew19111] at bw19111
              rw [ew19111] at cv19110
              refine WP_istore (ls' := [(0, _), (1, _), (2, _), (3, _), (4, _)]) dX3_readTown_64 (by decide) rfl ?_
              refine WP_iload dX3_readTown_66 rfl ?_
              refine WQ_if_ne 86 dX3_readTown_68 rfl (fun c19111 => ?_) (fun c19111 => ?_)
              · refine WP_iload dX3_readTown_86 rfl ?_
                refine WQ_if_eq 99 dX3_readTown_88 rfl (fun c19112 => False.elim (by omega)) (fun c19112 => ?_)
                refine WP_aload_n dX3_readTown_91 rfl ?_
                refine WP_iload dX3_readTown_92 rfl ?_
                refine WP_callV1 (k := 3) dX3_readTown_94 ⟨⟨⟨by decide, by decide⟩, zX3_note⟩, lX3_31, by decide, rfl, vX3_note.1, vX3_note.2⟩ (lyx_is hy 3 3 rfl) (sx_notef hy hr hI19027 v19110 ) (Nat.le_of_ble_eq_true rfl) ?_
                intro r I19114 J19115 Ra hq
                obtain ⟨⟨hI19114, ec, fiI19114⟩, rfl⟩ := hq
                rw [ec]
                clear ec Ra
                have e19116 : I19114 (ad g 1) 2 = v19031 := by rw [fz_at fiI19114 1 (by decide) (by decide)]; exact ev19031
                have e19117 : I19114 (ad g 6) 2 = w19111 := by rw [fz_at fiI19114 6 (by decide) (by decide)]; exact ew19111
                have e19118 : I19114 (ad g 1) 1 = L := hI19114.2
                have b19119 := BT_get hI19114.1 1 1 2 (0) (0) (900) (by decide) 1 (by decide) (by decide)
                rw [e19118] at b19119
                refine WQ_iconst (0) (0) dX3_readTown_97 rfl rfl (fun v19120 hv19120 => ?_)
                exact WP_zret dX3_readTown_98 rfl (nar_z (by omega)) ⟨⟨hI19114, rfl⟩, _, rfl, by omega, by omega⟩
              · refine WP_aload_n dX3_readTown_71 rfl ?_
                refine WP_getr dX3_readTown_72 fX3_15 rfl (lyx_is hy 3 3 rfl) (rfx hr 3 2 1 (by decide)) ?_
                refine WP_callV0 (k := 5) dX3_readTown_75 ⟨⟨⟨by decide, by decide⟩, zX5_next⟩, lX3_40, by decide, rfl, vX5_next.1, vX5_next.2⟩ (lyx_is hy 1 5 rfl) (sx_nextf hy hr hI19027  ) (Nat.le_of_ble_eq_true rfl) ?_
                intro r I19121 J19122 Ra hq
                obtain ⟨⟨hI19121, ec, fiI19121⟩, rfl⟩ := hq
                rw [ec]
                clear ec Ra
                have e19123 : I19121 (ad g 6) 2 = w19111 := by rw [fz_at fiI19121 6 (by decide) (by decide)]; exact ew19111
                have e19124 : I19121 (ad g 1) 1 = L := hI19121.2
                have b19125 := BT_get hI19121.1 1 1 2 (0) (0) (900) (by decide) 1 (by decide) (by decide)
                rw [e19124] at b19125
                refine WP_aload_n dX3_readTown_78 rfl ?_
                refine WP_iload_n dX3_readTown_79 rfl ?_
                refine WP_aload_n dX3_readTown_80 rfl ?_
                refine WP_callV2 (k := 3) dX3_readTown_81 ⟨⟨⟨by decide, by decide⟩, zX3_faultInParts⟩, lX3_54, by decide, rfl, vX3_faultInParts.1, vX3_faultInParts.2⟩ (lyx_is hy 3 3 rfl) (sx_parts_6_2 hy hz hr hI19121 v19033 (by omega) (by omega) (by rw [e19123]; omega)) (Nat.le_of_ble_eq_true rfl) ?_
                intro r I19126 J19127 Ra hq
                obtain ⟨⟨hI19126, ec, ⟨pI19126, sI19126_6_1, sI19126_6_2⟩⟩, v19128, rfl, av19128, bv19128, cv19128⟩ := hq
                show WP _ _ _ _ (.int _ :: _) _ _ _ _
                rw [ec]
                clear ec Ra
                have e19129 : I19126 (ad g 6) 2 = w19111 := by rw [sI19126_6_2]; exact e19123
                have e19130 : I19126 (ad g 1) 1 = L := hI19126.2
                have b19131 := BT_get hI19126.1 1 1 2 (0) (0) (900) (by decide) 1 (by decide) (by decide)
                rw [e19130] at b19131
                obtain ⟨w19132, ew19132⟩ : ∃ w : Int32, I19126 (ad g 4) 1 = w := ⟨_, rfl⟩
                have bw19132 := BT_get hI19126.1 4 0 5 (0) (0) (1000) (by decide) 1 (by decide) (by decide)
                rw [ew19132] at bw19132
                rw [ew19132] at cv19128
                obtain ⟨w19133, ew19133⟩ : ∃ w : Int32, I19126 (ad g 4) 2 = w := ⟨_, rfl⟩
                have bw19133 := BT_get hI19126.1 4 0 5 (0) (0) (1000) (by decide) 2 (by decide) (by decide)
                rw [ew19133] at bw19133
                rw [ew19133] at cv19128
                refine WP_istore (ls' := [(0, _), (1, _), (2, _), (3, _), (4, _)]) dX3_readTown_84 (by decide) rfl ?_
                refine WP_iload dX3_readTown_86 rfl ?_
                refine WQ_if_eq 99 dX3_readTown_88 rfl (fun c19133 => ?_) (fun c19133 => ?_)
                · refine WP_aload_n dX3_readTown_99 rfl ?_
                  refine WP_iload_n dX3_readTown_100 rfl ?_
                  refine WP_aload_n dX3_readTown_101 rfl ?_
                  refine WP_getr dX3_readTown_102 fX3_9 rfl (lyx_is hy 3 3 rfl) (rfx hr 3 3 4 (by decide)) ?_
                  refine WP_callV2 (k := 7) dX3_readTown_105 ⟨⟨⟨by decide, by decide⟩, zX7_tell⟩, lX3_58, by decide, rfl, vX7_tell.1, vX7_tell.2⟩ (lyx_is hy 6 7 rfl) (sx_tell_6_2 hy hr hI19126 v19033 (by omega) (by omega) (by rw [ew19132, ew19133, e19129]; omega)) (Nat.le_of_ble_eq_true rfl) ?_
                  intro r I19135 J19136 Ra hq
                  obtain ⟨⟨hI19135, ec, pI19135⟩, rfl⟩ := hq
                  rw [ec]
                  clear ec Ra
                  have e19137 : I19135 (ad g 1) 1 = L := hI19135.2
                  have b19138 := BT_get hI19135.1 1 1 2 (0) (0) (900) (by decide) 1 (by decide) (by decide)
                  rw [e19137] at b19138
                  refine WP_iinc (ls' := [(0, _), (1, _), (2, _), (3, _), (4, _)]) dX3_readTown_108 rfl (by decide) rfl ?_
                  have hv19139 : (i19018 + Int32.ofInt (1)).toInt = i19018.toInt + (1) := ia_n rfl (by omega) (by omega)
                  generalize i19018 + Int32.ofInt (1) = v19139 at hv19139 ⊢
                  refine WP_goto 18 dX3_readTown_111 rfl ?_
                  exact WP_sub (fc rfl (fc rfl (fc rfl fn))) (ihlp18_19020 v19139 I19135 J19136 hI19135 (by omega) (by omega) (by omega))
                · refine WP_aload_n dX3_readTown_91 rfl ?_
                  refine WP_iload dX3_readTown_92 rfl ?_
                  refine WP_callV1 (k := 3) dX3_readTown_94 ⟨⟨⟨by decide, by decide⟩, zX3_note⟩, lX3_31, by decide, rfl, vX3_note.1, vX3_note.2⟩ (lyx_is hy 3 3 rfl) (sx_notef hy hr hI19126 v19128 ) (Nat.le_of_ble_eq_true rfl) ?_
                  intro r I19140 J19141 Ra hq
                  obtain ⟨⟨hI19140, ec, fiI19140⟩, rfl⟩ := hq
                  rw [ec]
                  clear ec Ra
                  have e19142 : I19140 (ad g 6) 2 = w19111 := by rw [fz_at fiI19140 6 (by decide) (by decide)]; exact e19129
                  have e19143 : I19140 (ad g 4) 1 = w19132 := by rw [fz_at fiI19140 4 (by decide) (by decide)]; exact ew19132
                  have e19144 : I19140 (ad g 4) 2 = w19133 := by rw [fz_at fiI19140 4 (by decide) (by decide)]; exact ew19133
                  have e19145 : I19140 (ad g 1) 1 = L := hI19140.2
                  have b19146 := BT_get hI19140.1 1 1 2 (0) (0) (900) (by decide) 1 (by decide) (by decide)
                  rw [e19145] at b19146
                  refine WQ_iconst (0) (0) dX3_readTown_97 rfl rfl (fun v19147 hv19147 => ?_)
                  exact WP_zret dX3_readTown_98 rfl (nar_z (by omega)) ⟨⟨hI19140, rfl⟩, _, rfl, by omega, by omega⟩
            · refine WP_aload_n dX3_readTown_59 rfl ?_
              refine WP_iload_n dX3_readTown_60 rfl ?_
              refine WP_callV1 (k := 7) dX3_readTown_61 ⟨⟨⟨by decide, by decide⟩, zX7_faultAhead⟩, lX3_50, by decide, rfl, vX7_faultAhead.1, vX7_faultAhead.2⟩ (lyx_is hy 6 7 rfl) (sx_faultAhead_6_3 hy hr hI19027 v19033 (by omega) (by omega)) (Nat.le_of_ble_eq_true rfl) ?_
              intro r Ia Ja Ra hq
              obtain ⟨⟨ea, eb, ec⟩, v19148, rfl, av19148, bv19148⟩ := hq
              show WP _ _ _ _ (.int _ :: _) _ _ _ _
              rw [ea, eb, ec]
              clear ea eb ec Ia Ja Ra
              refine WP_istore (ls' := [(0, _), (1, _), (2, _), (3, _), (4, _)]) dX3_readTown_64 (by decide) rfl ?_
              refine WP_iload dX3_readTown_66 rfl ?_
              refine WQ_if_ne 86 dX3_readTown_68 rfl (fun c19148 => ?_) (fun c19148 => ?_)
              · refine WP_iload dX3_readTown_86 rfl ?_
                refine WQ_if_eq 99 dX3_readTown_88 rfl (fun c19149 => False.elim (by omega)) (fun c19149 => ?_)
                refine WP_aload_n dX3_readTown_91 rfl ?_
                refine WP_iload dX3_readTown_92 rfl ?_
                refine WP_callV1 (k := 3) dX3_readTown_94 ⟨⟨⟨by decide, by decide⟩, zX3_note⟩, lX3_31, by decide, rfl, vX3_note.1, vX3_note.2⟩ (lyx_is hy 3 3 rfl) (sx_notef hy hr hI19027 v19148 ) (Nat.le_of_ble_eq_true rfl) ?_
                intro r I19151 J19152 Ra hq
                obtain ⟨⟨hI19151, ec, fiI19151⟩, rfl⟩ := hq
                rw [ec]
                clear ec Ra
                have e19153 : I19151 (ad g 1) 2 = v19031 := by rw [fz_at fiI19151 1 (by decide) (by decide)]; exact ev19031
                have e19154 : I19151 (ad g 1) 1 = L := hI19151.2
                have b19155 := BT_get hI19151.1 1 1 2 (0) (0) (900) (by decide) 1 (by decide) (by decide)
                rw [e19154] at b19155
                refine WQ_iconst (0) (0) dX3_readTown_97 rfl rfl (fun v19156 hv19156 => ?_)
                exact WP_zret dX3_readTown_98 rfl (nar_z (by omega)) ⟨⟨hI19151, rfl⟩, _, rfl, by omega, by omega⟩
              · refine WP_aload_n dX3_readTown_71 rfl ?_
                refine WP_getr dX3_readTown_72 fX3_15 rfl (lyx_is hy 3 3 rfl) (rfx hr 3 2 1 (by decide)) ?_
                refine WP_callV0 (k := 5) dX3_readTown_75 ⟨⟨⟨by decide, by decide⟩, zX5_next⟩, lX3_40, by decide, rfl, vX5_next.1, vX5_next.2⟩ (lyx_is hy 1 5 rfl) (sx_nextf hy hr hI19027  ) (Nat.le_of_ble_eq_true rfl) ?_
                intro r I19157 J19158 Ra hq
                obtain ⟨⟨hI19157, ec, fiI19157⟩, rfl⟩ := hq
                rw [ec]
                clear ec Ra
                have e19159 : I19157 (ad g 1) 1 = L := hI19157.2
                have b19160 := BT_get hI19157.1 1 1 2 (0) (0) (900) (by decide) 1 (by decide) (by decide)
                rw [e19159] at b19160
                refine WP_aload_n dX3_readTown_78 rfl ?_
                refine WP_iload_n dX3_readTown_79 rfl ?_
                refine WP_aload_n dX3_readTown_80 rfl ?_
                refine WP_callV2 (k := 3) dX3_readTown_81 ⟨⟨⟨by decide, by decide⟩, zX3_faultInParts⟩, lX3_54, by decide, rfl, vX3_faultInParts.1, vX3_faultInParts.2⟩ (lyx_is hy 3 3 rfl) (sx_parts_6_3 hy hz hr hI19157 v19033 (by omega) (by omega)) (Nat.le_of_ble_eq_true rfl) ?_
                intro r I19161 J19162 Ra hq
                obtain ⟨⟨hI19161, ec, ⟨pI19161, sI19161_6_1, sI19161_6_2⟩⟩, v19163, rfl, av19163, bv19163, cv19163⟩ := hq
                show WP _ _ _ _ (.int _ :: _) _ _ _ _
                rw [ec]
                clear ec Ra
                have e19164 : I19161 (ad g 1) 1 = L := hI19161.2
                have b19165 := BT_get hI19161.1 1 1 2 (0) (0) (900) (by decide) 1 (by decide) (by decide)
                rw [e19164] at b19165
                obtain ⟨w19166, ew19166⟩ : ∃ w : Int32, I19161 (ad g 4) 0 = w := ⟨_, rfl⟩
                have bw19166 := BT_get hI19161.1 4 0 5 (0) (0) (1000) (by decide) 0 (by decide) (by decide)
                rw [ew19166] at bw19166
                rw [ew19166] at cv19163
                obtain ⟨w19167, ew19167⟩ : ∃ w : Int32, I19161 (ad g 4) 1 = w := ⟨_, rfl⟩
                have bw19167 := BT_get hI19161.1 4 0 5 (0) (0) (1000) (by decide) 1 (by decide) (by decide)
                rw [ew19167] at bw19167
                rw [ew19167] at cv19163
                obtain ⟨w19168, ew19168⟩ : ∃ w : Int32, I19161 (ad g 4) 2 = w := ⟨_, rfl⟩
                have bw19168 := BT_get hI19161.1 4 0 5 (0) (0) (1000) (by decide) 2 (by decide) (by decide)
                rw [ew19168] at bw19168
                rw [ew19168] at cv19163
                refine WP_istore (ls' := [(0, _), (1, _), (2, _), (3, _), (4, _)]) dX3_readTown_84 (by decide) rfl ?_
                refine WP_iload dX3_readTown_86 rfl ?_
                refine WQ_if_eq 99 dX3_readTown_88 rfl (fun c19168 => ?_) (fun c19168 => ?_)
                · refine WP_aload_n dX3_readTown_99 rfl ?_
                  refine WP_iload_n dX3_readTown_100 rfl ?_
                  refine WP_aload_n dX3_readTown_101 rfl ?_
                  refine WP_getr dX3_readTown_102 fX3_9 rfl (lyx_is hy 3 3 rfl) (rfx hr 3 3 4 (by decide)) ?_
                  refine WP_callV2 (k := 7) dX3_readTown_105 ⟨⟨⟨by decide, by decide⟩, zX7_tell⟩, lX3_58, by decide, rfl, vX7_tell.1, vX7_tell.2⟩ (lyx_is hy 6 7 rfl) (sx_tell_6_3 hy hr hI19161 v19033 (by omega) (by omega) (by rw [ew19166, ew19167, ew19168]; omega)) (Nat.le_of_ble_eq_true rfl) ?_
                  intro r I19170 J19171 Ra hq
                  obtain ⟨⟨hI19170, ec, pI19170⟩, rfl⟩ := hq
                  rw [ec]
                  clear ec Ra
                  have e19172 : I19170 (ad g 1) 1 = L := hI19170.2
                  have b19173 := BT_get hI19170.1 1 1 2 (0) (0) (900) (by decide) 1 (by decide) (by decide)
                  rw [e19172] at b19173
                  refine WP_iinc (ls' := [(0, _), (1, _), (2, _), (3, _), (4, _)]) dX3_readTown_108 rfl (by decide) rfl ?_
                  have hv19174 : (i19018 + Int32.ofInt (1)).toInt = i19018.toInt + (1) := ia_n rfl (by omega) (by omega)
                  generalize i19018 + Int32.ofInt (1) = v19174 at hv19174 ⊢
                  refine WP_goto 18 dX3_readTown_111 rfl ?_
                  exact WP_sub (fc rfl (fc rfl (fc rfl fn))) (ihlp18_19020 v19174 I19170 J19171 hI19170 (by omega) (by omega) (by omega))
                · refine WP_aload_n dX3_readTown_91 rfl ?_
                  refine WP_iload dX3_readTown_92 rfl ?_
                  refine WP_callV1 (k := 3) dX3_readTown_94 ⟨⟨⟨by decide, by decide⟩, zX3_note⟩, lX3_31, by decide, rfl, vX3_note.1, vX3_note.2⟩ (lyx_is hy 3 3 rfl) (sx_notef hy hr hI19161 v19163 ) (Nat.le_of_ble_eq_true rfl) ?_
                  intro r I19175 J19176 Ra hq
                  obtain ⟨⟨hI19175, ec, fiI19175⟩, rfl⟩ := hq
                  rw [ec]
                  clear ec Ra
                  have e19177 : I19175 (ad g 4) 0 = w19166 := by rw [fz_at fiI19175 4 (by decide) (by decide)]; exact ew19166
                  have e19178 : I19175 (ad g 4) 1 = w19167 := by rw [fz_at fiI19175 4 (by decide) (by decide)]; exact ew19167
                  have e19179 : I19175 (ad g 4) 2 = w19168 := by rw [fz_at fiI19175 4 (by decide) (by decide)]; exact ew19168
                  have e19180 : I19175 (ad g 1) 1 = L := hI19175.2
                  have b19181 := BT_get hI19175.1 1 1 2 (0) (0) (900) (by decide) 1 (by decide) (by decide)
                  rw [e19180] at b19181
                  refine WQ_iconst (0) (0) dX3_readTown_97 rfl rfl (fun v19182 hv19182 => ?_)
                  exact WP_zret dX3_readTown_98 rfl (nar_z (by omega)) ⟨⟨hI19175, rfl⟩, _, rfl, by omega, by omega⟩
            · refine WP_aload_n dX3_readTown_59 rfl ?_
              refine WP_iload_n dX3_readTown_60 rfl ?_
              refine WP_callV1 (k := 7) dX3_readTown_61 ⟨⟨⟨by decide, by decide⟩, zX7_faultAhead⟩, lX3_50, by decide, rfl, vX7_faultAhead.1, vX7_faultAhead.2⟩ (lyx_is hy 6 7 rfl) (sx_faultAhead_6_4 hy hr hI19027 v19033 (by omega) (by omega)) (Nat.le_of_ble_eq_true rfl) ?_
              intro r Ia Ja Ra hq
              obtain ⟨⟨ea, eb, ec⟩, v19183, rfl, av19183, bv19183⟩ := hq
              show WP _ _ _ _ (.int _ :: _) _ _ _ _
              rw [ea, eb, ec]
              clear ea eb ec Ia Ja Ra
              refine WP_istore (ls' := [(0, _), (1, _), (2, _), (3, _), (4, _)]) dX3_readTown_64 (by decide) rfl ?_
              refine WP_iload dX3_readTown_66 rfl ?_
              refine WQ_if_ne 86 dX3_readTown_68 rfl (fun c19183 => ?_) (fun c19183 => ?_)
              · refine WP_iload dX3_readTown_86 rfl ?_
                refine WQ_if_eq 99 dX3_readTown_88 rfl (fun c19184 => False.elim (by omega)) (fun c19184 => ?_)
                refine WP_aload_n dX3_readTown_91 rfl ?_
                refine WP_iload dX3_readTown_92 rfl ?_
                refine WP_callV1 (k := 3) dX3_readTown_94 ⟨⟨⟨by decide, by decide⟩, zX3_note⟩, lX3_31, by decide, rfl, vX3_note.1, vX3_note.2⟩ (lyx_is hy 3 3 rfl) (sx_notef hy hr hI19027 v19183 ) (Nat.le_of_ble_eq_true rfl) ?_
                intro r I19186 J19187 Ra hq
                obtain ⟨⟨hI19186, ec, fiI19186⟩, rfl⟩ := hq
                rw [ec]
                clear ec Ra
                have e19188 : I19186 (ad g 1) 2 = v19031 := by rw [fz_at fiI19186 1 (by decide) (by decide)]; exact ev19031
                have e19189 : I19186 (ad g 1) 1 = L := hI19186.2
                have b19190 := BT_get hI19186.1 1 1 2 (0) (0) (900) (by decide) 1 (by decide) (by decide)
                rw [e19189] at b19190
                refine WQ_iconst (0) (0) dX3_readTown_97 rfl rfl (fun v19191 hv19191 => ?_)
                exact WP_zret dX3_readTown_98 rfl (nar_z (by omega)) ⟨⟨hI19186, rfl⟩, _, rfl, by omega, by omega⟩
              · refine WP_aload_n dX3_readTown_71 rfl ?_
                refine WP_getr dX3_readTown_72 fX3_15 rfl (lyx_is hy 3 3 rfl) (rfx hr 3 2 1 (by decide)) ?_
                refine WP_callV0 (k := 5) dX3_readTown_75 ⟨⟨⟨by decide, by decide⟩, zX5_next⟩, lX3_40, by decide, rfl, vX5_next.1, vX5_next.2⟩ (lyx_is hy 1 5 rfl) (sx_nextf hy hr hI19027  ) (Nat.le_of_ble_eq_true rfl) ?_
                intro r I19192 J19193 Ra hq
                obtain ⟨⟨hI19192, ec, fiI19192⟩, rfl⟩ := hq
                rw [ec]
                clear ec Ra
                have e19194 : I19192 (ad g 1) 1 = L := hI19192.2
                have b19195 := BT_get hI19192.1 1 1 2 (0) (0) (900) (by decide) 1 (by decide) (by decide)
                rw [e19194] at b19195
                refine WP_aload_n dX3_readTown_78 rfl ?_
                refine WP_iload_n dX3_readTown_79 rfl ?_
                refine WP_aload_n dX3_readTown_80 rfl ?_
                refine WP_callV2 (k := 3) dX3_readTown_81 ⟨⟨⟨by decide, by decide⟩, zX3_faultInParts⟩, lX3_54, by decide, rfl, vX3_faultInParts.1, vX3_faultInParts.2⟩ (lyx_is hy 3 3 rfl) (sx_parts_6_4 hy hz hr hI19192 v19033 (by omega) (by omega)) (Nat.le_of_ble_eq_true rfl) ?_
                intro r I19196 J19197 Ra hq
                obtain ⟨⟨hI19196, ec, ⟨pI19196, sI19196_6_1, sI19196_6_2⟩⟩, v19198, rfl, av19198, bv19198, cv19198⟩ := hq
                show WP _ _ _ _ (.int _ :: _) _ _ _ _
                rw [ec]
                clear ec Ra
                have e19199 : I19196 (ad g 1) 1 = L := hI19196.2
                have b19200 := BT_get hI19196.1 1 1 2 (0) (0) (900) (by decide) 1 (by decide) (by decide)
                rw [e19199] at b19200
                obtain ⟨w19201, ew19201⟩ : ∃ w : Int32, I19196 (ad g 4) 0 = w := ⟨_, rfl⟩
                have bw19201 := BT_get hI19196.1 4 0 5 (0) (0) (1000) (by decide) 0 (by decide) (by decide)
                rw [ew19201] at bw19201
                rw [ew19201] at cv19198
                obtain ⟨w19202, ew19202⟩ : ∃ w : Int32, I19196 (ad g 4) 1 = w := ⟨_, rfl⟩
                have bw19202 := BT_get hI19196.1 4 0 5 (0) (0) (1000) (by decide) 1 (by decide) (by decide)
                rw [ew19202] at bw19202
                rw [ew19202] at cv19198
                obtain ⟨w19203, ew19203⟩ : ∃ w : Int32, I19196 (ad g 4) 2 = w := ⟨_, rfl⟩
                have bw19203 := BT_get hI19196.1 4 0 5 (0) (0) (1000) (by decide) 2 (by decide) (by decide)
                rw [ew19203] at bw19203
                rw [ew19203] at cv19198
                refine WP_istore (ls' := [(0, _), (1, _), (2, _), (3, _), (4, _)]) dX3_readTown_84 (by decide) rfl ?_
                refine WP_iload dX3_readTown_86 rfl ?_
                refine WQ_if_eq 99 dX3_readTown_88 rfl (fun c19203 => ?_) (fun c19203 => ?_)
                · refine WP_aload_n dX3_readTown_99 rfl ?_
                  refine WP_iload_n dX3_readTown_100 rfl ?_
                  refine WP_aload_n dX3_readTown_101 rfl ?_
                  refine WP_getr dX3_readTown_102 fX3_9 rfl (lyx_is hy 3 3 rfl) (rfx hr 3 3 4 (by decide)) ?_
                  refine WP_callV2 (k := 7) dX3_readTown_105 ⟨⟨⟨by decide, by decide⟩, zX7_tell⟩, lX3_58, by decide, rfl, vX7_tell.1, vX7_tell.2⟩ (lyx_is hy 6 7 rfl) (sx_tell_6_4 hy hr hI19196 v19033 (by omega) (by omega) (by rw [ew19201, ew19202, ew19203]; omega)) (Nat.le_of_ble_eq_true rfl) ?_
                  intro r I19205 J19206 Ra hq
                  obtain ⟨⟨hI19205, ec, pI19205⟩, rfl⟩ := hq
                  rw [ec]
                  clear ec Ra
                  have e19207 : I19205 (ad g 1) 1 = L := hI19205.2
                  have b19208 := BT_get hI19205.1 1 1 2 (0) (0) (900) (by decide) 1 (by decide) (by decide)
                  rw [e19207] at b19208
                  refine WP_iinc (ls' := [(0, _), (1, _), (2, _), (3, _), (4, _)]) dX3_readTown_108 rfl (by decide) rfl ?_
                  have hv19209 : (i19018 + Int32.ofInt (1)).toInt = i19018.toInt + (1) := ia_n rfl (by omega) (by omega)
                  generalize i19018 + Int32.ofInt (1) = v19209 at hv19209 ⊢
                  refine WP_goto 18 dX3_readTown_111 rfl ?_
                  exact WP_sub (fc rfl (fc rfl (fc rfl fn))) (ihlp18_19020 v19209 I19205 J19206 hI19205 (by omega) (by omega) (by omega))
                · refine WP_aload_n dX3_readTown_91 rfl ?_
                  refine WP_iload dX3_readTown_92 rfl ?_
                  refine WP_callV1 (k := 3) dX3_readTown_94 ⟨⟨⟨by decide, by decide⟩, zX3_note⟩, lX3_31, by decide, rfl, vX3_note.1, vX3_note.2⟩ (lyx_is hy 3 3 rfl) (sx_notef hy hr hI19196 v19198 ) (Nat.le_of_ble_eq_true rfl) ?_
                  intro r I19210 J19211 Ra hq
                  obtain ⟨⟨hI19210, ec, fiI19210⟩, rfl⟩ := hq
                  rw [ec]
                  clear ec Ra
                  have e19212 : I19210 (ad g 4) 0 = w19201 := by rw [fz_at fiI19210 4 (by decide) (by decide)]; exact ew19201
                  have e19213 : I19210 (ad g 4) 1 = w19202 := by rw [fz_at fiI19210 4 (by decide) (by decide)]; exact ew19202
                  have e19214 : I19210 (ad g 4) 2 = w19203 := by rw [fz_at fiI19210 4 (by decide) (by decide)]; exact ew19203
                  have e19215 : I19210 (ad g 1) 1 = L := hI19210.2
                  have b19216 := BT_get hI19210.1 1 1 2 (0) (0) (900) (by decide) 1 (by decide) (by decide)
                  rw [e19215] at b19216
                  refine WQ_iconst (0) (0) dX3_readTown_97 rfl rfl (fun v19217 hv19217 => ?_)
                  exact WP_zret dX3_readTown_98 rfl (nar_z (by omega)) ⟨⟨hI19210, rfl⟩, _, rfl, by omega, by omega⟩
            · refine WP_aload_n dX3_readTown_59 rfl ?_
              refine WP_iload_n dX3_readTown_60 rfl ?_
              refine WP_callV1 (k := 7) dX3_readTown_61 ⟨⟨⟨by decide, by decide⟩, zX7_faultAhead⟩, lX3_50, by decide, rfl, vX7_faultAhead.1, vX7_faultAhead.2⟩ (lyx_is hy 6 7 rfl) (sx_faultAhead_6_5 hy hr hI19027 v19033 (by omega) (by omega)) (Nat.le_of_ble_eq_true rfl) ?_
              intro r Ia Ja Ra hq
              obtain ⟨⟨ea, eb, ec⟩, v19218, rfl, av19218, bv19218⟩ := hq
              show WP _ _ _ _ (.int _ :: _) _ _ _ _
              rw [ea, eb, ec]
              clear ea eb ec Ia Ja Ra
              refine WP_istore (ls' := [(0, _), (1, _), (2, _), (3, _), (4, _)]) dX3_readTown_64 (by decide) rfl ?_
              refine WP_iload dX3_readTown_66 rfl ?_
              refine WQ_if_ne 86 dX3_readTown_68 rfl (fun c19218 => ?_) (fun c19218 => ?_)
              · refine WP_iload dX3_readTown_86 rfl ?_
                refine WQ_if_eq 99 dX3_readTown_88 rfl (fun c19219 => False.elim (by omega)) (fun c19219 => ?_)
                refine WP_aload_n dX3_readTown_91 rfl ?_
                refine WP_iload dX3_readTown_92 rfl ?_
                refine WP_callV1 (k := 3) dX3_readTown_94 ⟨⟨⟨by decide, by decide⟩, zX3_note⟩, lX3_31, by decide, rfl, vX3_note.1, vX3_note.2⟩ (lyx_is hy 3 3 rfl) (sx_notef hy hr hI19027 v19218 ) (Nat.le_of_ble_eq_true rfl) ?_
                intro r I19221 J19222 Ra hq
                obtain ⟨⟨hI19221, ec, fiI19221⟩, rfl⟩ := hq
                rw [ec]
                clear ec Ra
                have e19223 : I19221 (ad g 1) 2 = v19031 := by rw [fz_at fiI19221 1 (by decide) (by decide)]; exact ev19031
                have e19224 : I19221 (ad g 1) 1 = L := hI19221.2
                have b19225 := BT_get hI19221.1 1 1 2 (0) (0) (900) (by decide) 1 (by decide) (by decide)
                rw [e19224] at b19225
                refine WQ_iconst (0) (0) dX3_readTown_97 rfl rfl (fun v19226 hv19226 => ?_)
                exact WP_zret dX3_readTown_98 rfl (nar_z (by omega)) ⟨⟨hI19221, rfl⟩, _, rfl, by omega, by omega⟩
              · refine WP_aload_n dX3_readTown_71 rfl ?_
                refine WP_getr dX3_readTown_72 fX3_15 rfl (lyx_is hy 3 3 rfl) (rfx hr 3 2 1 (by decide)) ?_
                refine WP_callV0 (k := 5) dX3_readTown_75 ⟨⟨⟨by decide, by decide⟩, zX5_next⟩, lX3_40, by decide, rfl, vX5_next.1, vX5_next.2⟩ (lyx_is hy 1 5 rfl) (sx_nextf hy hr hI19027  ) (Nat.le_of_ble_eq_true rfl) ?_
                intro r I19227 J19228 Ra hq
                obtain ⟨⟨hI19227, ec, fiI19227⟩, rfl⟩ := hq
                rw [ec]
                clear ec Ra
                have e19229 : I19227 (ad g 1) 1 = L := hI19227.2
                have b19230 := BT_get hI19227.1 1 1 2 (0) (0) (900) (by decide) 1 (by decide) (by decide)
                rw [e19229] at b19230
                refine WP_aload_n dX3_readTown_78 rfl ?_
                refine WP_iload_n dX3_readTown_79 rfl ?_
                refine WP_aload_n dX3_readTown_80 rfl ?_
                refine WP_callV2 (k := 3) dX3_readTown_81 ⟨⟨⟨by decide, by decide⟩, zX3_faultInParts⟩, lX3_54, by decide, rfl, vX3_faultInParts.1, vX3_faultInParts.2⟩ (lyx_is hy 3 3 rfl) (sx_parts_6_5 hy hz hr hI19227 v19033 (by omega) (by omega)) (Nat.le_of_ble_eq_true rfl) ?_
                intro r I19231 J19232 Ra hq
                obtain ⟨⟨hI19231, ec, ⟨pI19231, sI19231_6_1, sI19231_6_2⟩⟩, v19233, rfl, av19233, bv19233, cv19233⟩ := hq
                show WP _ _ _ _ (.int _ :: _) _ _ _ _
                rw [ec]
                clear ec Ra
                have e19234 : I19231 (ad g 1) 1 = L := hI19231.2
                have b19235 := BT_get hI19231.1 1 1 2 (0) (0) (900) (by decide) 1 (by decide) (by decide)
                rw [e19234] at b19235
                obtain ⟨w19236, ew19236⟩ : ∃ w : Int32, I19231 (ad g 4) 0 = w := ⟨_, rfl⟩
                have bw19236 := BT_get hI19231.1 4 0 5 (0) (0) (1000) (by decide) 0 (by decide) (by decide)
                rw [ew19236] at bw19236
                rw [ew19236] at cv19233
                obtain ⟨w19237, ew19237⟩ : ∃ w : Int32, I19231 (ad g 4) 1 = w := ⟨_, rfl⟩
                have bw19237 := BT_get hI19231.1 4 0 5 (0) (0) (1000) (by decide) 1 (by decide) (by decide)
                rw [ew19237] at bw19237
                rw [ew19237] at cv19233
                obtain ⟨w19238, ew19238⟩ : ∃ w : Int32, I19231 (ad g 4) 2 = w := ⟨_, rfl⟩
                have bw19238 := BT_get hI19231.1 4 0 5 (0) (0) (1000) (by decide) 2 (by decide) (by decide)
                rw [ew19238] at bw19238
                rw [ew19238] at cv19233
                refine WP_istore (ls' := [(0, _), (1, _), (2, _), (3, _), (4, _)]) dX3_readTown_84 (by decide) rfl ?_
                refine WP_iload dX3_readTown_86 rfl ?_
                refine WQ_if_eq 99 dX3_readTown_88 rfl (fun c19238 => ?_) (fun c19238 => ?_)
                · refine WP_aload_n dX3_readTown_99 rfl ?_
                  refine WP_iload_n dX3_readTown_100 rfl ?_
                  refine WP_aload_n dX3_readTown_101 rfl ?_
                  refine WP_getr dX3_readTown_102 fX3_9 rfl (lyx_is hy 3 3 rfl) (rfx hr 3 3 4 (by decide)) ?_
                  refine WP_callV2 (k := 7) dX3_readTown_105 ⟨⟨⟨by decide, by decide⟩, zX7_tell⟩, lX3_58, by decide, rfl, vX7_tell.1, vX7_tell.2⟩ (lyx_is hy 6 7 rfl) (sx_tell_6_5 hy hr hI19231 v19033 (by omega) (by omega) (by rw [ew19236, ew19237, ew19238]; omega)) (Nat.le_of_ble_eq_true rfl) ?_
                  intro r I19240 J19241 Ra hq
                  obtain ⟨⟨hI19240, ec, pI19240⟩, rfl⟩ := hq
                  rw [ec]
                  clear ec Ra
                  have e19242 : I19240 (ad g 1) 1 = L := hI19240.2
                  have b19243 := BT_get hI19240.1 1 1 2 (0) (0) (900) (by decide) 1 (by decide) (by decide)
                  rw [e19242] at b19243
                  refine WP_iinc (ls' := [(0, _), (1, _), (2, _), (3, _), (4, _)]) dX3_readTown_108 rfl (by decide) rfl ?_
                  have hv19244 : (i19018 + Int32.ofInt (1)).toInt = i19018.toInt + (1) := ia_n rfl (by omega) (by omega)
                  generalize i19018 + Int32.ofInt (1) = v19244 at hv19244 ⊢
                  refine WP_goto 18 dX3_readTown_111 rfl ?_
                  exact WP_sub (fc rfl (fc rfl (fc rfl fn))) (ihlp18_19020 v19244 I19240 J19241 hI19240 (by omega) (by omega) (by omega))
                · refine WP_aload_n dX3_readTown_91 rfl ?_
                  refine WP_iload dX3_readTown_92 rfl ?_
                  refine WP_callV1 (k := 3) dX3_readTown_94 ⟨⟨⟨by decide, by decide⟩, zX3_note⟩, lX3_31, by decide, rfl, vX3_note.1, vX3_note.2⟩ (lyx_is hy 3 3 rfl) (sx_notef hy hr hI19231 v19233 ) (Nat.le_of_ble_eq_true rfl) ?_
                  intro r I19245 J19246 Ra hq
                  obtain ⟨⟨hI19245, ec, fiI19245⟩, rfl⟩ := hq
                  rw [ec]
                  clear ec Ra
                  have e19247 : I19245 (ad g 4) 0 = w19236 := by rw [fz_at fiI19245 4 (by decide) (by decide)]; exact ew19236
                  have e19248 : I19245 (ad g 4) 1 = w19237 := by rw [fz_at fiI19245 4 (by decide) (by decide)]; exact ew19237
                  have e19249 : I19245 (ad g 4) 2 = w19238 := by rw [fz_at fiI19245 4 (by decide) (by decide)]; exact ew19238
                  have e19250 : I19245 (ad g 1) 1 = L := hI19245.2
                  have b19251 := BT_get hI19245.1 1 1 2 (0) (0) (900) (by decide) 1 (by decide) (by decide)
                  rw [e19250] at b19251
                  refine WQ_iconst (0) (0) dX3_readTown_97 rfl rfl (fun v19252 hv19252 => ?_)
                  exact WP_zret dX3_readTown_98 rfl (nar_z (by omega)) ⟨⟨hI19245, rfl⟩, _, rfl, by omega, by omega⟩
            · refine WP_aload_n dX3_readTown_59 rfl ?_
              refine WP_iload_n dX3_readTown_60 rfl ?_
              refine WP_callV1 (k := 7) dX3_readTown_61 ⟨⟨⟨by decide, by decide⟩, zX7_faultAhead⟩, lX3_50, by decide, rfl, vX7_faultAhead.1, vX7_faultAhead.2⟩ (lyx_is hy 6 7 rfl) (sx_faultAhead_6_6 hy hr hI19027 v19033 (by omega) (by omega)) (Nat.le_of_ble_eq_true rfl) ?_
              intro r Ia Ja Ra hq
              obtain ⟨⟨ea, eb, ec⟩, v19253, rfl, av19253, bv19253⟩ := hq
              show WP _ _ _ _ (.int _ :: _) _ _ _ _
              rw [ea, eb, ec]
              clear ea eb ec Ia Ja Ra
              refine WP_istore (ls' := [(0, _), (1, _), (2, _), (3, _), (4, _)]) dX3_readTown_64 (by decide) rfl ?_
              refine WP_iload dX3_readTown_66 rfl ?_
              refine WQ_if_ne 86 dX3_readTown_68 rfl (fun c19253 => ?_) (fun c19253 => ?_)
              · refine WP_iload dX3_readTown_86 rfl ?_
                refine WQ_if_eq 99 dX3_readTown_88 rfl (fun c19254 => False.elim (by omega)) (fun c19254 => ?_)
                refine WP_aload_n dX3_readTown_91 rfl ?_
                refine WP_iload dX3_readTown_92 rfl ?_
                refine WP_callV1 (k := 3) dX3_readTown_94 ⟨⟨⟨by decide, by decide⟩, zX3_note⟩, lX3_31, by decide, rfl, vX3_note.1, vX3_note.2⟩ (lyx_is hy 3 3 rfl) (sx_notef hy hr hI19027 v19253 ) (Nat.le_of_ble_eq_true rfl) ?_
                intro r I19256 J19257 Ra hq
                obtain ⟨⟨hI19256, ec, fiI19256⟩, rfl⟩ := hq
                rw [ec]
                clear ec Ra
                have e19258 : I19256 (ad g 1) 2 = v19031 := by rw [fz_at fiI19256 1 (by decide) (by decide)]; exact ev19031
                have e19259 : I19256 (ad g 1) 1 = L := hI19256.2
                have b19260 := BT_get hI19256.1 1 1 2 (0) (0) (900) (by decide) 1 (by decide) (by decide)
                rw [e19259] at b19260
                refine WQ_iconst (0) (0) dX3_readTown_97 rfl rfl (fun v19261 hv19261 => ?_)
                exact WP_zret dX3_readTown_98 rfl (nar_z (by omega)) ⟨⟨hI19256, rfl⟩, _, rfl, by omega, by omega⟩
              · refine WP_aload_n dX3_readTown_71 rfl ?_
                refine WP_getr dX3_readTown_72 fX3_15 rfl (lyx_is hy 3 3 rfl) (rfx hr 3 2 1 (by decide)) ?_
                refine WP_callV0 (k := 5) dX3_readTown_75 ⟨⟨⟨by decide, by decide⟩, zX5_next⟩, lX3_40, by decide, rfl, vX5_next.1, vX5_next.2⟩ (lyx_is hy 1 5 rfl) (sx_nextf hy hr hI19027  ) (Nat.le_of_ble_eq_true rfl) ?_
                intro r I19262 J19263 Ra hq
                obtain ⟨⟨hI19262, ec, fiI19262⟩, rfl⟩ := hq
                rw [ec]
                clear ec Ra
                have e19264 : I19262 (ad g 1) 1 = L := hI19262.2
                have b19265 := BT_get hI19262.1 1 1 2 (0) (0) (900) (by decide) 1 (by decide) (by decide)
                rw [e19264] at b19265
                refine WP_aload_n dX3_readTown_78 rfl ?_
                refine WP_iload_n dX3_readTown_79 rfl ?_
                refine WP_aload_n dX3_readTown_80 rfl ?_
                refine WP_callV2 (k := 3) dX3_readTown_81 ⟨⟨⟨by decide, by decide⟩, zX3_faultInParts⟩, lX3_54, by decide, rfl, vX3_faultInParts.1, vX3_faultInParts.2⟩ (lyx_is hy 3 3 rfl) (sx_parts_6_6 hy hz hr hI19262 v19033 (by omega) (by omega)) (Nat.le_of_ble_eq_true rfl) ?_
                intro r I19266 J19267 Ra hq
                obtain ⟨⟨hI19266, ec, ⟨pI19266, sI19266_6_1, sI19266_6_2⟩⟩, v19268, rfl, av19268, bv19268, cv19268⟩ := hq
                show WP _ _ _ _ (.int _ :: _) _ _ _ _
                rw [ec]
                clear ec Ra
                have e19269 : I19266 (ad g 1) 1 = L := hI19266.2
                have b19270 := BT_get hI19266.1 1 1 2 (0) (0) (900) (by decide) 1 (by decide) (by decide)
                rw [e19269] at b19270
                obtain ⟨w19271, ew19271⟩ : ∃ w : Int32, I19266 (ad g 4) 0 = w := ⟨_, rfl⟩
                have bw19271 := BT_get hI19266.1 4 0 5 (0) (0) (1000) (by decide) 0 (by decide) (by decide)
                rw [ew19271] at bw19271
                rw [ew19271] at cv19268
                obtain ⟨w19272, ew19272⟩ : ∃ w : Int32, I19266 (ad g 4) 1 = w := ⟨_, rfl⟩
                have bw19272 := BT_get hI19266.1 4 0 5 (0) (0) (1000) (by decide) 1 (by decide) (by decide)
                rw [ew19272] at bw19272
                rw [ew19272] at cv19268
                obtain ⟨w19273, ew19273⟩ : ∃ w : Int32, I19266 (ad g 4) 2 = w := ⟨_, rfl⟩
                have bw19273 := BT_get hI19266.1 4 0 5 (0) (0) (1000) (by decide) 2 (by decide) (by decide)
                rw [ew19273] at bw19273
                rw [ew19273] at cv19268
                obtain ⟨w19274, ew19274⟩ : ∃ w : Int32, I19266 (ad g 4) 3 = w := ⟨_, rfl⟩
                have bw19274 := BT_get hI19266.1 4 0 5 (0) (0) (1000) (by decide) 3 (by decide) (by decide)
                rw [ew19274] at bw19274
                rw [ew19274] at cv19268
                obtain ⟨w19275, ew19275⟩ : ∃ w : Int32, I19266 (ad g 4) 4 = w := ⟨_, rfl⟩
                have bw19275 := BT_get hI19266.1 4 0 5 (0) (0) (1000) (by decide) 4 (by decide) (by decide)
                rw [ew19275] at bw19275
                rw [ew19275] at cv19268
                refine WP_istore (ls' := [(0, _), (1, _), (2, _), (3, _), (4, _)]) dX3_readTown_84 (by decide) rfl ?_
                refine WP_iload dX3_readTown_86 rfl ?_
                refine WQ_if_eq 99 dX3_readTown_88 rfl (fun c19275 => ?_) (fun c19275 => ?_)
                · refine WP_aload_n dX3_readTown_99 rfl ?_
                  refine WP_iload_n dX3_readTown_100 rfl ?_
                  refine WP_aload_n dX3_readTown_101 rfl ?_
                  refine WP_getr dX3_readTown_102 fX3_9 rfl (lyx_is hy 3 3 rfl) (rfx hr 3 3 4 (by decide)) ?_
                  refine WP_callV2 (k := 7) dX3_readTown_105 ⟨⟨⟨by decide, by decide⟩, zX7_tell⟩, lX3_58, by decide, rfl, vX7_tell.1, vX7_tell.2⟩ (lyx_is hy 6 7 rfl) (sx_tell_6_6 hy hr hI19266 v19033 (by omega) (by omega) (by rw [ew19271, ew19272, ew19273, ew19274, ew19275]; omega)) (Nat.le_of_ble_eq_true rfl) ?_
                  intro r I19277 J19278 Ra hq
                  obtain ⟨⟨hI19277, ec, pI19277⟩, rfl⟩ := hq
                  rw [ec]
                  clear ec Ra
                  have e19279 : I19277 (ad g 1) 1 = L := hI19277.2
                  have b19280 := BT_get hI19277.1 1 1 2 (0) (0) (900) (by decide) 1 (by decide) (by decide)
                  rw [e19279] at b19280
                  refine WP_iinc (ls' := [(0, _), (1, _), (2, _), (3, _), (4, _)]) dX3_readTown_108 rfl (by decide) rfl ?_
                  have hv19281 : (i19018 + Int32.ofInt (1)).toInt = i19018.toInt + (1) := ia_n rfl (by omega) (by omega)
                  generalize i19018 + Int32.ofInt (1) = v19281 at hv19281 ⊢
                  refine WP_goto 18 dX3_readTown_111 rfl ?_
                  exact WP_sub (fc rfl (fc rfl (fc rfl fn))) (ihlp18_19020 v19281 I19277 J19278 hI19277 (by omega) (by omega) (by omega))
                · refine WP_aload_n dX3_readTown_91 rfl ?_
                  refine WP_iload dX3_readTown_92 rfl ?_
                  refine WP_callV1 (k := 3) dX3_readTown_94 ⟨⟨⟨by decide, by decide⟩, zX3_note⟩, lX3_31, by decide, rfl, vX3_note.1, vX3_note.2⟩ (lyx_is hy 3 3 rfl) (sx_notef hy hr hI19266 v19268 ) (Nat.le_of_ble_eq_true rfl) ?_
                  intro r I19282 J19283 Ra hq
                  obtain ⟨⟨hI19282, ec, fiI19282⟩, rfl⟩ := hq
                  rw [ec]
                  clear ec Ra
                  have e19284 : I19282 (ad g 4) 0 = w19271 := by rw [fz_at fiI19282 4 (by decide) (by decide)]; exact ew19271
                  have e19285 : I19282 (ad g 4) 1 = w19272 := by rw [fz_at fiI19282 4 (by decide) (by decide)]; exact ew19272
                  have e19286 : I19282 (ad g 4) 2 = w19273 := by rw [fz_at fiI19282 4 (by decide) (by decide)]; exact ew19273
                  have e19287 : I19282 (ad g 4) 3 = w19274 := by rw [fz_at fiI19282 4 (by decide) (by decide)]; exact ew19274
                  have e19288 : I19282 (ad g 4) 4 = w19275 := by rw [fz_at fiI19282 4 (by decide) (by decide)]; exact ew19275
                  have e19289 : I19282 (ad g 1) 1 = L := hI19282.2
                  have b19290 := BT_get hI19282.1 1 1 2 (0) (0) (900) (by decide) 1 (by decide) (by decide)
                  rw [e19289] at b19290
                  refine WQ_iconst (0) (0) dX3_readTown_97 rfl rfl (fun v19291 hv19291 => ?_)
                  exact WP_zret dX3_readTown_98 rfl (nar_z (by omega)) ⟨⟨hI19282, rfl⟩, _, rfl, by omega, by omega⟩
            · refine WP_aload_n dX3_readTown_59 rfl ?_
              refine WP_iload_n dX3_readTown_60 rfl ?_
              refine WP_callV1 (k := 7) dX3_readTown_61 ⟨⟨⟨by decide, by decide⟩, zX7_faultAhead⟩, lX3_50, by decide, rfl, vX7_faultAhead.1, vX7_faultAhead.2⟩ (lyx_is hy 6 7 rfl) (sx_faultAhead_6_7 hy hr hI19027 v19033 (by omega) (by omega)) (Nat.le_of_ble_eq_true rfl) ?_
              intro r Ia Ja Ra hq
              obtain ⟨⟨ea, eb, ec⟩, v19292, rfl, av19292, bv19292⟩ := hq
              show WP _ _ _ _ (.int _ :: _) _ _ _ _
              rw [ea, eb, ec]
              clear ea eb ec Ia Ja Ra
              refine WP_istore (ls' := [(0, _), (1, _), (2, _), (3, _), (4, _)]) dX3_readTown_64 (by decide) rfl ?_
              refine WP_iload dX3_readTown_66 rfl ?_
              refine WQ_if_ne 86 dX3_readTown_68 rfl (fun c19292 => ?_) (fun c19292 => ?_)
              · refine WP_iload dX3_readTown_86 rfl ?_
                refine WQ_if_eq 99 dX3_readTown_88 rfl (fun c19293 => False.elim (by omega)) (fun c19293 => ?_)
                refine WP_aload_n dX3_readTown_91 rfl ?_
                refine WP_iload dX3_readTown_92 rfl ?_
                refine WP_callV1 (k := 3) dX3_readTown_94 ⟨⟨⟨by decide, by decide⟩, zX3_note⟩, lX3_31, by decide, rfl, vX3_note.1, vX3_note.2⟩ (lyx_is hy 3 3 rfl) (sx_notef hy hr hI19027 v19292 ) (Nat.le_of_ble_eq_true rfl) ?_
                intro r I19295 J19296 Ra hq
                obtain ⟨⟨hI19295, ec, fiI19295⟩, rfl⟩ := hq
                rw [ec]
                clear ec Ra
                have e19297 : I19295 (ad g 1) 2 = v19031 := by rw [fz_at fiI19295 1 (by decide) (by decide)]; exact ev19031
                have e19298 : I19295 (ad g 1) 1 = L := hI19295.2
                have b19299 := BT_get hI19295.1 1 1 2 (0) (0) (900) (by decide) 1 (by decide) (by decide)
                rw [e19298] at b19299
                refine WQ_iconst (0) (0) dX3_readTown_97 rfl rfl (fun v19300 hv19300 => ?_)
                exact WP_zret dX3_readTown_98 rfl (nar_z (by omega)) ⟨⟨hI19295, rfl⟩, _, rfl, by omega, by omega⟩
              · refine WP_aload_n dX3_readTown_71 rfl ?_
                refine WP_getr dX3_readTown_72 fX3_15 rfl (lyx_is hy 3 3 rfl) (rfx hr 3 2 1 (by decide)) ?_
                refine WP_callV0 (k := 5) dX3_readTown_75 ⟨⟨⟨by decide, by decide⟩, zX5_next⟩, lX3_40, by decide, rfl, vX5_next.1, vX5_next.2⟩ (lyx_is hy 1 5 rfl) (sx_nextf hy hr hI19027  ) (Nat.le_of_ble_eq_true rfl) ?_
                intro r I19301 J19302 Ra hq
                obtain ⟨⟨hI19301, ec, fiI19301⟩, rfl⟩ := hq
                rw [ec]
                clear ec Ra
                have e19303 : I19301 (ad g 1) 1 = L := hI19301.2
                have b19304 := BT_get hI19301.1 1 1 2 (0) (0) (900) (by decide) 1 (by decide) (by decide)
                rw [e19303] at b19304
                refine WP_aload_n dX3_readTown_78 rfl ?_
                refine WP_iload_n dX3_readTown_79 rfl ?_
                refine WP_aload_n dX3_readTown_80 rfl ?_
                refine WP_callV2 (k := 3) dX3_readTown_81 ⟨⟨⟨by decide, by decide⟩, zX3_faultInParts⟩, lX3_54, by decide, rfl, vX3_faultInParts.1, vX3_faultInParts.2⟩ (lyx_is hy 3 3 rfl) (sx_parts_6_7 hy hz hr hI19301 v19033 (by omega) (by omega)) (Nat.le_of_ble_eq_true rfl) ?_
                intro r I19305 J19306 Ra hq
                obtain ⟨⟨hI19305, ec, ⟨pI19305, sI19305_6_1, sI19305_6_2⟩⟩, v19307, rfl, av19307, bv19307, cv19307⟩ := hq
                show WP _ _ _ _ (.int _ :: _) _ _ _ _
                rw [ec]
                clear ec Ra
                have e19308 : I19305 (ad g 1) 1 = L := hI19305.2
                have b19309 := BT_get hI19305.1 1 1 2 (0) (0) (900) (by decide) 1 (by decide) (by decide)
                rw [e19308] at b19309
                obtain ⟨w19310, ew19310⟩ : ∃ w : Int32, I19305 (ad g 4) 0 = w := ⟨_, rfl⟩
                have bw19310 := BT_get hI19305.1 4 0 5 (0) (0) (1000) (by decide) 0 (by decide) (by decide)
                rw [ew19310] at bw19310
                rw [ew19310] at cv19307
                refine WP_istore (ls' := [(0, _), (1, _), (2, _), (3, _), (4, _)]) dX3_readTown_84 (by decide) rfl ?_
                refine WP_iload dX3_readTown_86 rfl ?_
                refine WQ_if_eq 99 dX3_readTown_88 rfl (fun c19310 => ?_) (fun c19310 => ?_)
                · refine WP_aload_n dX3_readTown_99 rfl ?_
                  refine WP_iload_n dX3_readTown_100 rfl ?_
                  refine WP_aload_n dX3_readTown_101 rfl ?_
                  refine WP_getr dX3_readTown_102 fX3_9 rfl (lyx_is hy 3 3 rfl) (rfx hr 3 3 4 (by decide)) ?_
                  refine WP_callV2 (k := 7) dX3_readTown_105 ⟨⟨⟨by decide, by decide⟩, zX7_tell⟩, lX3_58, by decide, rfl, vX7_tell.1, vX7_tell.2⟩ (lyx_is hy 6 7 rfl) (sx_tell_6_7 hy hr hI19305 v19033 (by omega) (by omega) (by rw [ew19310]; omega)) (Nat.le_of_ble_eq_true rfl) ?_
                  intro r I19312 J19313 Ra hq
                  obtain ⟨⟨hI19312, ec, pI19312⟩, rfl⟩ := hq
                  rw [ec]
                  clear ec Ra
                  have e19314 : I19312 (ad g 1) 1 = L := hI19312.2
                  have b19315 := BT_get hI19312.1 1 1 2 (0) (0) (900) (by decide) 1 (by decide) (by decide)
                  rw [e19314] at b19315
                  refine WP_iinc (ls' := [(0, _), (1, _), (2, _), (3, _), (4, _)]) dX3_readTown_108 rfl (by decide) rfl ?_
                  have hv19316 : (i19018 + Int32.ofInt (1)).toInt = i19018.toInt + (1) := ia_n rfl (by omega) (by omega)
                  generalize i19018 + Int32.ofInt (1) = v19316 at hv19316 ⊢
                  refine WP_goto 18 dX3_readTown_111 rfl ?_
                  exact WP_sub (fc rfl (fc rfl (fc rfl fn))) (ihlp18_19020 v19316 I19312 J19313 hI19312 (by omega) (by omega) (by omega))
                · refine WP_aload_n dX3_readTown_91 rfl ?_
                  refine WP_iload dX3_readTown_92 rfl ?_
                  refine WP_callV1 (k := 3) dX3_readTown_94 ⟨⟨⟨by decide, by decide⟩, zX3_note⟩, lX3_31, by decide, rfl, vX3_note.1, vX3_note.2⟩ (lyx_is hy 3 3 rfl) (sx_notef hy hr hI19305 v19307 ) (Nat.le_of_ble_eq_true rfl) ?_
                  intro r I19317 J19318 Ra hq
                  obtain ⟨⟨hI19317, ec, fiI19317⟩, rfl⟩ := hq
                  rw [ec]
                  clear ec Ra
                  have e19319 : I19317 (ad g 4) 0 = w19310 := by rw [fz_at fiI19317 4 (by decide) (by decide)]; exact ew19310
                  have e19320 : I19317 (ad g 1) 1 = L := hI19317.2
                  have b19321 := BT_get hI19317.1 1 1 2 (0) (0) (900) (by decide) 1 (by decide) (by decide)
                  rw [e19320] at b19321
                  refine WQ_iconst (0) (0) dX3_readTown_97 rfl rfl (fun v19322 hv19322 => ?_)
                  exact WP_zret dX3_readTown_98 rfl (nar_z (by omega)) ⟨⟨hI19317, rfl⟩, _, rfl, by omega, by omega⟩
            · refine WP_aload_n dX3_readTown_59 rfl ?_
              refine WP_iload_n dX3_readTown_60 rfl ?_
              refine WP_callV1 (k := 7) dX3_readTown_61 ⟨⟨⟨by decide, by decide⟩, zX7_faultAhead⟩, lX3_50, by decide, rfl, vX7_faultAhead.1, vX7_faultAhead.2⟩ (lyx_is hy 6 7 rfl) (sx_faultAhead_6_8 hy hr hI19027 v19033 (by omega) (by omega)) (Nat.le_of_ble_eq_true rfl) ?_
              intro r Ia Ja Ra hq
              obtain ⟨⟨ea, eb, ec⟩, v19323, rfl, av19323, bv19323⟩ := hq
              show WP _ _ _ _ (.int _ :: _) _ _ _ _
              rw [ea, eb, ec]
              clear ea eb ec Ia Ja Ra
              refine WP_istore (ls' := [(0, _), (1, _), (2, _), (3, _), (4, _)]) dX3_readTown_64 (by decide) rfl ?_
              refine WP_iload dX3_readTown_66 rfl ?_
              refine WQ_if_ne 86 dX3_readTown_68 rfl (fun c19323 => ?_) (fun c19323 => ?_)
              · refine WP_iload dX3_readTown_86 rfl ?_
                refine WQ_if_eq 99 dX3_readTown_88 rfl (fun c19324 => False.elim (by omega)) (fun c19324 => ?_)
                refine WP_aload_n dX3_readTown_91 rfl ?_
                refine WP_iload dX3_readTown_92 rfl ?_
                refine WP_callV1 (k := 3) dX3_readTown_94 ⟨⟨⟨by decide, by decide⟩, zX3_note⟩, lX3_31, by decide, rfl, vX3_note.1, vX3_note.2⟩ (lyx_is hy 3 3 rfl) (sx_notef hy hr hI19027 v19323 ) (Nat.le_of_ble_eq_true rfl) ?_
                intro r I19326 J19327 Ra hq
                obtain ⟨⟨hI19326, ec, fiI19326⟩, rfl⟩ := hq
                rw [ec]
                clear ec Ra
                have e19328 : I19326 (ad g 1) 2 = v19031 := by rw [fz_at fiI19326 1 (by decide) (by decide)]; exact ev19031
                have e19329 : I19326 (ad g 1) 1 = L := hI19326.2
                have b19330 := BT_get hI19326.1 1 1 2 (0) (0) (900) (by decide) 1 (by decide) (by decide)
                rw [e19329] at b19330
                refine WQ_iconst (0) (0) dX3_readTown_97 rfl rfl (fun v19331 hv19331 => ?_)
                exact WP_zret dX3_readTown_98 rfl (nar_z (by omega)) ⟨⟨hI19326, rfl⟩, _, rfl, by omega, by omega⟩
              · refine WP_aload_n dX3_readTown_71 rfl ?_
                refine WP_getr dX3_readTown_72 fX3_15 rfl (lyx_is hy 3 3 rfl) (rfx hr 3 2 1 (by decide)) ?_
                refine WP_callV0 (k := 5) dX3_readTown_75 ⟨⟨⟨by decide, by decide⟩, zX5_next⟩, lX3_40, by decide, rfl, vX5_next.1, vX5_next.2⟩ (lyx_is hy 1 5 rfl) (sx_nextf hy hr hI19027  ) (Nat.le_of_ble_eq_true rfl) ?_
                intro r I19332 J19333 Ra hq
                obtain ⟨⟨hI19332, ec, fiI19332⟩, rfl⟩ := hq
                rw [ec]
                clear ec Ra
                have e19334 : I19332 (ad g 1) 1 = L := hI19332.2
                have b19335 := BT_get hI19332.1 1 1 2 (0) (0) (900) (by decide) 1 (by decide) (by decide)
                rw [e19334] at b19335
                refine WP_aload_n dX3_readTown_78 rfl ?_
                refine WP_iload_n dX3_readTown_79 rfl ?_
                refine WP_aload_n dX3_readTown_80 rfl ?_
                refine WP_callV2 (k := 3) dX3_readTown_81 ⟨⟨⟨by decide, by decide⟩, zX3_faultInParts⟩, lX3_54, by decide, rfl, vX3_faultInParts.1, vX3_faultInParts.2⟩ (lyx_is hy 3 3 rfl) (sx_parts_6_8 hy hz hr hI19332 v19033 (by omega) (by omega)) (Nat.le_of_ble_eq_true rfl) ?_
                intro r I19336 J19337 Ra hq
                obtain ⟨⟨hI19336, ec, ⟨pI19336, sI19336_6_1, sI19336_6_2⟩⟩, v19338, rfl, av19338, bv19338, cv19338⟩ := hq
                show WP _ _ _ _ (.int _ :: _) _ _ _ _
                rw [ec]
                clear ec Ra
                have e19339 : I19336 (ad g 1) 1 = L := hI19336.2
                have b19340 := BT_get hI19336.1 1 1 2 (0) (0) (900) (by decide) 1 (by decide) (by decide)
                rw [e19339] at b19340
                obtain ⟨w19341, ew19341⟩ : ∃ w : Int32, I19336 (ad g 4) 0 = w := ⟨_, rfl⟩
                have bw19341 := BT_get hI19336.1 4 0 5 (0) (0) (1000) (by decide) 0 (by decide) (by decide)
                rw [ew19341] at bw19341
                rw [ew19341] at cv19338
                refine WP_istore (ls' := [(0, _), (1, _), (2, _), (3, _), (4, _)]) dX3_readTown_84 (by decide) rfl ?_
                refine WP_iload dX3_readTown_86 rfl ?_
                refine WQ_if_eq 99 dX3_readTown_88 rfl (fun c19341 => ?_) (fun c19341 => ?_)
                · refine WP_aload_n dX3_readTown_99 rfl ?_
                  refine WP_iload_n dX3_readTown_100 rfl ?_
                  refine WP_aload_n dX3_readTown_101 rfl ?_
                  refine WP_getr dX3_readTown_102 fX3_9 rfl (lyx_is hy 3 3 rfl) (rfx hr 3 3 4 (by decide)) ?_
                  refine WP_callV2 (k := 7) dX3_readTown_105 ⟨⟨⟨by decide, by decide⟩, zX7_tell⟩, lX3_58, by decide, rfl, vX7_tell.1, vX7_tell.2⟩ (lyx_is hy 6 7 rfl) (sx_tell_6_8 hy hr hI19336 v19033 (by omega) (by omega) (by rw [ew19341]; omega)) (Nat.le_of_ble_eq_true rfl) ?_
                  intro r I19343 J19344 Ra hq
                  obtain ⟨⟨hI19343, ec, pI19343⟩, rfl⟩ := hq
                  rw [ec]
                  clear ec Ra
                  have e19345 : I19343 (ad g 1) 1 = L := hI19343.2
                  have b19346 := BT_get hI19343.1 1 1 2 (0) (0) (900) (by decide) 1 (by decide) (by decide)
                  rw [e19345] at b19346
                  refine WP_iinc (ls' := [(0, _), (1, _), (2, _), (3, _), (4, _)]) dX3_readTown_108 rfl (by decide) rfl ?_
                  have hv19347 : (i19018 + Int32.ofInt (1)).toInt = i19018.toInt + (1) := ia_n rfl (by omega) (by omega)
                  generalize i19018 + Int32.ofInt (1) = v19347 at hv19347 ⊢
                  refine WP_goto 18 dX3_readTown_111 rfl ?_
                  exact WP_sub (fc rfl (fc rfl (fc rfl fn))) (ihlp18_19020 v19347 I19343 J19344 hI19343 (by omega) (by omega) (by omega))
                · refine WP_aload_n dX3_readTown_91 rfl ?_
                  refine WP_iload dX3_readTown_92 rfl ?_
                  refine WP_callV1 (k := 3) dX3_readTown_94 ⟨⟨⟨by decide, by decide⟩, zX3_note⟩, lX3_31, by decide, rfl, vX3_note.1, vX3_note.2⟩ (lyx_is hy 3 3 rfl) (sx_notef hy hr hI19336 v19338 ) (Nat.le_of_ble_eq_true rfl) ?_
                  intro r I19348 J19349 Ra hq
                  obtain ⟨⟨hI19348, ec, fiI19348⟩, rfl⟩ := hq
                  rw [ec]
                  clear ec Ra
                  have e19350 : I19348 (ad g 4) 0 = w19341 := by rw [fz_at fiI19348 4 (by decide) (by decide)]; exact ew19341
                  have e19351 : I19348 (ad g 1) 1 = L := hI19348.2
                  have b19352 := BT_get hI19348.1 1 1 2 (0) (0) (900) (by decide) 1 (by decide) (by decide)
                  rw [e19351] at b19352
                  refine WQ_iconst (0) (0) dX3_readTown_97 rfl rfl (fun v19353 hv19353 => ?_)
                  exact WP_zret dX3_readTown_98 rfl (nar_z (by omega)) ⟨⟨hI19348, rfl⟩, _, rfl, by omega, by omega⟩
            · refine WP_aload_n dX3_readTown_59 rfl ?_
              refine WP_iload_n dX3_readTown_60 rfl ?_
              refine WP_callV1 (k := 7) dX3_readTown_61 ⟨⟨⟨by decide, by decide⟩, zX7_faultAhead⟩, lX3_50, by decide, rfl, vX7_faultAhead.1, vX7_faultAhead.2⟩ (lyx_is hy 6 7 rfl) (sx_faultAhead_6_9 hy hr hI19027 v19033 (by omega) (by omega)) (Nat.le_of_ble_eq_true rfl) ?_
              intro r Ia Ja Ra hq
              obtain ⟨⟨ea, eb, ec⟩, v19354, rfl, av19354, bv19354⟩ := hq
              show WP _ _ _ _ (.int _ :: _) _ _ _ _
              rw [ea, eb, ec]
              clear ea eb ec Ia Ja Ra
              refine WP_istore (ls' := [(0, _), (1, _), (2, _), (3, _), (4, _)]) dX3_readTown_64 (by decide) rfl ?_
              refine WP_iload dX3_readTown_66 rfl ?_
              refine WQ_if_ne 86 dX3_readTown_68 rfl (fun c19354 => ?_) (fun c19354 => ?_)
              · refine WP_iload dX3_readTown_86 rfl ?_
                refine WQ_if_eq 99 dX3_readTown_88 rfl (fun c19355 => False.elim (by omega)) (fun c19355 => ?_)
                refine WP_aload_n dX3_readTown_91 rfl ?_
                refine WP_iload dX3_readTown_92 rfl ?_
                refine WP_callV1 (k := 3) dX3_readTown_94 ⟨⟨⟨by decide, by decide⟩, zX3_note⟩, lX3_31, by decide, rfl, vX3_note.1, vX3_note.2⟩ (lyx_is hy 3 3 rfl) (sx_notef hy hr hI19027 v19354 ) (Nat.le_of_ble_eq_true rfl) ?_
                intro r I19357 J19358 Ra hq
                obtain ⟨⟨hI19357, ec, fiI19357⟩, rfl⟩ := hq
                rw [ec]
                clear ec Ra
                have e19359 : I19357 (ad g 1) 2 = v19031 := by rw [fz_at fiI19357 1 (by decide) (by decide)]; exact ev19031
                have e19360 : I19357 (ad g 1) 1 = L := hI19357.2
                have b19361 := BT_get hI19357.1 1 1 2 (0) (0) (900) (by decide) 1 (by decide) (by decide)
                rw [e19360] at b19361
                refine WQ_iconst (0) (0) dX3_readTown_97 rfl rfl (fun v19362 hv19362 => ?_)
                exact WP_zret dX3_readTown_98 rfl (nar_z (by omega)) ⟨⟨hI19357, rfl⟩, _, rfl, by omega, by omega⟩
              · refine WP_aload_n dX3_readTown_71 rfl ?_
                refine WP_getr dX3_readTown_72 fX3_15 rfl (lyx_is hy 3 3 rfl) (rfx hr 3 2 1 (by decide)) ?_
                refine WP_callV0 (k := 5) dX3_readTown_75 ⟨⟨⟨by decide, by decide⟩, zX5_next⟩, lX3_40, by decide, rfl, vX5_next.1, vX5_next.2⟩ (lyx_is hy 1 5 rfl) (sx_nextf hy hr hI19027  ) (Nat.le_of_ble_eq_true rfl) ?_
                intro r I19363 J19364 Ra hq
                obtain ⟨⟨hI19363, ec, fiI19363⟩, rfl⟩ := hq
                rw [ec]
                clear ec Ra
                have e19365 : I19363 (ad g 1) 1 = L := hI19363.2
                have b19366 := BT_get hI19363.1 1 1 2 (0) (0) (900) (by decide) 1 (by decide) (by decide)
                rw [e19365] at b19366
                refine WP_aload_n dX3_readTown_78 rfl ?_
                refine WP_iload_n dX3_readTown_79 rfl ?_
                refine WP_aload_n dX3_readTown_80 rfl ?_
                refine WP_callV2 (k := 3) dX3_readTown_81 ⟨⟨⟨by decide, by decide⟩, zX3_faultInParts⟩, lX3_54, by decide, rfl, vX3_faultInParts.1, vX3_faultInParts.2⟩ (lyx_is hy 3 3 rfl) (sx_parts_6_9 hy hz hr hI19363 v19033 (by omega) (by omega)) (Nat.le_of_ble_eq_true rfl) ?_
                intro r I19367 J19368 Ra hq
                obtain ⟨⟨hI19367, ec, ⟨pI19367, sI19367_6_1, sI19367_6_2⟩⟩, v19369, rfl, av19369, bv19369, cv19369⟩ := hq
                show WP _ _ _ _ (.int _ :: _) _ _ _ _
                rw [ec]
                clear ec Ra
                have e19370 : I19367 (ad g 1) 1 = L := hI19367.2
                have b19371 := BT_get hI19367.1 1 1 2 (0) (0) (900) (by decide) 1 (by decide) (by decide)
                rw [e19370] at b19371
                obtain ⟨w19372, ew19372⟩ : ∃ w : Int32, I19367 (ad g 4) 0 = w := ⟨_, rfl⟩
                have bw19372 := BT_get hI19367.1 4 0 5 (0) (0) (1000) (by decide) 0 (by decide) (by decide)
                rw [ew19372] at bw19372
                rw [ew19372] at cv19369
                refine WP_istore (ls' := [(0, _), (1, _), (2, _), (3, _), (4, _)]) dX3_readTown_84 (by decide) rfl ?_
                refine WP_iload dX3_readTown_86 rfl ?_
                refine WQ_if_eq 99 dX3_readTown_88 rfl (fun c19372 => ?_) (fun c19372 => ?_)
                · refine WP_aload_n dX3_readTown_99 rfl ?_
                  refine WP_iload_n dX3_readTown_100 rfl ?_
                  refine WP_aload_n dX3_readTown_101 rfl ?_
                  refine WP_getr dX3_readTown_102 fX3_9 rfl (lyx_is hy 3 3 rfl) (rfx hr 3 3 4 (by decide)) ?_
                  refine WP_callV2 (k := 7) dX3_readTown_105 ⟨⟨⟨by decide, by decide⟩, zX7_tell⟩, lX3_58, by decide, rfl, vX7_tell.1, vX7_tell.2⟩ (lyx_is hy 6 7 rfl) (sx_tell_6_9 hy hr hI19367 v19033 (by omega) (by omega) (by rw [ew19372]; omega)) (Nat.le_of_ble_eq_true rfl) ?_
                  intro r I19374 J19375 Ra hq
                  obtain ⟨⟨hI19374, ec, pI19374⟩, rfl⟩ := hq
                  rw [ec]
                  clear ec Ra
                  have e19376 : I19374 (ad g 1) 1 = L := hI19374.2
                  have b19377 := BT_get hI19374.1 1 1 2 (0) (0) (900) (by decide) 1 (by decide) (by decide)
                  rw [e19376] at b19377
                  refine WP_iinc (ls' := [(0, _), (1, _), (2, _), (3, _), (4, _)]) dX3_readTown_108 rfl (by decide) rfl ?_
                  have hv19378 : (i19018 + Int32.ofInt (1)).toInt = i19018.toInt + (1) := ia_n rfl (by omega) (by omega)
                  generalize i19018 + Int32.ofInt (1) = v19378 at hv19378 ⊢
                  refine WP_goto 18 dX3_readTown_111 rfl ?_
                  exact WP_sub (fc rfl (fc rfl (fc rfl fn))) (ihlp18_19020 v19378 I19374 J19375 hI19374 (by omega) (by omega) (by omega))
                · refine WP_aload_n dX3_readTown_91 rfl ?_
                  refine WP_iload dX3_readTown_92 rfl ?_
                  refine WP_callV1 (k := 3) dX3_readTown_94 ⟨⟨⟨by decide, by decide⟩, zX3_note⟩, lX3_31, by decide, rfl, vX3_note.1, vX3_note.2⟩ (lyx_is hy 3 3 rfl) (sx_notef hy hr hI19367 v19369 ) (Nat.le_of_ble_eq_true rfl) ?_
                  intro r I19379 J19380 Ra hq
                  obtain ⟨⟨hI19379, ec, fiI19379⟩, rfl⟩ := hq
                  rw [ec]
                  clear ec Ra
                  have e19381 : I19379 (ad g 4) 0 = w19372 := by rw [fz_at fiI19379 4 (by decide) (by decide)]; exact ew19372
                  have e19382 : I19379 (ad g 1) 1 = L := hI19379.2
                  have b19383 := BT_get hI19379.1 1 1 2 (0) (0) (900) (by decide) 1 (by decide) (by decide)
                  rw [e19382] at b19383
                  refine WQ_iconst (0) (0) dX3_readTown_97 rfl rfl (fun v19384 hv19384 => ?_)
                  exact WP_zret dX3_readTown_98 rfl (nar_z (by omega)) ⟨⟨hI19379, rfl⟩, _, rfl, by omega, by omega⟩
          · refine WQ_iconst (1) (1) dX3_readTown_55 rfl rfl (fun v19385 hv19385 => ?_)
            refine WP_goto 64 dX3_readTown_56 rfl ?_
            refine WP_istore (ls' := [(0, _), (1, _), (2, _), (3, _), (4, _)]) dX3_readTown_64 (by decide) rfl ?_
            refine WP_iload dX3_readTown_66 rfl ?_
            refine WQ_if_ne 86 dX3_readTown_68 rfl (fun c19385 => ?_) (fun c19385 => False.elim (by omega))
            refine WP_iload dX3_readTown_86 rfl ?_
            refine WQ_if_eq 99 dX3_readTown_88 rfl (fun c19386 => False.elim (by omega)) (fun c19386 => ?_)
            refine WP_aload_n dX3_readTown_91 rfl ?_
            refine WP_iload dX3_readTown_92 rfl ?_
            refine WP_callV1 (k := 3) dX3_readTown_94 ⟨⟨⟨by decide, by decide⟩, zX3_note⟩, lX3_31, by decide, rfl, vX3_note.1, vX3_note.2⟩ (lyx_is hy 3 3 rfl) (sx_notef hy hr hI19027 v19385 ) (Nat.le_of_ble_eq_true rfl) ?_
            intro r I19388 J19389 Ra hq
            obtain ⟨⟨hI19388, ec, fiI19388⟩, rfl⟩ := hq
            rw [ec]
            clear ec Ra
            have e19390 : I19388 (ad g 1) 2 = v19031 := by rw [fz_at fiI19388 1 (by decide) (by decide)]; exact ev19031
            have e19391 : I19388 (ad g 1) 1 = L := hI19388.2
            have b19392 := BT_get hI19388.1 1 1 2 (0) (0) (900) (by decide) 1 (by decide) (by decide)
            rw [e19391] at b19392
            refine WQ_iconst (0) (0) dX3_readTown_97 rfl rfl (fun v19393 hv19393 => ?_)
            exact WP_zret dX3_readTown_98 rfl (nar_z (by omega)) ⟨⟨hI19388, rfl⟩, _, rfl, by omega, by omega⟩
        · refine WP_goto 114 dX3_readTown_42 rfl ?_
          refine WQ_iconst (1) (1) dX3_readTown_114 rfl rfl (fun v19394 hv19394 => ?_)
          exact WP_zret dX3_readTown_115 rfl (nar_z (by omega)) ⟨⟨hI19027, rfl⟩, _, rfl, by omega, by omega⟩
  exact WP_sub (fc rfl (fc rfl (fc rfl fn))) (lp18_19020 _ v19017 I19013 J19014 hI19013 (by omega) (by omega) (Nat.lt_succ_self _))
set_option maxHeartbeats 4000000 in
set_option maxRecDepth 100000 in
theorem sx_readBook_6 {g : GG} {n : Int} {L : Int32} (hy : LyX g) {aK aV : Nat → Nat} {fo : Option Nat} (hz : HZ g aK aV fo)  {I : pI} {J : pJ} {R : pR} (hr : RfX g R) (hI : XI g n L I)   : SP g mX3_readBook [.ref (ad g 3), .ref (ad g 6)] I J R (fun r I' J' R' => (XI g n L I' ∧ R' = R) ∧ ∃ v : Int32, r = some (.int v)) := by
  refine SP_of ⟨by decide, rfl⟩ (Nat.le_of_ble_eq_true rfl) ?_
  have e19395 : I (ad g 1) 1 = L := hI.2
  have b19396 := BT_get hI.1 1 1 2 (0) (0) (900) (by decide) 1 (by decide) (by decide)
  rw [e19395] at b19396
  refine WQ_bipush (-3) (-3) dX3_readBook_0 rfl rfl (fun v19397 hv19397 => ?_)
  refine WP_istore_n (ls' := [(0, _), (1, _), (2, _)]) dX3_readBook_2 (by decide) rfl ?_
  refine WP_aload_n dX3_readBook_3 rfl ?_
  refine WQ_iconst (0) (0) dX3_readBook_4 rfl rfl (fun v19398 hv19398 => ?_)
  refine WP_callV1 (k := 3) dX3_readBook_5 ⟨⟨⟨by decide, by decide⟩, zX3_note⟩, lX3_31, by decide, rfl, vX3_note.1, vX3_note.2⟩ (lyx_is hy 3 3 rfl) (sx_notef hy hr hI v19398 ) (Nat.le_of_ble_eq_true rfl) ?_
  intro r I19399 J19400 Ra hq
  obtain ⟨⟨hI19399, ec, fiI19399⟩, rfl⟩ := hq
  rw [ec]
  clear ec Ra
  have e19401 : I19399 (ad g 1) 1 = L := hI19399.2
  have b19402 := BT_get hI19399.1 1 1 2 (0) (0) (900) (by decide) 1 (by decide) (by decide)
  rw [e19401] at b19402
  refine WP_aload_n dX3_readBook_8 rfl ?_
  refine WP_getr dX3_readBook_9 fX3_15 rfl (lyx_is hy 3 3 rfl) (rfx hr 3 2 1 (by decide)) ?_
  refine WP_callV0 (k := 5) dX3_readBook_12 ⟨⟨⟨by decide, by decide⟩, zX5_rewind⟩, lX3_35, by decide, rfl, vX5_rewind.1, vX5_rewind.2⟩ (lyx_is hy 1 5 rfl) (sx_rewindf hy hr hI19399  ) (Nat.le_of_ble_eq_true rfl) ?_
  intro r I19403 J19404 Ra hq
  obtain ⟨⟨hI19403, ec, fiI19403⟩, rfl⟩ := hq
  rw [ec]
  clear ec Ra
  have e19405 : I19403 (ad g 1) 1 = L := hI19403.2
  have b19406 := BT_get hI19403.1 1 1 2 (0) (0) (900) (by decide) 1 (by decide) (by decide)
  rw [e19405] at b19406
  refine WQ_iconst (0) (0) dX3_readBook_15 rfl rfl (fun v19407 hv19407 => ?_)
  refine WP_istore_n (ls' := [(0, _), (1, _), (2, _), (3, _)]) dX3_readBook_16 (by decide) rfl ?_
  have lp17_19411 : ∀ (mz : Nat) (i19408 : Int32) (i19409 : Int32) (I19410 : pI) (J19411 : pJ), XI g n L I19410 → 0 ≤ i19409.toInt → i19409.toInt ≤ 901 → (902 - i19409.toInt).toNat < mz → WP g mX3_readBook 17 [(0, .ref (ad g 3)), (1, .ref (ad g 6)), (2, .int i19408), (3, .int i19409)] [] I19410 J19411 R (fun r I' J' R' => (XI g n L I' ∧ R' = R) ∧ ∃ v : Int32, r = some (.int v)) := by
    intro mz
    induction mz with
    | zero =>
      intro i19408 i19409 I19410 J19411 hI19410 ai19409 bi19409 hmlp17_19411
      exact absurd hmlp17_19411 (Nat.not_lt_zero _)
    | succ mz ihlp17_19411 =>
      intro i19408 i19409 I19410 J19411 hI19410 ai19409 bi19409 hmlp17_19411
      have e19413 : I19410 (ad g 1) 1 = L := hI19410.2
      have b19414 := BT_get hI19410.1 1 1 2 (0) (0) (900) (by decide) 1 (by decide) (by decide)
      rw [e19413] at b19414
      refine WP_iload_n dX3_readBook_17 rfl ?_
      refine WQ_sipush (900) (900) dX3_readBook_18 rfl rfl (fun v19415 hv19415 => ?_)
      refine WQ_icmp_gt 91 dX3_readBook_21 rfl (fun c19415 => ?_) (fun c19415 => ?_)
      · refine WP_iload_n dX3_readBook_91 rfl ?_
        exact WP_iret dX3_readBook_92 rfl ⟨⟨hI19410, rfl⟩, _, rfl⟩
      · refine WP_aload_n dX3_readBook_24 rfl ?_
        refine WP_getr dX3_readBook_25 fX3_15 rfl (lyx_is hy 3 3 rfl) (rfx hr 3 2 1 (by decide)) ?_
        refine WP_callV0 (k := 5) dX3_readBook_28 ⟨⟨⟨by decide, by decide⟩, zX5_next⟩, lX3_40, by decide, rfl, vX5_next.1, vX5_next.2⟩ (lyx_is hy 1 5 rfl) (sx_nextf hy hr hI19410  ) (Nat.le_of_ble_eq_true rfl) ?_
        intro r I19417 J19418 Ra hq
        obtain ⟨⟨hI19417, ec, fiI19417⟩, rfl⟩ := hq
        rw [ec]
        clear ec Ra
        have e19419 : I19417 (ad g 1) 1 = L := hI19417.2
        have b19420 := BT_get hI19417.1 1 1 2 (0) (0) (900) (by decide) 1 (by decide) (by decide)
        rw [e19419] at b19420
        refine WP_aload_n dX3_readBook_31 rfl ?_
        refine WP_getr dX3_readBook_32 fX3_15 rfl (lyx_is hy 3 3 rfl) (rfx hr 3 2 1 (by decide)) ?_
        refine WQ_geti dX3_readBook_35 fX3_43 rfl (lyx_is hy 1 5 rfl) (BT_get hI19417.1 1 2 3 (0) (0) (4) (by decide) 2 (by decide) (by decide)) (fun v19421 ev19421 av19421 bv19421 => ?_)
        refine WQ_if_ne 44 dX3_readBook_38 rfl (fun c19421 => ?_) (fun c19421 => ?_)
        · refine WP_aload_n dX3_readBook_44 rfl ?_
          refine WQ_bipush (10) (10) dX3_readBook_45 rfl rfl (fun v19423 hv19423 => ?_)
          refine WP_aload_n dX3_readBook_47 rfl ?_
          refine WP_callV2 (k := 3) dX3_readBook_48 ⟨⟨⟨by decide, by decide⟩, zX3_faultInParts⟩, lX3_54, by decide, rfl, vX3_faultInParts.1, vX3_faultInParts.2⟩ (lyx_is hy 3 3 rfl) (sx_parts_6_10 hy hz hr hI19417 v19423 (by omega) (by omega)) (Nat.le_of_ble_eq_true rfl) ?_
          intro r I19424 J19425 Ra hq
          obtain ⟨⟨hI19424, ec, ⟨pI19424, sI19424_6_1, sI19424_6_2⟩⟩, v19426, rfl, av19426, bv19426, cv19426⟩ := hq
          show WP _ _ _ _ (.int _ :: _) _ _ _ _
          rw [ec]
          clear ec Ra
          have e19427 : I19424 (ad g 1) 1 = L := hI19424.2
          have b19428 := BT_get hI19424.1 1 1 2 (0) (0) (900) (by decide) 1 (by decide) (by decide)
          rw [e19427] at b19428
          obtain ⟨w19429, ew19429⟩ : ∃ w : Int32, I19424 (ad g 4) 0 = w := ⟨_, rfl⟩
          have bw19429 := BT_get hI19424.1 4 0 5 (0) (0) (1000) (by decide) 0 (by decide) (by decide)
          rw [ew19429] at bw19429
          rw [ew19429] at cv19426
          obtain ⟨w19430, ew19430⟩ : ∃ w : Int32, I19424 (ad g 4) 1 = w := ⟨_, rfl⟩
          have bw19430 := BT_get hI19424.1 4 0 5 (0) (0) (1000) (by decide) 1 (by decide) (by decide)
          rw [ew19430] at bw19430
          rw [ew19430] at cv19426
          obtain ⟨w19431, ew19431⟩ : ∃ w : Int32, I19424 (ad g 4) 2 = w := ⟨_, rfl⟩
          have bw19431 := BT_get hI19424.1 4 0 5 (0) (0) (1000) (by decide) 2 (by decide) (by decide)
          rw [ew19431] at bw19431
          rw [ew19431] at cv19426
          obtain ⟨w19432, ew19432⟩ : ∃ w : Int32, I19424 (ad g 4) 3 = w := ⟨_, rfl⟩
          have bw19432 := BT_get hI19424.1 4 0 5 (0) (0) (1000) (by decide) 3 (by decide) (by decide)
          rw [ew19432] at bw19432
          rw [ew19432] at cv19426
          obtain ⟨w19433, ew19433⟩ : ∃ w : Int32, I19424 (ad g 4) 4 = w := ⟨_, rfl⟩
          have bw19433 := BT_get hI19424.1 4 0 5 (0) (0) (1000) (by decide) 4 (by decide) (by decide)
          rw [ew19433] at bw19433
          rw [ew19433] at cv19426
          refine WP_istore (ls' := [(0, _), (1, _), (2, _), (3, _), (4, _)]) dX3_readBook_51 (by decide) rfl ?_
          refine WP_iload dX3_readBook_53 rfl ?_
          refine WQ_if_eq 66 dX3_readBook_55 rfl (fun c19433 => ?_) (fun c19433 => ?_)
          · refine WP_iload_n dX3_readBook_66 rfl ?_
            refine WQ_bipush (-3) (-3) dX3_readBook_67 rfl rfl (fun v19435 hv19435 => ?_)
            refine WQ_icmp_ne 85 dX3_readBook_69 rfl (fun c19435 => ?_) (fun c19435 => ?_)
            · refine WP_iinc (ls' := [(0, _), (1, _), (2, _), (3, _), (4, _)]) dX3_readBook_85 rfl (by decide) rfl ?_
              have hv19437 : (i19409 + Int32.ofInt (1)).toInt = i19409.toInt + (1) := ia_n rfl (by omega) (by omega)
              generalize i19409 + Int32.ofInt (1) = v19437 at hv19437 ⊢
              refine WP_goto 17 dX3_readBook_88 rfl ?_
              exact WP_sub (fc rfl (fc rfl (fc rfl (fc rfl fn)))) (ihlp17_19411 i19408 v19437 I19424 J19425 hI19424 (by omega) (by omega) (by omega))
            · refine WP_aload_n dX3_readBook_72 rfl ?_
              refine WP_aload_n dX3_readBook_73 rfl ?_
              refine WP_getr dX3_readBook_74 fX3_9 rfl (lyx_is hy 3 3 rfl) (rfx hr 3 3 4 (by decide)) ?_
              refine WP_callV1 (k := 7) dX3_readBook_77 ⟨⟨⟨by decide, by decide⟩, zX7_isLoss⟩, lX3_62, by decide, rfl, vX7_isLoss.1, vX7_isLoss.2⟩ (lyx_is hy 6 7 rfl) (sx_isLoss_6 hy hr hI19424   (by rw [ew19429, ew19431]; omega)) (Nat.le_of_ble_eq_true rfl) ?_
              intro r Ia Ja Ra hq
              obtain ⟨⟨ea, eb, ec⟩, v19438, rfl, av19438, bv19438⟩ := hq
              show WP _ _ _ _ (.int _ :: _) _ _ _ _
              rw [ea, eb, ec]
              clear ea eb ec Ia Ja Ra
              refine WQ_if_eq 85 dX3_readBook_80 rfl (fun c19438 => ?_) (fun c19438 => ?_)
              · refine WP_iinc (ls' := [(0, _), (1, _), (2, _), (3, _), (4, _)]) dX3_readBook_85 rfl (by decide) rfl ?_
                have hv19440 : (i19409 + Int32.ofInt (1)).toInt = i19409.toInt + (1) := ia_n rfl (by omega) (by omega)
                generalize i19409 + Int32.ofInt (1) = v19440 at hv19440 ⊢
                refine WP_goto 17 dX3_readBook_88 rfl ?_
                exact WP_sub (fc rfl (fc rfl (fc rfl (fc rfl fn)))) (ihlp17_19411 i19408 v19440 I19424 J19425 hI19424 (by omega) (by omega) (by omega))
              · refine WP_iload_n dX3_readBook_83 rfl ?_
                refine WP_istore_n (ls' := [(0, _), (1, _), (2, _), (3, _), (4, _)]) dX3_readBook_84 (by decide) rfl ?_
                refine WP_iinc (ls' := [(0, _), (1, _), (2, _), (3, _), (4, _)]) dX3_readBook_85 rfl (by decide) rfl ?_
                have hv19441 : (i19409 + Int32.ofInt (1)).toInt = i19409.toInt + (1) := ia_n rfl (by omega) (by omega)
                generalize i19409 + Int32.ofInt (1) = v19441 at hv19441 ⊢
                refine WP_goto 17 dX3_readBook_88 rfl ?_
                exact WP_sub (fc rfl (fc rfl (fc rfl (fc rfl fn)))) (ihlp17_19411 i19409 v19441 I19424 J19425 hI19424 (by omega) (by omega) (by omega))
          · refine WP_aload_n dX3_readBook_58 rfl ?_
            refine WP_iload dX3_readBook_59 rfl ?_
            refine WP_callV1 (k := 3) dX3_readBook_61 ⟨⟨⟨by decide, by decide⟩, zX3_note⟩, lX3_31, by decide, rfl, vX3_note.1, vX3_note.2⟩ (lyx_is hy 3 3 rfl) (sx_notef hy hr hI19424 v19426 ) (Nat.le_of_ble_eq_true rfl) ?_
            intro r I19442 J19443 Ra hq
            obtain ⟨⟨hI19442, ec, fiI19442⟩, rfl⟩ := hq
            rw [ec]
            clear ec Ra
            have e19444 : I19442 (ad g 4) 0 = w19429 := by rw [fz_at fiI19442 4 (by decide) (by decide)]; exact ew19429
            have e19445 : I19442 (ad g 4) 1 = w19430 := by rw [fz_at fiI19442 4 (by decide) (by decide)]; exact ew19430
            have e19446 : I19442 (ad g 4) 2 = w19431 := by rw [fz_at fiI19442 4 (by decide) (by decide)]; exact ew19431
            have e19447 : I19442 (ad g 4) 3 = w19432 := by rw [fz_at fiI19442 4 (by decide) (by decide)]; exact ew19432
            have e19448 : I19442 (ad g 4) 4 = w19433 := by rw [fz_at fiI19442 4 (by decide) (by decide)]; exact ew19433
            have e19449 : I19442 (ad g 1) 1 = L := hI19442.2
            have b19450 := BT_get hI19442.1 1 1 2 (0) (0) (900) (by decide) 1 (by decide) (by decide)
            rw [e19449] at b19450
            refine WQ_iconst (-1) (-1) dX3_readBook_64 rfl rfl (fun v19451 hv19451 => ?_)
            exact WP_iret dX3_readBook_65 rfl ⟨⟨hI19442, rfl⟩, _, rfl⟩
        · refine WP_goto 91 dX3_readBook_41 rfl ?_
          refine WP_iload_n dX3_readBook_91 rfl ?_
          exact WP_iret dX3_readBook_92 rfl ⟨⟨hI19417, rfl⟩, _, rfl⟩
  exact WP_sub (fc rfl (fc rfl (fc rfl (fc rfl fn)))) (lp17_19411 _ v19397 v19407 I19403 J19404 hI19403 (by omega) (by omega) (Nat.lt_succ_self _))
set_option maxHeartbeats 4000000 in
set_option maxRecDepth 100000 in
theorem sx_readValues_6 {g : GG} {n : Int} {L : Int32} (hy : LyX g) {aK aV : Nat → Nat} {fo : Option Nat} (hz : HZ g aK aV fo)  {I : pI} {J : pJ} {R : pR} (hr : RfX g R) (hI : XI g n L I)   : SP g mX3_readValues [.ref (ad g 3), .ref (ad g 6), .ref (ad g 72)] I J R (fun r I' J' R' => (XI g n L I' ∧ R' = R) ∧ ∃ v : Int32, r = some (.int v) ∧ 0 ≤ v.toInt ∧ v.toInt ≤ 1) := by
  refine SP_of ⟨by decide, rfl⟩ (Nat.le_of_ble_eq_true rfl) ?_
  have e19452 : I (ad g 1) 1 = L := hI.2
  have b19453 := BT_get hI.1 1 1 2 (0) (0) (900) (by decide) 1 (by decide) (by decide)
  rw [e19452] at b19453
  refine WP_aload_n dX3_readValues_0 rfl ?_
  refine WP_getr dX3_readValues_1 fX3_15 rfl (lyx_is hy 3 3 rfl) (rfx hr 3 2 1 (by decide)) ?_
  refine WP_callV0 (k := 5) dX3_readValues_4 ⟨⟨⟨by decide, by decide⟩, zX5_rewind⟩, lX3_35, by decide, rfl, vX5_rewind.1, vX5_rewind.2⟩ (lyx_is hy 1 5 rfl) (sx_rewindf hy hr hI  ) (Nat.le_of_ble_eq_true rfl) ?_
  intro r I19454 J19455 Ra hq
  obtain ⟨⟨hI19454, ec, fiI19454⟩, rfl⟩ := hq
  rw [ec]
  clear ec Ra
  have e19456 : I19454 (ad g 1) 1 = L := hI19454.2
  have b19457 := BT_get hI19454.1 1 1 2 (0) (0) (900) (by decide) 1 (by decide) (by decide)
  rw [e19456] at b19457
  refine WQ_iconst (0) (0) dX3_readValues_7 rfl rfl (fun v19458 hv19458 => ?_)
  refine WP_istore_n (ls' := [(0, _), (1, _), (2, _), (3, _)]) dX3_readValues_8 (by decide) rfl ?_
  have lp9_19461 : ∀ (mz : Nat) (i19459 : Int32) (I19460 : pI) (J19461 : pJ), XI g n L I19460 → 0 ≤ i19459.toInt → i19459.toInt ≤ 4 → (5 - i19459.toInt).toNat < mz → WP g mX3_readValues 9 [(0, .ref (ad g 3)), (1, .ref (ad g 6)), (2, .ref (ad g 72)), (3, .int i19459)] [] I19460 J19461 R (fun r I' J' R' => (XI g n L I' ∧ R' = R) ∧ ∃ v : Int32, r = some (.int v) ∧ 0 ≤ v.toInt ∧ v.toInt ≤ 1) := by
    intro mz
    induction mz with
    | zero =>
      intro i19459 I19460 J19461 hI19460 ai19459 bi19459 hmlp9_19461
      exact absurd hmlp9_19461 (Nat.not_lt_zero _)
    | succ mz ihlp9_19461 =>
      intro i19459 I19460 J19461 hI19460 ai19459 bi19459 hmlp9_19461
      have e19463 : I19460 (ad g 1) 1 = L := hI19460.2
      have b19464 := BT_get hI19460.1 1 1 2 (0) (0) (900) (by decide) 1 (by decide) (by decide)
      rw [e19463] at b19464
      refine WP_iload_n dX3_readValues_9 rfl ?_
      refine WP_aload_n dX3_readValues_10 rfl ?_
      refine WQ_geti dX3_readValues_11 fX3_66 rfl (lyx_is hy 6 7 rfl) (BT_get hI19460.1 6 1 2 (0) (0) (4) (by decide) 1 (by decide) (by decide)) (fun v19465 ev19465 av19465 bv19465 => ?_)
      refine WQ_icmp_ge 76 dX3_readValues_14 rfl (fun c19465 => ?_) (fun c19465 => ?_)
      · refine WP_aload_n dX3_readValues_76 rfl ?_
        refine WP_getr dX3_readValues_77 fX3_15 rfl (lyx_is hy 3 3 rfl) (rfx hr 3 2 1 (by decide)) ?_
        refine WP_callV0 (k := 5) dX3_readValues_80 ⟨⟨⟨by decide, by decide⟩, zX5_next⟩, lX3_40, by decide, rfl, vX5_next.1, vX5_next.2⟩ (lyx_is hy 1 5 rfl) (sx_nextf hy hr hI19460  ) (Nat.le_of_ble_eq_true rfl) ?_
        intro r I19467 J19468 Ra hq
        obtain ⟨⟨hI19467, ec, fiI19467⟩, rfl⟩ := hq
        rw [ec]
        clear ec Ra
        have e19469 : I19467 (ad g 6) 1 = v19465 := by rw [fz_at fiI19467 6 (by decide) (by decide)]; exact ev19465
        have e19470 : I19467 (ad g 1) 1 = L := hI19467.2
        have b19471 := BT_get hI19467.1 1 1 2 (0) (0) (900) (by decide) 1 (by decide) (by decide)
        rw [e19470] at b19471
        refine WP_aload_n dX3_readValues_83 rfl ?_
        refine WP_getr dX3_readValues_84 fX3_15 rfl (lyx_is hy 3 3 rfl) (rfx hr 3 2 1 (by decide)) ?_
        refine WQ_geti dX3_readValues_87 fX3_43 rfl (lyx_is hy 1 5 rfl) (BT_get hI19467.1 1 2 3 (0) (0) (4) (by decide) 2 (by decide) (by decide)) (fun v19472 ev19472 av19472 bv19472 => ?_)
        refine WQ_if_ne 97 dX3_readValues_90 rfl (fun c19472 => ?_) (fun c19472 => ?_)
        · refine WQ_iconst (0) (0) dX3_readValues_97 rfl rfl (fun v19474 hv19474 => ?_)
          exact WP_zret dX3_readValues_98 rfl (nar_z (by omega)) ⟨⟨hI19467, rfl⟩, _, rfl, by omega, by omega⟩
        · refine WQ_iconst (1) (1) dX3_readValues_93 rfl rfl (fun v19475 hv19475 => ?_)
          refine WP_goto 98 dX3_readValues_94 rfl ?_
          exact WP_zret dX3_readValues_98 rfl (nar_z (by omega)) ⟨⟨hI19467, rfl⟩, _, rfl, by omega, by omega⟩
      · refine WP_aload_n dX3_readValues_17 rfl ?_
        refine WP_getr dX3_readValues_18 fX3_15 rfl (lyx_is hy 3 3 rfl) (rfx hr 3 2 1 (by decide)) ?_
        refine WP_callV0 (k := 5) dX3_readValues_21 ⟨⟨⟨by decide, by decide⟩, zX5_next⟩, lX3_40, by decide, rfl, vX5_next.1, vX5_next.2⟩ (lyx_is hy 1 5 rfl) (sx_nextf hy hr hI19460  ) (Nat.le_of_ble_eq_true rfl) ?_
        intro r I19476 J19477 Ra hq
        obtain ⟨⟨hI19476, ec, fiI19476⟩, rfl⟩ := hq
        rw [ec]
        clear ec Ra
        have e19478 : I19476 (ad g 6) 1 = v19465 := by rw [fz_at fiI19476 6 (by decide) (by decide)]; exact ev19465
        have e19479 : I19476 (ad g 1) 1 = L := hI19476.2
        have b19480 := BT_get hI19476.1 1 1 2 (0) (0) (900) (by decide) 1 (by decide) (by decide)
        rw [e19479] at b19480
        refine WP_aload_n dX3_readValues_24 rfl ?_
        refine WQ_bipush (11) (11) dX3_readValues_25 rfl rfl (fun v19481 hv19481 => ?_)
        refine WP_aload_n dX3_readValues_27 rfl ?_
        refine WP_callV2 (k := 3) dX3_readValues_28 ⟨⟨⟨by decide, by decide⟩, zX3_faultInParts⟩, lX3_54, by decide, rfl, vX3_faultInParts.1, vX3_faultInParts.2⟩ (lyx_is hy 3 3 rfl) (sx_parts_6_11 hy hz hr hI19476 v19481 (by omega) (by omega)) (Nat.le_of_ble_eq_true rfl) ?_
        intro r I19482 J19483 Ra hq
        obtain ⟨⟨hI19482, ec, ⟨pI19482, sI19482_6_1, sI19482_6_2⟩⟩, v19484, rfl, av19484, bv19484, cv19484⟩ := hq
        show WP _ _ _ _ (.int _ :: _) _ _ _ _
        rw [ec]
        clear ec Ra
        have e19485 : I19482 (ad g 6) 1 = v19465 := by rw [sI19482_6_1]; exact e19478
        have e19486 : I19482 (ad g 1) 1 = L := hI19482.2
        have b19487 := BT_get hI19482.1 1 1 2 (0) (0) (900) (by decide) 1 (by decide) (by decide)
        rw [e19486] at b19487
        obtain ⟨w19488, ew19488⟩ : ∃ w : Int32, I19482 (ad g 4) 0 = w := ⟨_, rfl⟩
        have bw19488 := BT_get hI19482.1 4 0 5 (0) (0) (1000) (by decide) 0 (by decide) (by decide)
        rw [ew19488] at bw19488
        rw [ew19488] at cv19484
        obtain ⟨w19489, ew19489⟩ : ∃ w : Int32, I19482 (ad g 4) 1 = w := ⟨_, rfl⟩
        have bw19489 := BT_get hI19482.1 4 0 5 (0) (0) (1000) (by decide) 1 (by decide) (by decide)
        rw [ew19489] at bw19489
        rw [ew19489] at cv19484
        refine WQ_if_ne 44 dX3_readValues_31 rfl (fun c19489 => ?_) (fun c19489 => ?_)
        · refine WQ_iconst (0) (0) dX3_readValues_44 rfl rfl (fun v19491 hv19491 => ?_)
          exact WP_zret dX3_readValues_45 rfl (nar_z (by omega)) ⟨⟨hI19482, rfl⟩, _, rfl, by omega, by omega⟩
        · refine WQ_iconst (2) (2) dX3_readValues_34 rfl rfl (fun v19492 hv19492 => ?_)
          refine WP_iload_n dX3_readValues_35 rfl ?_
          refine WQ_imulK (2) dX3_readValues_36 hv19492 (by omega) (by omega) (fun v19493 hv19493 => ?_)
          refine WQ_iconst (1) (1) dX3_readValues_37 rfl rfl (fun v19494 hv19494 => ?_)
          refine WQ_iadd dX3_readValues_38 (by omega) (by omega) (fun v19495 hv19495 => ?_)
          refine WP_aload_n dX3_readValues_39 rfl ?_
          refine WP_alen dX3_readValues_40 (lyx_is hy 72 13 rfl) (by decide) ?_
          rw [(lyx_n hy 72 8 rfl)]
          obtain ⟨v19496, hv19496, ev19496⟩ : ∃ v : Int32, v.toInt = 8 ∧ nI 8 = v := ⟨_, nI_toInt (by decide), rfl⟩
          rw [ev19496]; clear ev19496
          refine WQ_icmp_lt 46 dX3_readValues_41 rfl (fun c19496 => ?_) (fun c19496 => False.elim (by omega))
          refine WP_aload_n dX3_readValues_46 rfl ?_
          refine WQ_iconst (2) (2) dX3_readValues_47 rfl rfl (fun v19498 hv19498 => ?_)
          refine WP_iload_n dX3_readValues_48 rfl ?_
          refine WQ_imulK (2) dX3_readValues_49 hv19498 (by omega) (by omega) (fun v19499 hv19499 => ?_)
          refine WP_aload_n dX3_readValues_50 rfl ?_
          refine WP_getr dX3_readValues_51 fX3_9 rfl (lyx_is hy 3 3 rfl) (rfx hr 3 3 4 (by decide)) ?_
          refine WQ_iconst (0) (0) dX3_readValues_54 rfl rfl (fun v19500 hv19500 => ?_)
          refine WQ_ialdm (z := 0) dX3_readValues_55 (lyx_is hy 4 13 rfl) (lyx_n hy 4 5 rfl) hv19500 (by decide) ew19488 ?_
          refine WQ_iast dX3_readValues_56 (lyx_is hy 72 13 rfl) (lyx_n hy 72 8 rfl) (by omega) (by omega) (fun I19502 eI19502 => ?_)
          have hI19502 : XI g n L I19502 := by rw [eI19502]; exact (xi_r0 hy hI19482 (c := 72) (by decide) (Or.inl (by decide)) (by decide))
          have e19503 : I19502 (ad g 6) 1 = v19465 := by rw [eI19502, pp_ne _ _ (Or.inl (lyx_ne hy (by decide) (by decide) (by decide)))]; exact e19485
          have e19504 : I19502 (ad g 1) 1 = L := by rw [eI19502, pp_ne _ _ (Or.inl (lyx_ne hy (by decide) (by decide) (by decide)))]; exact e19486
          have e19505 : I19502 (ad g 4) 0 = w19488 := by rw [eI19502, pp_ne _ _ (Or.inl (lyx_ne hy (by decide) (by decide) (by decide)))]; exact ew19488
          have e19506 : I19502 (ad g 4) 1 = w19489 := by rw [eI19502, pp_ne _ _ (Or.inl (lyx_ne hy (by decide) (by decide) (by decide)))]; exact ew19489
          clear eI19502
          refine WP_aload_n dX3_readValues_57 rfl ?_
          refine WQ_iconst (2) (2) dX3_readValues_58 rfl rfl (fun v19507 hv19507 => ?_)
          refine WP_iload_n dX3_readValues_59 rfl ?_
          refine WQ_imulK (2) dX3_readValues_60 hv19507 (by omega) (by omega) (fun v19508 hv19508 => ?_)
          refine WQ_iconst (1) (1) dX3_readValues_61 rfl rfl (fun v19509 hv19509 => ?_)
          refine WQ_iadd dX3_readValues_62 (by omega) (by omega) (fun v19510 hv19510 => ?_)
          refine WP_aload_n dX3_readValues_63 rfl ?_
          refine WP_getr dX3_readValues_64 fX3_9 rfl (lyx_is hy 3 3 rfl) (rfx hr 3 3 4 (by decide)) ?_
          refine WQ_iconst (1) (1) dX3_readValues_67 rfl rfl (fun v19511 hv19511 => ?_)
          refine WQ_ialdm (z := 1) dX3_readValues_68 (lyx_is hy 4 13 rfl) (lyx_n hy 4 5 rfl) hv19511 (by decide) e19506 ?_
          refine WQ_iast dX3_readValues_69 (lyx_is hy 72 13 rfl) (lyx_n hy 72 8 rfl) (by omega) (by omega) (fun I19513 eI19513 => ?_)
          have hI19513 : XI g n L I19513 := by rw [eI19513]; exact (xi_r0 hy hI19502 (c := 72) (by decide) (Or.inl (by decide)) (by decide))
          have e19514 : I19513 (ad g 6) 1 = v19465 := by rw [eI19513, pp_ne _ _ (Or.inl (lyx_ne hy (by decide) (by decide) (by decide)))]; exact e19503
          have e19515 : I19513 (ad g 1) 1 = L := by rw [eI19513, pp_ne _ _ (Or.inl (lyx_ne hy (by decide) (by decide) (by decide)))]; exact e19504
          have e19516 : I19513 (ad g 4) 0 = w19488 := by rw [eI19513, pp_ne _ _ (Or.inl (lyx_ne hy (by decide) (by decide) (by decide)))]; exact e19505
          have e19517 : I19513 (ad g 4) 1 = w19489 := by rw [eI19513, pp_ne _ _ (Or.inl (lyx_ne hy (by decide) (by decide) (by decide)))]; exact e19506
          clear eI19513
          refine WP_iinc (ls' := [(0, _), (1, _), (2, _), (3, _)]) dX3_readValues_70 rfl (by decide) rfl ?_
          have hv19518 : (i19459 + Int32.ofInt (1)).toInt = i19459.toInt + (1) := ia_n rfl (by omega) (by omega)
          generalize i19459 + Int32.ofInt (1) = v19518 at hv19518 ⊢
          refine WP_goto 9 dX3_readValues_73 rfl ?_
          exact WP_sub (fc rfl (fc rfl (fc rfl (fc rfl fn)))) (ihlp9_19461 v19518 I19513 J19483 hI19513 (by omega) (by omega) (by omega))
  exact WP_sub (fc rfl (fc rfl (fc rfl (fc rfl fn)))) (lp9_19461 _ v19458 I19454 J19455 hI19454 (by omega) (by omega) (Nat.lt_succ_self _))
set_option maxHeartbeats 4000000 in
set_option maxRecDepth 100000 in
theorem sx_forget_27 {g : GG} {n : Int} {L : Int32} (hy : LyX g)  {I : pI} {J : pJ} {R : pR} (hr : RfX g R) (hI : XI g n L I)   : SP g mX7_forget [.ref (ad g 27)] I J R (fun r I' J' R' => (XI g n L I' ∧ R' = R) ∧ r = none) := by
  refine SP_of ⟨by decide, rfl⟩ (Nat.le_of_ble_eq_true rfl) ?_
  have e19519 : I (ad g 1) 1 = L := hI.2
  have b19520 := BT_get hI.1 1 1 2 (0) (0) (900) (by decide) 1 (by decide) (by decide)
  rw [e19519] at b19520
  refine WP_aload_n dX7_forget_0 rfl ?_
  refine WQ_iconst (0) (0) dX7_forget_1 rfl rfl (fun v19521 hv19521 => ?_)
  refine WQ_puti dX7_forget_2 fX7_61 rfl rfl (lyx_is hy 27 7 rfl) (fun I19522 eI19522 => ?_)
  have hI19522 : XI g n L I19522 := by rw [eI19522]; exact (xi_f0 hy hI (c := 27) (by decide) (Or.inl (by decide)) (by decide))
  have e19523 : I19522 (ad g 1) 1 = L := by rw [eI19522, pp_ne _ _ (Or.inl (lyx_ne hy (by decide) (by decide) (by decide)))]; exact e19519
  have e19524 : I19522 (ad g 27) 0 = v19521 := by rw [eI19522, pp_self]
  clear eI19522
  refine WP_aload_n dX7_forget_5 rfl ?_
  refine WQ_iconst (0) (0) dX7_forget_6 rfl rfl (fun v19525 hv19525 => ?_)
  refine WQ_puti dX7_forget_7 fX7_65 rfl rfl (lyx_is hy 27 7 rfl) (fun I19526 eI19526 => ?_)
  have hI19526 : XI g n L I19526 := by rw [eI19526]; exact (xi_f hy hI19522 (c := 27) (0) (0) (4) (by decide) (Or.inl (by decide)) (by decide) (by omega) (by omega))
  have e19527 : I19526 (ad g 1) 1 = L := by rw [eI19526, pp_ne _ _ (Or.inl (lyx_ne hy (by decide) (by decide) (by decide)))]; exact e19523
  have e19528 : I19526 (ad g 27) 0 = v19521 := by rw [eI19526, pp_ne _ _ (Or.inr (by decide))]; exact e19524
  have e19529 : I19526 (ad g 27) 1 = v19525 := by rw [eI19526, pp_self]
  clear eI19526
  refine WP_aload_n dX7_forget_10 rfl ?_
  refine WQ_iconst (0) (0) dX7_forget_11 rfl rfl (fun v19530 hv19530 => ?_)
  refine WQ_puti dX7_forget_12 fX7_68 rfl rfl (lyx_is hy 27 7 rfl) (fun I19531 eI19531 => ?_)
  have hI19531 : XI g n L I19531 := by rw [eI19531]; exact (xi_f hy hI19526 (c := 27) (0) (0) (3) (by decide) (Or.inl (by decide)) (by decide) (by omega) (by omega))
  have e19532 : I19531 (ad g 1) 1 = L := by rw [eI19531, pp_ne _ _ (Or.inl (lyx_ne hy (by decide) (by decide) (by decide)))]; exact e19527
  have e19533 : I19531 (ad g 27) 0 = v19521 := by rw [eI19531, pp_ne _ _ (Or.inr (by decide))]; exact e19528
  have e19534 : I19531 (ad g 27) 1 = v19525 := by rw [eI19531, pp_ne _ _ (Or.inr (by decide))]; exact e19529
  have e19535 : I19531 (ad g 27) 2 = v19530 := by rw [eI19531, pp_self]
  clear eI19531
  refine WP_aload_n dX7_forget_15 rfl ?_
  refine WQ_iconst (-1) (-1) dX7_forget_16 rfl rfl (fun v19536 hv19536 => ?_)
  refine WQ_puti dX7_forget_17 fX7_71 rfl rfl (lyx_is hy 27 7 rfl) (fun I19537 eI19537 => ?_)
  have hI19537 : XI g n L I19537 := by rw [eI19537]; exact (xi_f hy hI19531 (c := 27) (-1) (0) (3) (by decide) (Or.inl (by decide)) (by decide) (by omega) (by omega))
  have e19538 : I19537 (ad g 1) 1 = L := by rw [eI19537, pp_ne _ _ (Or.inl (lyx_ne hy (by decide) (by decide) (by decide)))]; exact e19532
  have e19539 : I19537 (ad g 27) 0 = v19521 := by rw [eI19537, pp_ne _ _ (Or.inr (by decide))]; exact e19533
  have e19540 : I19537 (ad g 27) 1 = v19525 := by rw [eI19537, pp_ne _ _ (Or.inr (by decide))]; exact e19534
  have e19541 : I19537 (ad g 27) 2 = v19530 := by rw [eI19537, pp_ne _ _ (Or.inr (by decide))]; exact e19535
  have e19542 : I19537 (ad g 27) 3 = v19536 := by rw [eI19537, pp_self]
  clear eI19537
  refine WP_aload_n dX7_forget_20 rfl ?_
  refine WQ_iconst (-1) (-1) dX7_forget_21 rfl rfl (fun v19543 hv19543 => ?_)
  refine WQ_puti dX7_forget_22 fX7_74 rfl rfl (lyx_is hy 27 7 rfl) (fun I19544 eI19544 => ?_)
  have hI19544 : XI g n L I19544 := by rw [eI19544]; exact (xi_f hy hI19537 (c := 27) (-1) (0) (2) (by decide) (Or.inl (by decide)) (by decide) (by omega) (by omega))
  have e19545 : I19544 (ad g 1) 1 = L := by rw [eI19544, pp_ne _ _ (Or.inl (lyx_ne hy (by decide) (by decide) (by decide)))]; exact e19538
  have e19546 : I19544 (ad g 27) 0 = v19521 := by rw [eI19544, pp_ne _ _ (Or.inr (by decide))]; exact e19539
  have e19547 : I19544 (ad g 27) 1 = v19525 := by rw [eI19544, pp_ne _ _ (Or.inr (by decide))]; exact e19540
  have e19548 : I19544 (ad g 27) 2 = v19530 := by rw [eI19544, pp_ne _ _ (Or.inr (by decide))]; exact e19541
  have e19549 : I19544 (ad g 27) 3 = v19536 := by rw [eI19544, pp_ne _ _ (Or.inr (by decide))]; exact e19542
  have e19550 : I19544 (ad g 27) 4 = v19543 := by rw [eI19544, pp_self]
  clear eI19544
  refine WP_aload_n dX7_forget_25 rfl ?_
  refine WP_getr dX7_forget_26 fX7_9 rfl (lyx_is hy 27 7 rfl) (rfx hr 27 5 28 (by decide)) ?_
  refine WQ_iconst (0) (0) dX7_forget_29 rfl rfl (fun v19551 hv19551 => ?_)
  refine WP_callS2u dX7_forget_30 ⟨⟨⟨by decide, by decide⟩, zJ7_fill_53178⟩, lX7_77, tJ7_fill_53178⟩ (s_fill hy hr 28 7 rfl rfl (by decide) v19551) (Nat.le_of_ble_eq_true rfl) ?_
  obtain ⟨I19552, eI19552⟩ : ∃ I9 : pI, I9 = fi I19544 (ad g 28) 7 v19551 := ⟨_, rfl⟩
  rw [← eI19552]
  have hI19552 : XI g n L I19552 := by rw [eI19552]; exact (xi_fill hy hI19544 28 7 v19551 (0) (0) (900) (by decide) (by decide) (by omega) (by omega))
  have e19553 : I19552 (ad g 1) 1 = L := by rw [eI19552, fi_off (lyx_ne hy (by decide) (by decide) (by decide))]; exact e19545
  have e19554 : I19552 (ad g 27) 0 = v19521 := by rw [eI19552, fi_off (lyx_ne hy (by decide) (by decide) (by decide))]; exact e19546
  have e19555 : I19552 (ad g 27) 1 = v19525 := by rw [eI19552, fi_off (lyx_ne hy (by decide) (by decide) (by decide))]; exact e19547
  have e19556 : I19552 (ad g 27) 2 = v19530 := by rw [eI19552, fi_off (lyx_ne hy (by decide) (by decide) (by decide))]; exact e19548
  have e19557 : I19552 (ad g 27) 3 = v19536 := by rw [eI19552, fi_off (lyx_ne hy (by decide) (by decide) (by decide))]; exact e19549
  have e19558 : I19552 (ad g 27) 4 = v19543 := by rw [eI19552, fi_off (lyx_ne hy (by decide) (by decide) (by decide))]; exact e19550
  clear eI19552
  refine WP_aload_n dX7_forget_33 rfl ?_
  refine WP_getr dX7_forget_34 fX7_24 rfl (lyx_is hy 27 7 rfl) (rfx hr 27 9 32 (by decide)) ?_
  refine WQ_iconst (0) (0) dX7_forget_37 rfl rfl (fun v19559 hv19559 => ?_)
  refine WP_callS2u dX7_forget_38 ⟨⟨⟨by decide, by decide⟩, zJ7_fill_53178⟩, lX7_77, tJ7_fill_53178⟩ (s_fill hy hr 32 4 rfl rfl (by decide) v19559) (Nat.le_of_ble_eq_true rfl) ?_
  obtain ⟨I19560, eI19560⟩ : ∃ I9 : pI, I9 = fi I19552 (ad g 32) 4 v19559 := ⟨_, rfl⟩
  rw [← eI19560]
  have hI19560 : XI g n L I19560 := by rw [eI19560]; exact (xi_fill0 hy hI19552 32 4 v19559 (by decide) (by decide))
  have e19561 : I19560 (ad g 1) 1 = L := by rw [eI19560, fi_off (lyx_ne hy (by decide) (by decide) (by decide))]; exact e19553
  have e19562 : I19560 (ad g 27) 0 = v19521 := by rw [eI19560, fi_off (lyx_ne hy (by decide) (by decide) (by decide))]; exact e19554
  have e19563 : I19560 (ad g 27) 1 = v19525 := by rw [eI19560, fi_off (lyx_ne hy (by decide) (by decide) (by decide))]; exact e19555
  have e19564 : I19560 (ad g 27) 2 = v19530 := by rw [eI19560, fi_off (lyx_ne hy (by decide) (by decide) (by decide))]; exact e19556
  have e19565 : I19560 (ad g 27) 3 = v19536 := by rw [eI19560, fi_off (lyx_ne hy (by decide) (by decide) (by decide))]; exact e19557
  have e19566 : I19560 (ad g 27) 4 = v19543 := by rw [eI19560, fi_off (lyx_ne hy (by decide) (by decide) (by decide))]; exact e19558
  clear eI19560
  refine WP_aload_n dX7_forget_41 rfl ?_
  refine WP_getr dX7_forget_42 fX7_27 rfl (lyx_is hy 27 7 rfl) (rfx hr 27 10 33 (by decide)) ?_
  refine WQ_iconst (0) (0) dX7_forget_45 rfl rfl (fun v19567 hv19567 => ?_)
  refine WP_callS2u dX7_forget_46 ⟨⟨⟨by decide, by decide⟩, zJ7_fill_53178⟩, lX7_77, tJ7_fill_53178⟩ (s_fill hy hr 33 28 rfl rfl (by decide) v19567) (Nat.le_of_ble_eq_true rfl) ?_
  obtain ⟨I19568, eI19568⟩ : ∃ I9 : pI, I9 = fi I19560 (ad g 33) 28 v19567 := ⟨_, rfl⟩
  rw [← eI19568]
  have hI19568 : XI g n L I19568 := by rw [eI19568]; exact (xi_fill hy hI19560 33 28 v19567 (0) (0) (20) (by decide) (by decide) (by omega) (by omega))
  have e19569 : I19568 (ad g 1) 1 = L := by rw [eI19568, fi_off (lyx_ne hy (by decide) (by decide) (by decide))]; exact e19561
  have e19570 : I19568 (ad g 27) 0 = v19521 := by rw [eI19568, fi_off (lyx_ne hy (by decide) (by decide) (by decide))]; exact e19562
  have e19571 : I19568 (ad g 27) 1 = v19525 := by rw [eI19568, fi_off (lyx_ne hy (by decide) (by decide) (by decide))]; exact e19563
  have e19572 : I19568 (ad g 27) 2 = v19530 := by rw [eI19568, fi_off (lyx_ne hy (by decide) (by decide) (by decide))]; exact e19564
  have e19573 : I19568 (ad g 27) 3 = v19536 := by rw [eI19568, fi_off (lyx_ne hy (by decide) (by decide) (by decide))]; exact e19565
  have e19574 : I19568 (ad g 27) 4 = v19543 := by rw [eI19568, fi_off (lyx_ne hy (by decide) (by decide) (by decide))]; exact e19566
  clear eI19568
  refine WP_aload_n dX7_forget_49 rfl ?_
  refine WP_getr dX7_forget_50 fX7_30 rfl (lyx_is hy 27 7 rfl) (rfx hr 27 11 34 (by decide)) ?_
  refine WQ_iconst (-1) (-1) dX7_forget_53 rfl rfl (fun v19575 hv19575 => ?_)
  refine WP_callS2u dX7_forget_54 ⟨⟨⟨by decide, by decide⟩, zJ7_fill_53178⟩, lX7_77, tJ7_fill_53178⟩ (s_fill hy hr 34 28 rfl rfl (by decide) v19575) (Nat.le_of_ble_eq_true rfl) ?_
  obtain ⟨I19576, eI19576⟩ : ∃ I9 : pI, I9 = fi I19568 (ad g 34) 28 v19575 := ⟨_, rfl⟩
  rw [← eI19576]
  have hI19576 : XI g n L I19576 := by rw [eI19576]; exact (xi_fill hy hI19568 34 28 v19575 (-1) (0) (2) (by decide) (by decide) (by omega) (by omega))
  have e19577 : I19576 (ad g 1) 1 = L := by rw [eI19576, fi_off (lyx_ne hy (by decide) (by decide) (by decide))]; exact e19569
  have e19578 : I19576 (ad g 27) 0 = v19521 := by rw [eI19576, fi_off (lyx_ne hy (by decide) (by decide) (by decide))]; exact e19570
  have e19579 : I19576 (ad g 27) 1 = v19525 := by rw [eI19576, fi_off (lyx_ne hy (by decide) (by decide) (by decide))]; exact e19571
  have e19580 : I19576 (ad g 27) 2 = v19530 := by rw [eI19576, fi_off (lyx_ne hy (by decide) (by decide) (by decide))]; exact e19572
  have e19581 : I19576 (ad g 27) 3 = v19536 := by rw [eI19576, fi_off (lyx_ne hy (by decide) (by decide) (by decide))]; exact e19573
  have e19582 : I19576 (ad g 27) 4 = v19543 := by rw [eI19576, fi_off (lyx_ne hy (by decide) (by decide) (by decide))]; exact e19574
  clear eI19576
  refine WP_aload_n dX7_forget_57 rfl ?_
  refine WP_getr dX7_forget_58 fX7_33 rfl (lyx_is hy 27 7 rfl) (rfx hr 27 12 35 (by decide)) ?_
  refine WQ_iconst (0) (0) dX7_forget_61 rfl rfl (fun v19583 hv19583 => ?_)
  refine WP_callS2u dX7_forget_62 ⟨⟨⟨by decide, by decide⟩, zJ7_fill_53178⟩, lX7_77, tJ7_fill_53178⟩ (s_fill hy hr 35 28 rfl rfl (by decide) v19583) (Nat.le_of_ble_eq_true rfl) ?_
  obtain ⟨I19584, eI19584⟩ : ∃ I9 : pI, I9 = fi I19576 (ad g 35) 28 v19583 := ⟨_, rfl⟩
  rw [← eI19584]
  have hI19584 : XI g n L I19584 := by rw [eI19584]; exact (xi_fill hy hI19576 35 28 v19583 (0) (0) (3) (by decide) (by decide) (by omega) (by omega))
  have e19585 : I19584 (ad g 1) 1 = L := by rw [eI19584, fi_off (lyx_ne hy (by decide) (by decide) (by decide))]; exact e19577
  have e19586 : I19584 (ad g 27) 0 = v19521 := by rw [eI19584, fi_off (lyx_ne hy (by decide) (by decide) (by decide))]; exact e19578
  have e19587 : I19584 (ad g 27) 1 = v19525 := by rw [eI19584, fi_off (lyx_ne hy (by decide) (by decide) (by decide))]; exact e19579
  have e19588 : I19584 (ad g 27) 2 = v19530 := by rw [eI19584, fi_off (lyx_ne hy (by decide) (by decide) (by decide))]; exact e19580
  have e19589 : I19584 (ad g 27) 3 = v19536 := by rw [eI19584, fi_off (lyx_ne hy (by decide) (by decide) (by decide))]; exact e19581
  have e19590 : I19584 (ad g 27) 4 = v19543 := by rw [eI19584, fi_off (lyx_ne hy (by decide) (by decide) (by decide))]; exact e19582
  clear eI19584
  refine WP_aload_n dX7_forget_65 rfl ?_
  refine WP_getr dX7_forget_66 fX7_36 rfl (lyx_is hy 27 7 rfl) (rfx hr 27 13 36 (by decide)) ?_
  refine WQ_iconst (0) (0) dX7_forget_69 rfl rfl (fun v19591 hv19591 => ?_)
  refine WP_callS2u dX7_forget_70 ⟨⟨⟨by decide, by decide⟩, zJ7_fill_53178⟩, lX7_77, tJ7_fill_53178⟩ (s_fill hy hr 36 28 rfl rfl (by decide) v19591) (Nat.le_of_ble_eq_true rfl) ?_
  obtain ⟨I19592, eI19592⟩ : ∃ I9 : pI, I9 = fi I19584 (ad g 36) 28 v19591 := ⟨_, rfl⟩
  rw [← eI19592]
  have hI19592 : XI g n L I19592 := by rw [eI19592]; exact (xi_fill hy hI19584 36 28 v19591 (0) (0) (99) (by decide) (by decide) (by omega) (by omega))
  have e19593 : I19592 (ad g 1) 1 = L := by rw [eI19592, fi_off (lyx_ne hy (by decide) (by decide) (by decide))]; exact e19585
  have e19594 : I19592 (ad g 27) 0 = v19521 := by rw [eI19592, fi_off (lyx_ne hy (by decide) (by decide) (by decide))]; exact e19586
  have e19595 : I19592 (ad g 27) 1 = v19525 := by rw [eI19592, fi_off (lyx_ne hy (by decide) (by decide) (by decide))]; exact e19587
  have e19596 : I19592 (ad g 27) 2 = v19530 := by rw [eI19592, fi_off (lyx_ne hy (by decide) (by decide) (by decide))]; exact e19588
  have e19597 : I19592 (ad g 27) 3 = v19536 := by rw [eI19592, fi_off (lyx_ne hy (by decide) (by decide) (by decide))]; exact e19589
  have e19598 : I19592 (ad g 27) 4 = v19543 := by rw [eI19592, fi_off (lyx_ne hy (by decide) (by decide) (by decide))]; exact e19590
  clear eI19592
  refine WP_aload_n dX7_forget_73 rfl ?_
  refine WP_getr dX7_forget_74 fX7_45 rfl (lyx_is hy 27 7 rfl) (rfx hr 27 16 39 (by decide)) ?_
  refine WQ_iconst (5) (5) dX7_forget_77 rfl rfl (fun v19599 hv19599 => ?_)
  refine WP_callS2u dX7_forget_78 ⟨⟨⟨by decide, by decide⟩, zJ7_fill_53178⟩, lX7_77, tJ7_fill_53178⟩ (s_fill hy hr 39 21 rfl rfl (by decide) v19599) (Nat.le_of_ble_eq_true rfl) ?_
  obtain ⟨I19600, eI19600⟩ : ∃ I9 : pI, I9 = fi I19592 (ad g 39) 21 v19599 := ⟨_, rfl⟩
  rw [← eI19600]
  have hI19600 : XI g n L I19600 := by rw [eI19600]; exact (xi_fill hy hI19592 39 21 v19599 (0) (0) (20) (by decide) (by decide) (by omega) (by omega))
  have e19601 : I19600 (ad g 1) 1 = L := by rw [eI19600, fi_off (lyx_ne hy (by decide) (by decide) (by decide))]; exact e19593
  have e19602 : I19600 (ad g 27) 0 = v19521 := by rw [eI19600, fi_off (lyx_ne hy (by decide) (by decide) (by decide))]; exact e19594
  have e19603 : I19600 (ad g 27) 1 = v19525 := by rw [eI19600, fi_off (lyx_ne hy (by decide) (by decide) (by decide))]; exact e19595
  have e19604 : I19600 (ad g 27) 2 = v19530 := by rw [eI19600, fi_off (lyx_ne hy (by decide) (by decide) (by decide))]; exact e19596
  have e19605 : I19600 (ad g 27) 3 = v19536 := by rw [eI19600, fi_off (lyx_ne hy (by decide) (by decide) (by decide))]; exact e19597
  have e19606 : I19600 (ad g 27) 4 = v19543 := by rw [eI19600, fi_off (lyx_ne hy (by decide) (by decide) (by decide))]; exact e19598
  clear eI19600
  refine WP_aload_n dX7_forget_81 rfl ?_
  refine WP_getr dX7_forget_82 fX7_48 rfl (lyx_is hy 27 7 rfl) (rfx hr 27 17 40 (by decide)) ?_
  refine WQ_iconst (-1) (-1) dX7_forget_85 rfl rfl (fun v19607 hv19607 => ?_)
  refine WP_callS2u dX7_forget_86 ⟨⟨⟨by decide, by decide⟩, zJ7_fill_53178⟩, lX7_77, tJ7_fill_53178⟩ (s_fill hy hr 40 21 rfl rfl (by decide) v19607) (Nat.le_of_ble_eq_true rfl) ?_
  obtain ⟨I19608, eI19608⟩ : ∃ I9 : pI, I9 = fi I19600 (ad g 40) 21 v19607 := ⟨_, rfl⟩
  rw [← eI19608]
  have hI19608 : XI g n L I19608 := by rw [eI19608]; exact (xi_fill hy hI19600 40 21 v19607 (-1) (0) (999) (by decide) (by decide) (by omega) (by omega))
  have e19609 : I19608 (ad g 1) 1 = L := by rw [eI19608, fi_off (lyx_ne hy (by decide) (by decide) (by decide))]; exact e19601
  have e19610 : I19608 (ad g 27) 0 = v19521 := by rw [eI19608, fi_off (lyx_ne hy (by decide) (by decide) (by decide))]; exact e19602
  have e19611 : I19608 (ad g 27) 1 = v19525 := by rw [eI19608, fi_off (lyx_ne hy (by decide) (by decide) (by decide))]; exact e19603
  have e19612 : I19608 (ad g 27) 2 = v19530 := by rw [eI19608, fi_off (lyx_ne hy (by decide) (by decide) (by decide))]; exact e19604
  have e19613 : I19608 (ad g 27) 3 = v19536 := by rw [eI19608, fi_off (lyx_ne hy (by decide) (by decide) (by decide))]; exact e19605
  have e19614 : I19608 (ad g 27) 4 = v19543 := by rw [eI19608, fi_off (lyx_ne hy (by decide) (by decide) (by decide))]; exact e19606
  clear eI19608
  refine WP_aload_n dX7_forget_89 rfl ?_
  refine WP_getr dX7_forget_90 fX7_55 rfl (lyx_is hy 27 7 rfl) (rfx hr 27 19 42 (by decide)) ?_
  refine WQ_iconst (0) (0) dX7_forget_93 rfl rfl (fun v19615 hv19615 => ?_)
  refine WP_callS2u dX7_forget_94 ⟨⟨⟨by decide, by decide⟩, zJ7_fill_53178⟩, lX7_77, tJ7_fill_53178⟩ (s_fill hy hr 42 48 rfl rfl (by decide) v19615) (Nat.le_of_ble_eq_true rfl) ?_
  obtain ⟨I19616, eI19616⟩ : ∃ I9 : pI, I9 = fi I19608 (ad g 42) 48 v19615 := ⟨_, rfl⟩
  rw [← eI19616]
  have hI19616 : XI g n L I19616 := by rw [eI19616]; exact (xi_fill0 hy hI19608 42 48 v19615 (by decide) (by decide))
  have e19617 : I19616 (ad g 1) 1 = L := by rw [eI19616, fi_off (lyx_ne hy (by decide) (by decide) (by decide))]; exact e19609
  have e19618 : I19616 (ad g 27) 0 = v19521 := by rw [eI19616, fi_off (lyx_ne hy (by decide) (by decide) (by decide))]; exact e19610
  have e19619 : I19616 (ad g 27) 1 = v19525 := by rw [eI19616, fi_off (lyx_ne hy (by decide) (by decide) (by decide))]; exact e19611
  have e19620 : I19616 (ad g 27) 2 = v19530 := by rw [eI19616, fi_off (lyx_ne hy (by decide) (by decide) (by decide))]; exact e19612
  have e19621 : I19616 (ad g 27) 3 = v19536 := by rw [eI19616, fi_off (lyx_ne hy (by decide) (by decide) (by decide))]; exact e19613
  have e19622 : I19616 (ad g 27) 4 = v19543 := by rw [eI19616, fi_off (lyx_ne hy (by decide) (by decide) (by decide))]; exact e19614
  clear eI19616
  exact WP_vret dX7_forget_97 rfl ⟨⟨hI19616, rfl⟩, rfl⟩
set_option maxHeartbeats 4000000 in
set_option maxRecDepth 100000 in
theorem sx_readTown_27 {g : GG} {n : Int} {L : Int32} (hy : LyX g) {aK aV : Nat → Nat} {fo : Option Nat} (hz : HZ g aK aV fo)  {I : pI} {J : pJ} {R : pR} (hr : RfX g R) (hI : XI g n L I)   : SP g mX3_readTown [.ref (ad g 3), .ref (ad g 27)] I J R (fun r I' J' R' => (XI g n L I' ∧ R' = R) ∧ ∃ v : Int32, r = some (.int v) ∧ 0 ≤ v.toInt ∧ v.toInt ≤ 1) := by
  refine SP_of ⟨by decide, rfl⟩ (Nat.le_of_ble_eq_true rfl) ?_
  have e19623 : I (ad g 1) 1 = L := hI.2
  have b19624 := BT_get hI.1 1 1 2 (0) (0) (900) (by decide) 1 (by decide) (by decide)
  rw [e19623] at b19624
  refine WP_aload_n dX3_readTown_0 rfl ?_
  refine WP_callV0 (k := 7) dX3_readTown_1 ⟨⟨⟨by decide, by decide⟩, zX7_forget⟩, lX3_26, by decide, rfl, vX7_forget.1, vX7_forget.2⟩ (lyx_is hy 27 7 rfl) (sx_forget_27 hy hr hI  ) (Nat.le_of_ble_eq_true rfl) ?_
  intro r I19625 J19626 Ra hq
  obtain ⟨⟨hI19625, ec⟩, rfl⟩ := hq
  rw [ec]
  clear ec Ra
  have e19627 : I19625 (ad g 1) 1 = L := hI19625.2
  have b19628 := BT_get hI19625.1 1 1 2 (0) (0) (900) (by decide) 1 (by decide) (by decide)
  rw [e19627] at b19628
  refine WP_aload_n dX3_readTown_4 rfl ?_
  refine WQ_iconst (0) (0) dX3_readTown_5 rfl rfl (fun v19629 hv19629 => ?_)
  refine WP_callV1 (k := 3) dX3_readTown_6 ⟨⟨⟨by decide, by decide⟩, zX3_note⟩, lX3_31, by decide, rfl, vX3_note.1, vX3_note.2⟩ (lyx_is hy 3 3 rfl) (sx_notef hy hr hI19625 v19629 ) (Nat.le_of_ble_eq_true rfl) ?_
  intro r I19630 J19631 Ra hq
  obtain ⟨⟨hI19630, ec, fiI19630⟩, rfl⟩ := hq
  rw [ec]
  clear ec Ra
  have e19632 : I19630 (ad g 1) 1 = L := hI19630.2
  have b19633 := BT_get hI19630.1 1 1 2 (0) (0) (900) (by decide) 1 (by decide) (by decide)
  rw [e19632] at b19633
  refine WP_aload_n dX3_readTown_9 rfl ?_
  refine WP_getr dX3_readTown_10 fX3_15 rfl (lyx_is hy 3 3 rfl) (rfx hr 3 2 1 (by decide)) ?_
  refine WP_callV0 (k := 5) dX3_readTown_13 ⟨⟨⟨by decide, by decide⟩, zX5_rewind⟩, lX3_35, by decide, rfl, vX5_rewind.1, vX5_rewind.2⟩ (lyx_is hy 1 5 rfl) (sx_rewindf hy hr hI19630  ) (Nat.le_of_ble_eq_true rfl) ?_
  intro r I19634 J19635 Ra hq
  obtain ⟨⟨hI19634, ec, fiI19634⟩, rfl⟩ := hq
  rw [ec]
  clear ec Ra
  have e19636 : I19634 (ad g 1) 1 = L := hI19634.2
  have b19637 := BT_get hI19634.1 1 1 2 (0) (0) (900) (by decide) 1 (by decide) (by decide)
  rw [e19636] at b19637
  refine WQ_iconst (0) (0) dX3_readTown_16 rfl rfl (fun v19638 hv19638 => ?_)
  refine WP_istore_n (ls' := [(0, _), (1, _), (2, _)]) dX3_readTown_17 (by decide) rfl ?_
  have lp18_19641 : ∀ (mz : Nat) (i19639 : Int32) (I19640 : pI) (J19641 : pJ), XI g n L I19640 → 0 ≤ i19639.toInt → i19639.toInt ≤ 901 → (902 - i19639.toInt).toNat < mz → WP g mX3_readTown 18 [(0, .ref (ad g 3)), (1, .ref (ad g 27)), (2, .int i19639)] [] I19640 J19641 R (fun r I' J' R' => (XI g n L I' ∧ R' = R) ∧ ∃ v : Int32, r = some (.int v) ∧ 0 ≤ v.toInt ∧ v.toInt ≤ 1) := by
    intro mz
    induction mz with
    | zero =>
      intro i19639 I19640 J19641 hI19640 ai19639 bi19639 hmlp18_19641
      exact absurd hmlp18_19641 (Nat.not_lt_zero _)
    | succ mz ihlp18_19641 =>
      intro i19639 I19640 J19641 hI19640 ai19639 bi19639 hmlp18_19641
      have e19643 : I19640 (ad g 1) 1 = L := hI19640.2
      have b19644 := BT_get hI19640.1 1 1 2 (0) (0) (900) (by decide) 1 (by decide) (by decide)
      rw [e19643] at b19644
      refine WP_iload_n dX3_readTown_18 rfl ?_
      refine WQ_sipush (900) (900) dX3_readTown_19 rfl rfl (fun v19645 hv19645 => ?_)
      refine WQ_icmp_gt 114 dX3_readTown_22 rfl (fun c19645 => ?_) (fun c19645 => ?_)
      · refine WQ_iconst (1) (1) dX3_readTown_114 rfl rfl (fun v19647 hv19647 => ?_)
        exact WP_zret dX3_readTown_115 rfl (nar_z (by omega)) ⟨⟨hI19640, rfl⟩, _, rfl, by omega, by omega⟩
      · refine WP_aload_n dX3_readTown_25 rfl ?_
        refine WP_getr dX3_readTown_26 fX3_15 rfl (lyx_is hy 3 3 rfl) (rfx hr 3 2 1 (by decide)) ?_
        refine WP_callV0 (k := 5) dX3_readTown_29 ⟨⟨⟨by decide, by decide⟩, zX5_next⟩, lX3_40, by decide, rfl, vX5_next.1, vX5_next.2⟩ (lyx_is hy 1 5 rfl) (sx_nextf hy hr hI19640  ) (Nat.le_of_ble_eq_true rfl) ?_
        intro r I19648 J19649 Ra hq
        obtain ⟨⟨hI19648, ec, fiI19648⟩, rfl⟩ := hq
        rw [ec]
        clear ec Ra
        have e19650 : I19648 (ad g 1) 1 = L := hI19648.2
        have b19651 := BT_get hI19648.1 1 1 2 (0) (0) (900) (by decide) 1 (by decide) (by decide)
        rw [e19650] at b19651
        refine WP_aload_n dX3_readTown_32 rfl ?_
        refine WP_getr dX3_readTown_33 fX3_15 rfl (lyx_is hy 3 3 rfl) (rfx hr 3 2 1 (by decide)) ?_
        refine WQ_geti dX3_readTown_36 fX3_43 rfl (lyx_is hy 1 5 rfl) (BT_get hI19648.1 1 2 3 (0) (0) (4) (by decide) 2 (by decide) (by decide)) (fun v19652 ev19652 av19652 bv19652 => ?_)
        refine WQ_if_ne 45 dX3_readTown_39 rfl (fun c19652 => ?_) (fun c19652 => ?_)
        · refine WP_aload_n dX3_readTown_45 rfl ?_
          refine WP_callV0 (k := 3) dX3_readTown_46 ⟨⟨⟨by decide, by decide⟩, zX3_clauseAtHand⟩, lX3_46, by decide, rfl, vX3_clauseAtHand.1, vX3_clauseAtHand.2⟩ (lyx_is hy 3 3 rfl) (sx_clauseAtHand hy hz hr hI19648  ) (Nat.le_of_ble_eq_true rfl) ?_
          intro r Ia Ja Ra hq
          obtain ⟨⟨ea, eb, ec⟩, v19654, rfl, av19654, bv19654⟩ := hq
          show WP _ _ _ _ (.int _ :: _) _ _ _ _
          rw [ea, eb, ec]
          clear ea eb ec Ia Ja Ra
          refine WP_istore_n (ls' := [(0, _), (1, _), (2, _), (3, _)]) dX3_readTown_49 (by decide) rfl ?_
          refine WP_iload_n dX3_readTown_50 rfl ?_
          refine WQ_iconst (-1) (-1) dX3_readTown_51 rfl rfl (fun v19655 hv19655 => ?_)
          refine WQ_icmp_ne 59 dX3_readTown_52 rfl (fun c19655 => ?_) (fun c19655 => ?_)
          · rcases (show (0 ≤ v19654.toInt ∧ v19654.toInt ≤ 0) ∨ (1 ≤ v19654.toInt ∧ v19654.toInt ≤ 1) ∨ (2 ≤ v19654.toInt ∧ v19654.toInt ≤ 2) ∨ (3 ≤ v19654.toInt ∧ v19654.toInt ≤ 3) ∨ (4 ≤ v19654.toInt ∧ v19654.toInt ≤ 4) ∨ (5 ≤ v19654.toInt ∧ v19654.toInt ≤ 5) ∨ (6 ≤ v19654.toInt ∧ v19654.toInt ≤ 6) ∨ (7 ≤ v19654.toInt ∧ v19654.toInt ≤ 7) ∨ (8 ≤ v19654.toInt ∧ v19654.toInt ≤ 8) ∨ (9 ≤ v19654.toInt ∧ v19654.toInt ≤ 9) by omega) with ⟨k19657_0, k19657_1⟩ | ⟨k19657_2, k19657_3⟩ | ⟨k19657_4, k19657_5⟩ | ⟨k19657_6, k19657_7⟩ | ⟨k19657_8, k19657_9⟩ | ⟨k19657_10, k19657_11⟩ | ⟨k19657_12, k19657_13⟩ | ⟨k19657_14, k19657_15⟩ | ⟨k19657_16, k19657_17⟩ | ⟨k19657_18, k19657_19⟩
            · refine WP_aload_n dX3_readTown_59 rfl ?_
              refine WP_iload_n dX3_readTown_60 rfl ?_
              refine WP_callV1 (k := 7) dX3_readTown_61 ⟨⟨⟨by decide, by decide⟩, zX7_faultAhead⟩, lX3_50, by decide, rfl, vX7_faultAhead.1, vX7_faultAhead.2⟩ (lyx_is hy 27 7 rfl) (sx_faultAhead_27_0 hy hr hI19648 v19654 (by omega) (by omega)) (Nat.le_of_ble_eq_true rfl) ?_
              intro r Ia Ja Ra hq
              obtain ⟨⟨ea, eb, ec⟩, v19658, rfl, av19658, bv19658⟩ := hq
              show WP _ _ _ _ (.int _ :: _) _ _ _ _
              rw [ea, eb, ec]
              clear ea eb ec Ia Ja Ra
              refine WP_istore (ls' := [(0, _), (1, _), (2, _), (3, _), (4, _)]) dX3_readTown_64 (by decide) rfl ?_
              refine WP_iload dX3_readTown_66 rfl ?_
              refine WQ_if_ne 86 dX3_readTown_68 rfl (fun c19658 => ?_) (fun c19658 => ?_)
              · refine WP_iload dX3_readTown_86 rfl ?_
                refine WQ_if_eq 99 dX3_readTown_88 rfl (fun c19659 => False.elim (by omega)) (fun c19659 => ?_)
                refine WP_aload_n dX3_readTown_91 rfl ?_
                refine WP_iload dX3_readTown_92 rfl ?_
                refine WP_callV1 (k := 3) dX3_readTown_94 ⟨⟨⟨by decide, by decide⟩, zX3_note⟩, lX3_31, by decide, rfl, vX3_note.1, vX3_note.2⟩ (lyx_is hy 3 3 rfl) (sx_notef hy hr hI19648 v19658 ) (Nat.le_of_ble_eq_true rfl) ?_
                intro r I19661 J19662 Ra hq
                obtain ⟨⟨hI19661, ec, fiI19661⟩, rfl⟩ := hq
                rw [ec]
                clear ec Ra
                have e19663 : I19661 (ad g 1) 2 = v19652 := by rw [fz_at fiI19661 1 (by decide) (by decide)]; exact ev19652
                have e19664 : I19661 (ad g 1) 1 = L := hI19661.2
                have b19665 := BT_get hI19661.1 1 1 2 (0) (0) (900) (by decide) 1 (by decide) (by decide)
                rw [e19664] at b19665
                refine WQ_iconst (0) (0) dX3_readTown_97 rfl rfl (fun v19666 hv19666 => ?_)
                exact WP_zret dX3_readTown_98 rfl (nar_z (by omega)) ⟨⟨hI19661, rfl⟩, _, rfl, by omega, by omega⟩
              · refine WP_aload_n dX3_readTown_71 rfl ?_
                refine WP_getr dX3_readTown_72 fX3_15 rfl (lyx_is hy 3 3 rfl) (rfx hr 3 2 1 (by decide)) ?_
                refine WP_callV0 (k := 5) dX3_readTown_75 ⟨⟨⟨by decide, by decide⟩, zX5_next⟩, lX3_40, by decide, rfl, vX5_next.1, vX5_next.2⟩ (lyx_is hy 1 5 rfl) (sx_nextf hy hr hI19648  ) (Nat.le_of_ble_eq_true rfl) ?_
                intro r I19667 J19668 Ra hq
                obtain ⟨⟨hI19667, ec, fiI19667⟩, rfl⟩ := hq
                rw [ec]
                clear ec Ra
                have e19669 : I19667 (ad g 1) 1 = L := hI19667.2
                have b19670 := BT_get hI19667.1 1 1 2 (0) (0) (900) (by decide) 1 (by decide) (by decide)
                rw [e19669] at b19670
                refine WP_aload_n dX3_readTown_78 rfl ?_
                refine WP_iload_n dX3_readTown_79 rfl ?_
                refine WP_aload_n dX3_readTown_80 rfl ?_
                refine WP_callV2 (k := 3) dX3_readTown_81 ⟨⟨⟨by decide, by decide⟩, zX3_faultInParts⟩, lX3_54, by decide, rfl, vX3_faultInParts.1, vX3_faultInParts.2⟩ (lyx_is hy 3 3 rfl) (sx_parts_27_0 hy hz hr hI19667 v19654 (by omega) (by omega)) (Nat.le_of_ble_eq_true rfl) ?_
                intro r I19671 J19672 Ra hq
                obtain ⟨⟨hI19671, ec, ⟨pI19671, sI19671_27_1, sI19671_27_2⟩⟩, v19673, rfl, av19673, bv19673, cv19673⟩ := hq
                show WP _ _ _ _ (.int _ :: _) _ _ _ _
                rw [ec]
                clear ec Ra
                have e19674 : I19671 (ad g 1) 1 = L := hI19671.2
                have b19675 := BT_get hI19671.1 1 1 2 (0) (0) (900) (by decide) 1 (by decide) (by decide)
                rw [e19674] at b19675
                obtain ⟨w19676, ew19676⟩ : ∃ w : Int32, I19671 (ad g 4) 0 = w := ⟨_, rfl⟩
                have bw19676 := BT_get hI19671.1 4 0 5 (0) (0) (1000) (by decide) 0 (by decide) (by decide)
                rw [ew19676] at bw19676
                rw [ew19676] at cv19673
                obtain ⟨w19677, ew19677⟩ : ∃ w : Int32, I19671 (ad g 4) 1 = w := ⟨_, rfl⟩
                have bw19677 := BT_get hI19671.1 4 0 5 (0) (0) (1000) (by decide) 1 (by decide) (by decide)
                rw [ew19677] at bw19677
                rw [ew19677] at cv19673
                refine WP_istore (ls' := [(0, _), (1, _), (2, _), (3, _), (4, _)]) dX3_readTown_84 (by decide) rfl ?_
                refine WP_iload dX3_readTown_86 rfl ?_
                refine WQ_if_eq 99 dX3_readTown_88 rfl (fun c19677 => ?_) (fun c19677 => ?_)
                · refine WP_aload_n dX3_readTown_99 rfl ?_
                  refine WP_iload_n dX3_readTown_100 rfl ?_
                  refine WP_aload_n dX3_readTown_101 rfl ?_
                  refine WP_getr dX3_readTown_102 fX3_9 rfl (lyx_is hy 3 3 rfl) (rfx hr 3 3 4 (by decide)) ?_
                  refine WP_callV2 (k := 7) dX3_readTown_105 ⟨⟨⟨by decide, by decide⟩, zX7_tell⟩, lX3_58, by decide, rfl, vX7_tell.1, vX7_tell.2⟩ (lyx_is hy 27 7 rfl) (sx_tell_27_0 hy hr hI19671 v19654 (by omega) (by omega) (by rw [ew19676, ew19677]; omega)) (Nat.le_of_ble_eq_true rfl) ?_
                  intro r I19679 J19680 Ra hq
                  obtain ⟨⟨hI19679, ec, pI19679⟩, rfl⟩ := hq
                  rw [ec]
                  clear ec Ra
                  have e19681 : I19679 (ad g 1) 1 = L := hI19679.2
                  have b19682 := BT_get hI19679.1 1 1 2 (0) (0) (900) (by decide) 1 (by decide) (by decide)
                  rw [e19681] at b19682
                  refine WP_iinc (ls' := [(0, _), (1, _), (2, _), (3, _), (4, _)]) dX3_readTown_108 rfl (by decide) rfl ?_
                  have hv19683 : (i19639 + Int32.ofInt (1)).toInt = i19639.toInt + (1) := ia_n rfl (by omega) (by omega)
                  generalize i19639 + Int32.ofInt (1) = v19683 at hv19683 ⊢
                  refine WP_goto 18 dX3_readTown_111 rfl ?_
                  exact WP_sub (fc rfl (fc rfl (fc rfl fn))) (ihlp18_19641 v19683 I19679 J19680 hI19679 (by omega) (by omega) (by omega))
                · refine WP_aload_n dX3_readTown_91 rfl ?_
                  refine WP_iload dX3_readTown_92 rfl ?_
                  refine WP_callV1 (k := 3) dX3_readTown_94 ⟨⟨⟨by decide, by decide⟩, zX3_note⟩, lX3_31, by decide, rfl, vX3_note.1, vX3_note.2⟩ (lyx_is hy 3 3 rfl) (sx_notef hy hr hI19671 v19673 ) (Nat.le_of_ble_eq_true rfl) ?_
                  intro r I19684 J19685 Ra hq
                  obtain ⟨⟨hI19684, ec, fiI19684⟩, rfl⟩ := hq
                  rw [ec]
                  clear ec Ra
                  have e19686 : I19684 (ad g 4) 0 = w19676 := by rw [fz_at fiI19684 4 (by decide) (by decide)]; exact ew19676
                  have e19687 : I19684 (ad g 4) 1 = w19677 := by rw [fz_at fiI19684 4 (by decide) (by decide)]; exact ew19677
                  have e19688 : I19684 (ad g 1) 1 = L := hI19684.2
                  have b19689 := BT_get hI19684.1 1 1 2 (0) (0) (900) (by decide) 1 (by decide) (by decide)
                  rw [e19688] at b19689
                  refine WQ_iconst (0) (0) dX3_readTown_97 rfl rfl (fun v19690 hv19690 => ?_)
                  exact WP_zret dX3_readTown_98 rfl (nar_z (by omega)) ⟨⟨hI19684, rfl⟩, _, rfl, by omega, by omega⟩
            · refine WP_aload_n dX3_readTown_59 rfl ?_
              refine WP_iload_n dX3_readTown_60 rfl ?_
              refine WP_callV1 (k := 7) dX3_readTown_61 ⟨⟨⟨by decide, by decide⟩, zX7_faultAhead⟩, lX3_50, by decide, rfl, vX7_faultAhead.1, vX7_faultAhead.2⟩ (lyx_is hy 27 7 rfl) (sx_faultAhead_27_1 hy hr hI19648 v19654 (by omega) (by omega)) (Nat.le_of_ble_eq_true rfl) ?_
              intro r Ia Ja Ra hq
              obtain ⟨⟨ea, eb, ec⟩, v19691, rfl, av19691, bv19691, cv19691⟩ := hq
              show WP _ _ _ _ (.int _ :: _) _ _ _ _
              rw [ea, eb, ec]
              clear ea eb ec Ia Ja Ra
              obtain ⟨w19692, ew19692⟩ : ∃ w : Int32, I19648 (ad g 27) 1 = w := ⟨_, rfl⟩
              have bw19692 := BT_get hI19648.1 27 1 2 (0) (0) (4) (by decide) 1 (by decide) (by decide)
              rw [ew19692] at bw19692
              rw [ew19692] at cv19691
              refine WP_istore (ls' := [(0, _), (1, _), (2, _), (3, _), (4, _)]) dX3_readTown_64 (by decide) rfl ?_
              refine WP_iload dX3_readTown_66 rfl ?_
              refine WQ_if_ne 86 dX3_readTown_68 rfl (fun c19692 => ?_) (fun c19692 => ?_)
              · refine WP_iload dX3_readTown_86 rfl ?_
                refine WQ_if_eq 99 dX3_readTown_88 rfl (fun c19693 => False.elim (by omega)) (fun c19693 => ?_)
                refine WP_aload_n dX3_readTown_91 rfl ?_
                refine WP_iload dX3_readTown_92 rfl ?_
                refine WP_callV1 (k := 3) dX3_readTown_94 ⟨⟨⟨by decide, by decide⟩, zX3_note⟩, lX3_31, by decide, rfl, vX3_note.1, vX3_note.2⟩ (lyx_is hy 3 3 rfl) (sx_notef hy hr hI19648 v19691 ) (Nat.le_of_ble_eq_true rfl) ?_
                intro r I19695 J19696 Ra hq
                obtain ⟨⟨hI19695, ec, fiI19695⟩, rfl⟩ := hq
                rw [ec]
                clear ec Ra
                have e19697 : I19695 (ad g 1) 2 = v19652 := by rw [fz_at fiI19695 1 (by decide) (by decide)]; exact ev19652
                have e19698 : I19695 (ad g 27) 1 = w19692 := by rw [fz_at fiI19695 27 (by decide) (by decide)]; exact ew19692
                have e19699 : I19695 (ad g 1) 1 = L := hI19695.2
                have b19700 := BT_get hI19695.1 1 1 2 (0) (0) (900) (by decide) 1 (by decide) (by decide)
                rw [e19699] at b19700
                refine WQ_iconst (0) (0) dX3_readTown_97 rfl rfl (fun v19701 hv19701 => ?_)
                exact WP_zret dX3_readTown_98 rfl (nar_z (by omega)) ⟨⟨hI19695, rfl⟩, _, rfl, by omega, by omega⟩
              · refine WP_aload_n dX3_readTown_71 rfl ?_
                refine WP_getr dX3_readTown_72 fX3_15 rfl (lyx_is hy 3 3 rfl) (rfx hr 3 2 1 (by decide)) ?_
                refine WP_callV0 (k := 5) dX3_readTown_75 ⟨⟨⟨by decide, by decide⟩, zX5_next⟩, lX3_40, by decide, rfl, vX5_next.1, vX5_next.2⟩ (lyx_is hy 1 5 rfl) (sx_nextf hy hr hI19648  ) (Nat.le_of_ble_eq_true rfl) ?_
                intro r I19702 J19703 Ra hq
                obtain ⟨⟨hI19702, ec, fiI19702⟩, rfl⟩ := hq
                rw [ec]
                clear ec Ra
                have e19704 : I19702 (ad g 27) 1 = w19692 := by rw [fz_at fiI19702 27 (by decide) (by decide)]; exact ew19692
                have e19705 : I19702 (ad g 1) 1 = L := hI19702.2
                have b19706 := BT_get hI19702.1 1 1 2 (0) (0) (900) (by decide) 1 (by decide) (by decide)
                rw [e19705] at b19706
                refine WP_aload_n dX3_readTown_78 rfl ?_
                refine WP_iload_n dX3_readTown_79 rfl ?_
                refine WP_aload_n dX3_readTown_80 rfl ?_
                refine WP_callV2 (k := 3) dX3_readTown_81 ⟨⟨⟨by decide, by decide⟩, zX3_faultInParts⟩, lX3_54, by decide, rfl, vX3_faultInParts.1, vX3_faultInParts.2⟩ (lyx_is hy 3 3 rfl) (sx_parts_27_1 hy hz hr hI19702 v19654 (by omega) (by omega) (by rw [e19704]; omega)) (Nat.le_of_ble_eq_true rfl) ?_
                intro r I19707 J19708 Ra hq
                obtain ⟨⟨hI19707, ec, ⟨pI19707, sI19707_27_1, sI19707_27_2⟩⟩, v19709, rfl, av19709, bv19709, cv19709⟩ := hq
                show WP _ _ _ _ (.int _ :: _) _ _ _ _
                rw [ec]
                clear ec Ra
                have e19710 : I19707 (ad g 27) 1 = w19692 := by rw [sI19707_27_1]; exact e19704
                have e19711 : I19707 (ad g 1) 1 = L := hI19707.2
                have b19712 := BT_get hI19707.1 1 1 2 (0) (0) (900) (by decide) 1 (by decide) (by decide)
                rw [e19711] at b19712
                obtain ⟨w19713, ew19713⟩ : ∃ w : Int32, I19707 (ad g 4) 1 = w := ⟨_, rfl⟩
                have bw19713 := BT_get hI19707.1 4 0 5 (0) (0) (1000) (by decide) 1 (by decide) (by decide)
                rw [ew19713] at bw19713
                rw [ew19713] at cv19709
                obtain ⟨w19714, ew19714⟩ : ∃ w : Int32, I19707 (ad g 4) 2 = w := ⟨_, rfl⟩
                have bw19714 := BT_get hI19707.1 4 0 5 (0) (0) (1000) (by decide) 2 (by decide) (by decide)
                rw [ew19714] at bw19714
                rw [ew19714] at cv19709
                obtain ⟨w19715, ew19715⟩ : ∃ w : Int32, I19707 (ad g 4) 3 = w := ⟨_, rfl⟩
                have bw19715 := BT_get hI19707.1 4 0 5 (0) (0) (1000) (by decide) 3 (by decide) (by decide)
                rw [ew19715] at bw19715
                rw [ew19715] at cv19709
                refine WP_istore (ls' := [(0, _), (1, _), (2, _), (3, _), (4, _)]) dX3_readTown_84 (by decide) rfl ?_
                refine WP_iload dX3_readTown_86 rfl ?_
                refine WQ_if_eq 99 dX3_readTown_88 rfl (fun c19715 => ?_) (fun c19715 => ?_)
                · refine WP_aload_n dX3_readTown_99 rfl ?_
                  refine WP_iload_n dX3_readTown_100 rfl ?_
                  refine WP_aload_n dX3_readTown_101 rfl ?_
                  refine WP_getr dX3_readTown_102 fX3_9 rfl (lyx_is hy 3 3 rfl) (rfx hr 3 3 4 (by decide)) ?_
                  refine WP_callV2 (k := 7) dX3_readTown_105 ⟨⟨⟨by decide, by decide⟩, zX7_tell⟩, lX3_58, by decide, rfl, vX7_tell.1, vX7_tell.2⟩ (lyx_is hy 27 7 rfl) (sx_tell_27_1 hy hr hI19707 v19654 (by omega) (by omega) (by rw [ew19713, ew19714, ew19715, e19710]; omega)) (Nat.le_of_ble_eq_true rfl) ?_
                  intro r I19717 J19718 Ra hq
                  obtain ⟨⟨hI19717, ec, pI19717⟩, rfl⟩ := hq
                  rw [ec]
                  clear ec Ra
                  have e19719 : I19717 (ad g 1) 1 = L := hI19717.2
                  have b19720 := BT_get hI19717.1 1 1 2 (0) (0) (900) (by decide) 1 (by decide) (by decide)
                  rw [e19719] at b19720
                  refine WP_iinc (ls' := [(0, _), (1, _), (2, _), (3, _), (4, _)]) dX3_readTown_108 rfl (by decide) rfl ?_
                  have hv19721 : (i19639 + Int32.ofInt (1)).toInt = i19639.toInt + (1) := ia_n rfl (by omega) (by omega)
                  generalize i19639 + Int32.ofInt (1) = v19721 at hv19721 ⊢
                  refine WP_goto 18 dX3_readTown_111 rfl ?_
                  exact WP_sub (fc rfl (fc rfl (fc rfl fn))) (ihlp18_19641 v19721 I19717 J19718 hI19717 (by omega) (by omega) (by omega))
                · refine WP_aload_n dX3_readTown_91 rfl ?_
                  refine WP_iload dX3_readTown_92 rfl ?_
                  refine WP_callV1 (k := 3) dX3_readTown_94 ⟨⟨⟨by decide, by decide⟩, zX3_note⟩, lX3_31, by decide, rfl, vX3_note.1, vX3_note.2⟩ (lyx_is hy 3 3 rfl) (sx_notef hy hr hI19707 v19709 ) (Nat.le_of_ble_eq_true rfl) ?_
                  intro r I19722 J19723 Ra hq
                  obtain ⟨⟨hI19722, ec, fiI19722⟩, rfl⟩ := hq
                  rw [ec]
                  clear ec Ra
                  have e19724 : I19722 (ad g 27) 1 = w19692 := by rw [fz_at fiI19722 27 (by decide) (by decide)]; exact e19710
                  have e19725 : I19722 (ad g 4) 1 = w19713 := by rw [fz_at fiI19722 4 (by decide) (by decide)]; exact ew19713
                  have e19726 : I19722 (ad g 4) 2 = w19714 := by rw [fz_at fiI19722 4 (by decide) (by decide)]; exact ew19714
                  have e19727 : I19722 (ad g 4) 3 = w19715 := by rw [fz_at fiI19722 4 (by decide) (by decide)]; exact ew19715
                  have e19728 : I19722 (ad g 1) 1 = L := hI19722.2
                  have b19729 := BT_get hI19722.1 1 1 2 (0) (0) (900) (by decide) 1 (by decide) (by decide)
                  rw [e19728] at b19729
                  refine WQ_iconst (0) (0) dX3_readTown_97 rfl rfl (fun v19730 hv19730 => ?_)
                  exact WP_zret dX3_readTown_98 rfl (nar_z (by omega)) ⟨⟨hI19722, rfl⟩, _, rfl, by omega, by omega⟩
            · refine WP_aload_n dX3_readTown_59 rfl ?_
              refine WP_iload_n dX3_readTown_60 rfl ?_
              refine WP_callV1 (k := 7) dX3_readTown_61 ⟨⟨⟨by decide, by decide⟩, zX7_faultAhead⟩, lX3_50, by decide, rfl, vX7_faultAhead.1, vX7_faultAhead.2⟩ (lyx_is hy 27 7 rfl) (sx_faultAhead_27_2 hy hr hI19648 v19654 (by omega) (by omega)) (Nat.le_of_ble_eq_true rfl) ?_
              intro r Ia Ja Ra hq
              obtain ⟨⟨ea, eb, ec⟩, v19731, rfl, av19731, bv19731, cv19731⟩ := hq
              show WP _ _ _ _ (.int _ :: _) _ _ _ _
              rw [ea, eb, ec]
              clear ea eb ec Ia Ja Ra
              obtain ⟨w19732, ew19732⟩ : ∃ w : Int32, I19648 (ad g 27) 2 = w := ⟨_, rfl⟩
              have bw19732 := BT_get hI19648.1 27 2 3 (0) (0) (3) (by decide) 2 (by decide) (by decide)
              rw [ew19732] at bw19732
              rw [ew19732] at cv19731
              refine WP_istore (ls' := [(0, _), (1, _), (2, _), (3, _), (4, _)]) dX3_readTown_64 (by decide) rfl ?_
              refine WP_iload dX3_readTown_66 rfl ?_
              refine WQ_if_ne 86 dX3_readTown_68 rfl (fun c19732 => ?_) (fun c19732 => ?_)
              · refine WP_iload dX3_readTown_86 rfl ?_
                refine WQ_if_eq 99 dX3_readTown_88 rfl (fun c19733 => False.elim (by omega)) (fun c19733 => ?_)
                refine WP_aload_n dX3_readTown_91 rfl ?_
                refine WP_iload dX3_readTown_92 rfl ?_
                refine WP_callV1 (k := 3) dX3_readTown_94 ⟨⟨⟨by decide, by decide⟩, zX3_note⟩, lX3_31, by decide, rfl, vX3_note.1, vX3_note.2⟩ (lyx_is hy 3 3 rfl) (sx_notef hy hr hI19648 v19731 ) (Nat.le_of_ble_eq_true rfl) ?_
                intro r I19735 J19736 Ra hq
                obtain ⟨⟨hI19735, ec, fiI19735⟩, rfl⟩ := hq
                rw [ec]
                clear ec Ra
                have e19737 : I19735 (ad g 1) 2 = v19652 := by rw [fz_at fiI19735 1 (by decide) (by decide)]; exact ev19652
                have e19738 : I19735 (ad g 27) 2 = w19732 := by rw [fz_at fiI19735 27 (by decide) (by decide)]; exact ew19732
                have e19739 : I19735 (ad g 1) 1 = L := hI19735.2
                have b19740 := BT_get hI19735.1 1 1 2 (0) (0) (900) (by decide) 1 (by decide) (by decide)
                rw [e19739] at b19740
                refine WQ_iconst (0) (0) dX3_readTown_97 rfl rfl (fun v19741 hv19741 => ?_)
                exact WP_zret dX3_readTown_98 rfl (nar_z (by omega)) ⟨⟨hI19735, rfl⟩, _, rfl, by omega, by omega⟩
              · refine WP_aload_n dX3_readTown_71 rfl ?_
                refine WP_getr dX3_readTown_72 fX3_15 rfl (lyx_is hy 3 3 rfl) (rfx hr 3 2 1 (by decide)) ?_
                refine WP_callV0 (k := 5) dX3_readTown_75 ⟨⟨⟨by decide, by decide⟩, zX5_next⟩, lX3_40, by decide, rfl, vX5_next.1, vX5_next.2⟩ (lyx_is hy 1 5 rfl) (sx_nextf hy hr hI19648  ) (Nat.le_of_ble_eq_true rfl) ?_
                intro r I19742 J19743 Ra hq
                obtain ⟨⟨hI19742, ec, fiI19742⟩, rfl⟩ := hq
                rw [ec]
                clear ec Ra
                have e19744 : I19742 (ad g 27) 2 = w19732 := by rw [fz_at fiI19742 27 (by decide) (by decide)]; exact ew19732
                have e19745 : I19742 (ad g 1) 1 = L := hI19742.2
                have b19746 := BT_get hI19742.1 1 1 2 (0) (0) (900) (by decide) 1 (by decide) (by decide)
                rw [e19745] at b19746
                refine WP_aload_n dX3_readTown_78 rfl ?_
                refine WP_iload_n dX3_readTown_79 rfl ?_
                refine WP_aload_n dX3_readTown_80 rfl ?_
                refine WP_callV2 (k := 3) dX3_readTown_81 ⟨⟨⟨by decide, by decide⟩, zX3_faultInParts⟩, lX3_54, by decide, rfl, vX3_faultInParts.1, vX3_faultInParts.2⟩ (lyx_is hy 3 3 rfl) (sx_parts_27_2 hy hz hr hI19742 v19654 (by omega) (by omega) (by rw [e19744]; omega)) (Nat.le_of_ble_eq_true rfl) ?_
                intro r I19747 J19748 Ra hq
                obtain ⟨⟨hI19747, ec, ⟨pI19747, sI19747_27_1, sI19747_27_2⟩⟩, v19749, rfl, av19749, bv19749, cv19749⟩ := hq
                show WP _ _ _ _ (.int _ :: _) _ _ _ _
                rw [ec]
                clear ec Ra
                have e19750 : I19747 (ad g 27) 2 = w19732 := by rw [sI19747_27_2]; exact e19744
                have e19751 : I19747 (ad g 1) 1 = L := hI19747.2
                have b19752 := BT_get hI19747.1 1 1 2 (0) (0) (900) (by decide) 1 (by decide) (by decide)
                rw [e19751] at b19752
                obtain ⟨w19753, ew19753⟩ : ∃ w : Int32, I19747 (ad g 4) 1 = w := ⟨_, rfl⟩
                have bw19753 := BT_get hI19747.1 4 0 5 (0) (0) (1000) (by decide) 1 (by decide) (by decide)
                rw [ew19753] at bw19753
                rw [ew19753] at cv19749
                obtain ⟨w19754, ew19754⟩ : ∃ w : Int32, I19747 (ad g 4) 2 = w := ⟨_, rfl⟩
                have bw19754 := BT_get hI19747.1 4 0 5 (0) (0) (1000) (by decide) 2 (by decide) (by decide)
                rw [ew19754] at bw19754
                rw [ew19754] at cv19749
                refine WP_istore (ls' := [(0, _), (1, _), (2, _), (3, _), (4, _)]) dX3_readTown_84 (by decide) rfl ?_
                refine WP_iload dX3_readTown_86 rfl ?_
                refine WQ_if_eq 99 dX3_readTown_88 rfl (fun c19754 => ?_) (fun c19754 => ?_)
                · refine WP_aload_n dX3_readTown_99 rfl ?_
                  refine WP_iload_n dX3_readTown_100 rfl ?_
                  refine WP_aload_n dX3_readTown_101 rfl ?_
                  refine WP_getr dX3_readTown_102 fX3_9 rfl (lyx_is hy 3 3 rfl) (rfx hr 3 3 4 (by decide)) ?_
                  refine WP_callV2 (k := 7) dX3_readTown_105 ⟨⟨⟨by decide, by decide⟩, zX7_tell⟩, lX3_58, by decide, rfl, vX7_tell.1, vX7_tell.2⟩ (lyx_is hy 27 7 rfl) (sx_tell_27_2 hy hr hI19747 v19654 (by omega) (by omega) (by rw [ew19753, ew19754, e19750]; omega)) (Nat.le_of_ble_eq_true rfl) ?_
                  intro r I19756 J19757 Ra hq
                  obtain ⟨⟨hI19756, ec, pI19756⟩, rfl⟩ := hq
                  rw [ec]
                  clear ec Ra
                  have e19758 : I19756 (ad g 1) 1 = L := hI19756.2
                  have b19759 := BT_get hI19756.1 1 1 2 (0) (0) (900) (by decide) 1 (by decide) (by decide)
                  rw [e19758] at b19759
                  refine WP_iinc (ls' := [(0, _), (1, _), (2, _), (3, _), (4, _)]) dX3_readTown_108 rfl (by decide) rfl ?_
                  have hv19760 : (i19639 + Int32.ofInt (1)).toInt = i19639.toInt + (1) := ia_n rfl (by omega) (by omega)
                  generalize i19639 + Int32.ofInt (1) = v19760 at hv19760 ⊢
                  refine WP_goto 18 dX3_readTown_111 rfl ?_
                  exact WP_sub (fc rfl (fc rfl (fc rfl fn))) (ihlp18_19641 v19760 I19756 J19757 hI19756 (by omega) (by omega) (by omega))
                · refine WP_aload_n dX3_readTown_91 rfl ?_
                  refine WP_iload dX3_readTown_92 rfl ?_
                  refine WP_callV1 (k := 3) dX3_readTown_94 ⟨⟨⟨by decide, by decide⟩, zX3_note⟩, lX3_31, by decide, rfl, vX3_note.1, vX3_note.2⟩ (lyx_is hy 3 3 rfl) (sx_notef hy hr hI19747 v19749 ) (Nat.le_of_ble_eq_true rfl) ?_
                  intro r I19761 J19762 Ra hq
                  obtain ⟨⟨hI19761, ec, fiI19761⟩, rfl⟩ := hq
                  rw [ec]
                  clear ec Ra
                  have e19763 : I19761 (ad g 27) 2 = w19732 := by rw [fz_at fiI19761 27 (by decide) (by decide)]; exact e19750
                  have e19764 : I19761 (ad g 4) 1 = w19753 := by rw [fz_at fiI19761 4 (by decide) (by decide)]; exact ew19753
                  have e19765 : I19761 (ad g 4) 2 = w19754 := by rw [fz_at fiI19761 4 (by decide) (by decide)]; exact ew19754
                  have e19766 : I19761 (ad g 1) 1 = L := hI19761.2
                  have b19767 := BT_get hI19761.1 1 1 2 (0) (0) (900) (by decide) 1 (by decide) (by decide)
                  rw [e19766] at b19767
                  refine WQ_iconst (0) (0) dX3_readTown_97 rfl rfl (fun v19768 hv19768 => ?_)
                  exact WP_zret dX3_readTown_98 rfl (nar_z (by omega)) ⟨⟨hI19761, rfl⟩, _, rfl, by omega, by omega⟩
            · refine WP_aload_n dX3_readTown_59 rfl ?_
              refine WP_iload_n dX3_readTown_60 rfl ?_
              refine WP_callV1 (k := 7) dX3_readTown_61 ⟨⟨⟨by decide, by decide⟩, zX7_faultAhead⟩, lX3_50, by decide, rfl, vX7_faultAhead.1, vX7_faultAhead.2⟩ (lyx_is hy 27 7 rfl) (sx_faultAhead_27_3 hy hr hI19648 v19654 (by omega) (by omega)) (Nat.le_of_ble_eq_true rfl) ?_
              intro r Ia Ja Ra hq
              obtain ⟨⟨ea, eb, ec⟩, v19769, rfl, av19769, bv19769⟩ := hq
              show WP _ _ _ _ (.int _ :: _) _ _ _ _
              rw [ea, eb, ec]
              clear ea eb ec Ia Ja Ra
              refine WP_istore (ls' := [(0, _), (1, _), (2, _), (3, _), (4, _)]) dX3_readTown_64 (by decide) rfl ?_
              refine WP_iload dX3_readTown_66 rfl ?_
              refine WQ_if_ne 86 dX3_readTown_68 rfl (fun c19769 => ?_) (fun c19769 => ?_)
              · refine WP_iload dX3_readTown_86 rfl ?_
                refine WQ_if_eq 99 dX3_readTown_88 rfl (fun c19770 => False.elim (by omega)) (fun c19770 => ?_)
                refine WP_aload_n dX3_readTown_91 rfl ?_
                refine WP_iload dX3_readTown_92 rfl ?_
                refine WP_callV1 (k := 3) dX3_readTown_94 ⟨⟨⟨by decide, by decide⟩, zX3_note⟩, lX3_31, by decide, rfl, vX3_note.1, vX3_note.2⟩ (lyx_is hy 3 3 rfl) (sx_notef hy hr hI19648 v19769 ) (Nat.le_of_ble_eq_true rfl) ?_
                intro r I19772 J19773 Ra hq
                obtain ⟨⟨hI19772, ec, fiI19772⟩, rfl⟩ := hq
                rw [ec]
                clear ec Ra
                have e19774 : I19772 (ad g 1) 2 = v19652 := by rw [fz_at fiI19772 1 (by decide) (by decide)]; exact ev19652
                have e19775 : I19772 (ad g 1) 1 = L := hI19772.2
                have b19776 := BT_get hI19772.1 1 1 2 (0) (0) (900) (by decide) 1 (by decide) (by decide)
                rw [e19775] at b19776
                refine WQ_iconst (0) (0) dX3_readTown_97 rfl rfl (fun v19777 hv19777 => ?_)
                exact WP_zret dX3_readTown_98 rfl (nar_z (by omega)) ⟨⟨hI19772, rfl⟩, _, rfl, by omega, by omega⟩
              · refine WP_aload_n dX3_readTown_71 rfl ?_
                refine WP_getr dX3_readTown_72 fX3_15 rfl (lyx_is hy 3 3 rfl) (rfx hr 3 2 1 (by decide)) ?_
                refine WP_callV0 (k := 5) dX3_readTown_75 ⟨⟨⟨by decide, by decide⟩, zX5_next⟩, lX3_40, by decide, rfl, vX5_next.1, vX5_next.2⟩ (lyx_is hy 1 5 rfl) (sx_nextf hy hr hI19648  ) (Nat.le_of_ble_eq_true rfl) ?_
                intro r I19778 J19779 Ra hq
                obtain ⟨⟨hI19778, ec, fiI19778⟩, rfl⟩ := hq
                rw [ec]
                clear ec Ra
                have e19780 : I19778 (ad g 1) 1 = L := hI19778.2
                have b19781 := BT_get hI19778.1 1 1 2 (0) (0) (900) (by decide) 1 (by decide) (by decide)
                rw [e19780] at b19781
                refine WP_aload_n dX3_readTown_78 rfl ?_
                refine WP_iload_n dX3_readTown_79 rfl ?_
                refine WP_aload_n dX3_readTown_80 rfl ?_
                refine WP_callV2 (k := 3) dX3_readTown_81 ⟨⟨⟨by decide, by decide⟩, zX3_faultInParts⟩, lX3_54, by decide, rfl, vX3_faultInParts.1, vX3_faultInParts.2⟩ (lyx_is hy 3 3 rfl) (sx_parts_27_3 hy hz hr hI19778 v19654 (by omega) (by omega)) (Nat.le_of_ble_eq_true rfl) ?_
                intro r I19782 J19783 Ra hq
                obtain ⟨⟨hI19782, ec, ⟨pI19782, sI19782_27_1, sI19782_27_2⟩⟩, v19784, rfl, av19784, bv19784, cv19784⟩ := hq
                show WP _ _ _ _ (.int _ :: _) _ _ _ _
                rw [ec]
                clear ec Ra
                have e19785 : I19782 (ad g 1) 1 = L := hI19782.2
                have b19786 := BT_get hI19782.1 1 1 2 (0) (0) (900) (by decide) 1 (by decide) (by decide)
                rw [e19785] at b19786
                obtain ⟨w19787, ew19787⟩ : ∃ w : Int32, I19782 (ad g 4) 0 = w := ⟨_, rfl⟩
                have bw19787 := BT_get hI19782.1 4 0 5 (0) (0) (1000) (by decide) 0 (by decide) (by decide)
                rw [ew19787] at bw19787
                rw [ew19787] at cv19784
                obtain ⟨w19788, ew19788⟩ : ∃ w : Int32, I19782 (ad g 4) 1 = w := ⟨_, rfl⟩
                have bw19788 := BT_get hI19782.1 4 0 5 (0) (0) (1000) (by decide) 1 (by decide) (by decide)
                rw [ew19788] at bw19788
                rw [ew19788] at cv19784
                obtain ⟨w19789, ew19789⟩ : ∃ w : Int32, I19782 (ad g 4) 2 = w := ⟨_, rfl⟩
                have bw19789 := BT_get hI19782.1 4 0 5 (0) (0) (1000) (by decide) 2 (by decide) (by decide)
                rw [ew19789] at bw19789
                rw [ew19789] at cv19784
                refine WP_istore (ls' := [(0, _), (1, _), (2, _), (3, _), (4, _)]) dX3_readTown_84 (by decide) rfl ?_
                refine WP_iload dX3_readTown_86 rfl ?_
                refine WQ_if_eq 99 dX3_readTown_88 rfl (fun c19789 => ?_) (fun c19789 => ?_)
                · refine WP_aload_n dX3_readTown_99 rfl ?_
                  refine WP_iload_n dX3_readTown_100 rfl ?_
                  refine WP_aload_n dX3_readTown_101 rfl ?_
                  refine WP_getr dX3_readTown_102 fX3_9 rfl (lyx_is hy 3 3 rfl) (rfx hr 3 3 4 (by decide)) ?_
                  refine WP_callV2 (k := 7) dX3_readTown_105 ⟨⟨⟨by decide, by decide⟩, zX7_tell⟩, lX3_58, by decide, rfl, vX7_tell.1, vX7_tell.2⟩ (lyx_is hy 27 7 rfl) (sx_tell_27_3 hy hr hI19782 v19654 (by omega) (by omega) (by rw [ew19787, ew19788, ew19789]; omega)) (Nat.le_of_ble_eq_true rfl) ?_
                  intro r I19791 J19792 Ra hq
                  obtain ⟨⟨hI19791, ec, pI19791⟩, rfl⟩ := hq
                  rw [ec]
                  clear ec Ra
                  have e19793 : I19791 (ad g 1) 1 = L := hI19791.2
                  have b19794 := BT_get hI19791.1 1 1 2 (0) (0) (900) (by decide) 1 (by decide) (by decide)
                  rw [e19793] at b19794
                  refine WP_iinc (ls' := [(0, _), (1, _), (2, _), (3, _), (4, _)]) dX3_readTown_108 rfl (by decide) rfl ?_
                  have hv19795 : (i19639 + Int32.ofInt (1)).toInt = i19639.toInt + (1) := ia_n rfl (by omega) (by omega)
                  generalize i19639 + Int32.ofInt (1) = v19795 at hv19795 ⊢
                  refine WP_goto 18 dX3_readTown_111 rfl ?_
                  exact WP_sub (fc rfl (fc rfl (fc rfl fn))) (ihlp18_19641 v19795 I19791 J19792 hI19791 (by omega) (by omega) (by omega))
                · refine WP_aload_n dX3_readTown_91 rfl ?_
                  refine WP_iload dX3_readTown_92 rfl ?_
                  refine WP_callV1 (k := 3) dX3_readTown_94 ⟨⟨⟨by decide, by decide⟩, zX3_note⟩, lX3_31, by decide, rfl, vX3_note.1, vX3_note.2⟩ (lyx_is hy 3 3 rfl) (sx_notef hy hr hI19782 v19784 ) (Nat.le_of_ble_eq_true rfl) ?_
                  intro r I19796 J19797 Ra hq
                  obtain ⟨⟨hI19796, ec, fiI19796⟩, rfl⟩ := hq
                  rw [ec]
                  clear ec Ra
                  have e19798 : I19796 (ad g 4) 0 = w19787 := by rw [fz_at fiI19796 4 (by decide) (by decide)]; exact ew19787
                  have e19799 : I19796 (ad g 4) 1 = w19788 := by rw [fz_at fiI19796 4 (by decide) (by decide)]; exact ew19788
                  have e19800 : I19796 (ad g 4) 2 = w19789 := by rw [fz_at fiI19796 4 (by decide) (by decide)]; exact ew19789
                  have e19801 : I19796 (ad g 1) 1 = L := hI19796.2
                  have b19802 := BT_get hI19796.1 1 1 2 (0) (0) (900) (by decide) 1 (by decide) (by decide)
                  rw [e19801] at b19802
                  refine WQ_iconst (0) (0) dX3_readTown_97 rfl rfl (fun v19803 hv19803 => ?_)
                  exact WP_zret dX3_readTown_98 rfl (nar_z (by omega)) ⟨⟨hI19796, rfl⟩, _, rfl, by omega, by omega⟩
            · refine WP_aload_n dX3_readTown_59 rfl ?_
              refine WP_iload_n dX3_readTown_60 rfl ?_
              refine WP_callV1 (k := 7) dX3_readTown_61 ⟨⟨⟨by decide, by decide⟩, zX7_faultAhead⟩, lX3_50, by decide, rfl, vX7_faultAhead.1, vX7_faultAhead.2⟩ (lyx_is hy 27 7 rfl) (sx_faultAhead_27_4 hy hr hI19648 v19654 (by omega) (by omega)) (Nat.le_of_ble_eq_true rfl) ?_
              intro r Ia Ja Ra hq
              obtain ⟨⟨ea, eb, ec⟩, v19804, rfl, av19804, bv19804⟩ := hq
              show WP _ _ _ _ (.int _ :: _) _ _ _ _
              rw [ea, eb, ec]
              clear ea eb ec Ia Ja Ra
              refine WP_istore (ls' := [(0, _), (1, _), (2, _), (3, _), (4, _)]) dX3_readTown_64 (by decide) rfl ?_
              refine WP_iload dX3_readTown_66 rfl ?_
              refine WQ_if_ne 86 dX3_readTown_68 rfl (fun c19804 => ?_) (fun c19804 => ?_)
              · refine WP_iload dX3_readTown_86 rfl ?_
                refine WQ_if_eq 99 dX3_readTown_88 rfl (fun c19805 => False.elim (by omega)) (fun c19805 => ?_)
                refine WP_aload_n dX3_readTown_91 rfl ?_
                refine WP_iload dX3_readTown_92 rfl ?_
                refine WP_callV1 (k := 3) dX3_readTown_94 ⟨⟨⟨by decide, by decide⟩, zX3_note⟩, lX3_31, by decide, rfl, vX3_note.1, vX3_note.2⟩ (lyx_is hy 3 3 rfl) (sx_notef hy hr hI19648 v19804 ) (Nat.le_of_ble_eq_true rfl) ?_
                intro r I19807 J19808 Ra hq
                obtain ⟨⟨hI19807, ec, fiI19807⟩, rfl⟩ := hq
                rw [ec]
                clear ec Ra
                have e19809 : I19807 (ad g 1) 2 = v19652 := by rw [fz_at fiI19807 1 (by decide) (by decide)]; exact ev19652
                have e19810 : I19807 (ad g 1) 1 = L := hI19807.2
                have b19811 := BT_get hI19807.1 1 1 2 (0) (0) (900) (by decide) 1 (by decide) (by decide)
                rw [e19810] at b19811
                refine WQ_iconst (0) (0) dX3_readTown_97 rfl rfl (fun v19812 hv19812 => ?_)
                exact WP_zret dX3_readTown_98 rfl (nar_z (by omega)) ⟨⟨hI19807, rfl⟩, _, rfl, by omega, by omega⟩
              · refine WP_aload_n dX3_readTown_71 rfl ?_
                refine WP_getr dX3_readTown_72 fX3_15 rfl (lyx_is hy 3 3 rfl) (rfx hr 3 2 1 (by decide)) ?_
                refine WP_callV0 (k := 5) dX3_readTown_75 ⟨⟨⟨by decide, by decide⟩, zX5_next⟩, lX3_40, by decide, rfl, vX5_next.1, vX5_next.2⟩ (lyx_is hy 1 5 rfl) (sx_nextf hy hr hI19648  ) (Nat.le_of_ble_eq_true rfl) ?_
                intro r I19813 J19814 Ra hq
                obtain ⟨⟨hI19813, ec, fiI19813⟩, rfl⟩ := hq
                rw [ec]
                clear ec Ra
                have e19815 : I19813 (ad g 1) 1 = L := hI19813.2
                have b19816 := BT_get hI19813.1 1 1 2 (0) (0) (900) (by decide) 1 (by decide) (by decide)
                rw [e19815] at b19816
                refine WP_aload_n dX3_readTown_78 rfl ?_
                refine WP_iload_n dX3_readTown_79 rfl ?_
                refine WP_aload_n dX3_readTown_80 rfl ?_
                refine WP_callV2 (k := 3) dX3_readTown_81 ⟨⟨⟨by decide, by decide⟩, zX3_faultInParts⟩, lX3_54, by decide, rfl, vX3_faultInParts.1, vX3_faultInParts.2⟩ (lyx_is hy 3 3 rfl) (sx_parts_27_4 hy hz hr hI19813 v19654 (by omega) (by omega)) (Nat.le_of_ble_eq_true rfl) ?_
                intro r I19817 J19818 Ra hq
                obtain ⟨⟨hI19817, ec, ⟨pI19817, sI19817_27_1, sI19817_27_2⟩⟩, v19819, rfl, av19819, bv19819, cv19819⟩ := hq
                show WP _ _ _ _ (.int _ :: _) _ _ _ _
                rw [ec]
                clear ec Ra
                have e19820 : I19817 (ad g 1) 1 = L := hI19817.2
                have b19821 := BT_get hI19817.1 1 1 2 (0) (0) (900) (by decide) 1 (by decide) (by decide)
                rw [e19820] at b19821
                obtain ⟨w19822, ew19822⟩ : ∃ w : Int32, I19817 (ad g 4) 0 = w := ⟨_, rfl⟩
                have bw19822 := BT_get hI19817.1 4 0 5 (0) (0) (1000) (by decide) 0 (by decide) (by decide)
                rw [ew19822] at bw19822
                rw [ew19822] at cv19819
                obtain ⟨w19823, ew19823⟩ : ∃ w : Int32, I19817 (ad g 4) 1 = w := ⟨_, rfl⟩
                have bw19823 := BT_get hI19817.1 4 0 5 (0) (0) (1000) (by decide) 1 (by decide) (by decide)
                rw [ew19823] at bw19823
                rw [ew19823] at cv19819
                obtain ⟨w19824, ew19824⟩ : ∃ w : Int32, I19817 (ad g 4) 2 = w := ⟨_, rfl⟩
                have bw19824 := BT_get hI19817.1 4 0 5 (0) (0) (1000) (by decide) 2 (by decide) (by decide)
                rw [ew19824] at bw19824
                rw [ew19824] at cv19819
                refine WP_istore (ls' := [(0, _), (1, _), (2, _), (3, _), (4, _)]) dX3_readTown_84 (by decide) rfl ?_
                refine WP_iload dX3_readTown_86 rfl ?_
                refine WQ_if_eq 99 dX3_readTown_88 rfl (fun c19824 => ?_) (fun c19824 => ?_)
                · refine WP_aload_n dX3_readTown_99 rfl ?_
                  refine WP_iload_n dX3_readTown_100 rfl ?_
                  refine WP_aload_n dX3_readTown_101 rfl ?_
                  refine WP_getr dX3_readTown_102 fX3_9 rfl (lyx_is hy 3 3 rfl) (rfx hr 3 3 4 (by decide)) ?_
                  refine WP_callV2 (k := 7) dX3_readTown_105 ⟨⟨⟨by decide, by decide⟩, zX7_tell⟩, lX3_58, by decide, rfl, vX7_tell.1, vX7_tell.2⟩ (lyx_is hy 27 7 rfl) (sx_tell_27_4 hy hr hI19817 v19654 (by omega) (by omega) (by rw [ew19822, ew19823, ew19824]; omega)) (Nat.le_of_ble_eq_true rfl) ?_
                  intro r I19826 J19827 Ra hq
                  obtain ⟨⟨hI19826, ec, pI19826⟩, rfl⟩ := hq
                  rw [ec]
                  clear ec Ra
                  have e19828 : I19826 (ad g 1) 1 = L := hI19826.2
                  have b19829 := BT_get hI19826.1 1 1 2 (0) (0) (900) (by decide) 1 (by decide) (by decide)
                  rw [e19828] at b19829
                  refine WP_iinc (ls' := [(0, _), (1, _), (2, _), (3, _), (4, _)]) dX3_readTown_108 rfl (by decide) rfl ?_
                  have hv19830 : (i19639 + Int32.ofInt (1)).toInt = i19639.toInt + (1) := ia_n rfl (by omega) (by omega)
                  generalize i19639 + Int32.ofInt (1) = v19830 at hv19830 ⊢
                  refine WP_goto 18 dX3_readTown_111 rfl ?_
                  exact WP_sub (fc rfl (fc rfl (fc rfl fn))) (ihlp18_19641 v19830 I19826 J19827 hI19826 (by omega) (by omega) (by omega))
                · refine WP_aload_n dX3_readTown_91 rfl ?_
                  refine WP_iload dX3_readTown_92 rfl ?_
                  refine WP_callV1 (k := 3) dX3_readTown_94 ⟨⟨⟨by decide, by decide⟩, zX3_note⟩, lX3_31, by decide, rfl, vX3_note.1, vX3_note.2⟩ (lyx_is hy 3 3 rfl) (sx_notef hy hr hI19817 v19819 ) (Nat.le_of_ble_eq_true rfl) ?_
                  intro r I19831 J19832 Ra hq
                  obtain ⟨⟨hI19831, ec, fiI19831⟩, rfl⟩ := hq
                  rw [ec]
                  clear ec Ra
                  have e19833 : I19831 (ad g 4) 0 = w19822 := by rw [fz_at fiI19831 4 (by decide) (by decide)]; exact ew19822
                  have e19834 : I19831 (ad g 4) 1 = w19823 := by rw [fz_at fiI19831 4 (by decide) (by decide)]; exact ew19823
                  have e19835 : I19831 (ad g 4) 2 = w19824 := by rw [fz_at fiI19831 4 (by decide) (by decide)]; exact ew19824
                  have e19836 : I19831 (ad g 1) 1 = L := hI19831.2
                  have b19837 := BT_get hI19831.1 1 1 2 (0) (0) (900) (by decide) 1 (by decide) (by decide)
                  rw [e19836] at b19837
                  refine WQ_iconst (0) (0) dX3_readTown_97 rfl rfl (fun v19838 hv19838 => ?_)
                  exact WP_zret dX3_readTown_98 rfl (nar_z (by omega)) ⟨⟨hI19831, rfl⟩, _, rfl, by omega, by omega⟩
            · refine WP_aload_n dX3_readTown_59 rfl ?_
              refine WP_iload_n dX3_readTown_60 rfl ?_
              refine WP_callV1 (k := 7) dX3_readTown_61 ⟨⟨⟨by decide, by decide⟩, zX7_faultAhead⟩, lX3_50, by decide, rfl, vX7_faultAhead.1, vX7_faultAhead.2⟩ (lyx_is hy 27 7 rfl) (sx_faultAhead_27_5 hy hr hI19648 v19654 (by omega) (by omega)) (Nat.le_of_ble_eq_true rfl) ?_
              intro r Ia Ja Ra hq
              obtain ⟨⟨ea, eb, ec⟩, v19839, rfl, av19839, bv19839⟩ := hq
              show WP _ _ _ _ (.int _ :: _) _ _ _ _
              rw [ea, eb, ec]
              clear ea eb ec Ia Ja Ra
              refine WP_istore (ls' := [(0, _), (1, _), (2, _), (3, _), (4, _)]) dX3_readTown_64 (by decide) rfl ?_
              refine WP_iload dX3_readTown_66 rfl ?_
              refine WQ_if_ne 86 dX3_readTown_68 rfl (fun c19839 => ?_) (fun c19839 => ?_)
              · refine WP_iload dX3_readTown_86 rfl ?_
                refine WQ_if_eq 99 dX3_readTown_88 rfl (fun c19840 => False.elim (by omega)) (fun c19840 => ?_)
                refine WP_aload_n dX3_readTown_91 rfl ?_
                refine WP_iload dX3_readTown_92 rfl ?_
                refine WP_callV1 (k := 3) dX3_readTown_94 ⟨⟨⟨by decide, by decide⟩, zX3_note⟩, lX3_31, by decide, rfl, vX3_note.1, vX3_note.2⟩ (lyx_is hy 3 3 rfl) (sx_notef hy hr hI19648 v19839 ) (Nat.le_of_ble_eq_true rfl) ?_
                intro r I19842 J19843 Ra hq
                obtain ⟨⟨hI19842, ec, fiI19842⟩, rfl⟩ := hq
                rw [ec]
                clear ec Ra
                have e19844 : I19842 (ad g 1) 2 = v19652 := by rw [fz_at fiI19842 1 (by decide) (by decide)]; exact ev19652
                have e19845 : I19842 (ad g 1) 1 = L := hI19842.2
                have b19846 := BT_get hI19842.1 1 1 2 (0) (0) (900) (by decide) 1 (by decide) (by decide)
                rw [e19845] at b19846
                refine WQ_iconst (0) (0) dX3_readTown_97 rfl rfl (fun v19847 hv19847 => ?_)
                exact WP_zret dX3_readTown_98 rfl (nar_z (by omega)) ⟨⟨hI19842, rfl⟩, _, rfl, by omega, by omega⟩
              · refine WP_aload_n dX3_readTown_71 rfl ?_
                refine WP_getr dX3_readTown_72 fX3_15 rfl (lyx_is hy 3 3 rfl) (rfx hr 3 2 1 (by decide)) ?_
                refine WP_callV0 (k := 5) dX3_readTown_75 ⟨⟨⟨by decide, by decide⟩, zX5_next⟩, lX3_40, by decide, rfl, vX5_next.1, vX5_next.2⟩ (lyx_is hy 1 5 rfl) (sx_nextf hy hr hI19648  ) (Nat.le_of_ble_eq_true rfl) ?_
                intro r I19848 J19849 Ra hq
                obtain ⟨⟨hI19848, ec, fiI19848⟩, rfl⟩ := hq
                rw [ec]
                clear ec Ra
                have e19850 : I19848 (ad g 1) 1 = L := hI19848.2
                have b19851 := BT_get hI19848.1 1 1 2 (0) (0) (900) (by decide) 1 (by decide) (by decide)
                rw [e19850] at b19851
                refine WP_aload_n dX3_readTown_78 rfl ?_
                refine WP_iload_n dX3_readTown_79 rfl ?_
                refine WP_aload_n dX3_readTown_80 rfl ?_
                refine WP_callV2 (k := 3) dX3_readTown_81 ⟨⟨⟨by decide, by decide⟩, zX3_faultInParts⟩, lX3_54, by decide, rfl, vX3_faultInParts.1, vX3_faultInParts.2⟩ (lyx_is hy 3 3 rfl) (sx_parts_27_5 hy hz hr hI19848 v19654 (by omega) (by omega)) (Nat.le_of_ble_eq_true rfl) ?_
                intro r I19852 J19853 Ra hq
                obtain ⟨⟨hI19852, ec, ⟨pI19852, sI19852_27_1, sI19852_27_2⟩⟩, v19854, rfl, av19854, bv19854, cv19854⟩ := hq
                show WP _ _ _ _ (.int _ :: _) _ _ _ _
                rw [ec]
                clear ec Ra
                have e19855 : I19852 (ad g 1) 1 = L := hI19852.2
                have b19856 := BT_get hI19852.1 1 1 2 (0) (0) (900) (by decide) 1 (by decide) (by decide)
                rw [e19855] at b19856
                obtain ⟨w19857, ew19857⟩ : ∃ w : Int32, I19852 (ad g 4) 0 = w := ⟨_, rfl⟩
                have bw19857 := BT_get hI19852.1 4 0 5 (0) (0) (1000) (by decide) 0 (by decide) (by decide)
                rw [ew19857] at bw19857
                rw [ew19857] at cv19854
                obtain ⟨w19858, ew19858⟩ : ∃ w : Int32, I19852 (ad g 4) 1 = w := ⟨_, rfl⟩
                have bw19858 := BT_get hI19852.1 4 0 5 (0) (0) (1000) (by decide) 1 (by decide) (by decide)
                rw [ew19858] at bw19858
                rw [ew19858] at cv19854
                obtain ⟨w19859, ew19859⟩ : ∃ w : Int32, I19852 (ad g 4) 2 = w := ⟨_, rfl⟩
                have bw19859 := BT_get hI19852.1 4 0 5 (0) (0) (1000) (by decide) 2 (by decide) (by decide)
                rw [ew19859] at bw19859
                rw [ew19859] at cv19854
                refine WP_istore (ls' := [(0, _), (1, _), (2, _), (3, _), (4, _)]) dX3_readTown_84 (by decide) rfl ?_
                refine WP_iload dX3_readTown_86 rfl ?_
                refine WQ_if_eq 99 dX3_readTown_88 rfl (fun c19859 => ?_) (fun c19859 => ?_)
                · refine WP_aload_n dX3_readTown_99 rfl ?_
                  refine WP_iload_n dX3_readTown_100 rfl ?_
                  refine WP_aload_n dX3_readTown_101 rfl ?_
                  refine WP_getr dX3_readTown_102 fX3_9 rfl (lyx_is hy 3 3 rfl) (rfx hr 3 3 4 (by decide)) ?_
                  refine WP_callV2 (k := 7) dX3_readTown_105 ⟨⟨⟨by decide, by decide⟩, zX7_tell⟩, lX3_58, by decide, rfl, vX7_tell.1, vX7_tell.2⟩ (lyx_is hy 27 7 rfl) (sx_tell_27_5 hy hr hI19852 v19654 (by omega) (by omega) (by rw [ew19857, ew19858, ew19859]; omega)) (Nat.le_of_ble_eq_true rfl) ?_
                  intro r I19861 J19862 Ra hq
                  obtain ⟨⟨hI19861, ec, pI19861⟩, rfl⟩ := hq
                  rw [ec]
                  clear ec Ra
                  have e19863 : I19861 (ad g 1) 1 = L := hI19861.2
                  have b19864 := BT_get hI19861.1 1 1 2 (0) (0) (900) (by decide) 1 (by decide) (by decide)
                  rw [e19863] at b19864
                  refine WP_iinc (ls' := [(0, _), (1, _), (2, _), (3, _), (4, _)]) dX3_readTown_108 rfl (by decide) rfl ?_
                  have hv19865 : (i19639 + Int32.ofInt (1)).toInt = i19639.toInt + (1) := ia_n rfl (by omega) (by omega)
                  generalize i19639 + Int32.ofInt (1) = v19865 at hv19865 ⊢
                  refine WP_goto 18 dX3_readTown_111 rfl ?_
                  exact WP_sub (fc rfl (fc rfl (fc rfl fn))) (ihlp18_19641 v19865 I19861 J19862 hI19861 (by omega) (by omega) (by omega))
                · refine WP_aload_n dX3_readTown_91 rfl ?_
                  refine WP_iload dX3_readTown_92 rfl ?_
                  refine WP_callV1 (k := 3) dX3_readTown_94 ⟨⟨⟨by decide, by decide⟩, zX3_note⟩, lX3_31, by decide, rfl, vX3_note.1, vX3_note.2⟩ (lyx_is hy 3 3 rfl) (sx_notef hy hr hI19852 v19854 ) (Nat.le_of_ble_eq_true rfl) ?_
                  intro r I19866 J19867 Ra hq
                  obtain ⟨⟨hI19866, ec, fiI19866⟩, rfl⟩ := hq
                  rw [ec]
                  clear ec Ra
                  have e19868 : I19866 (ad g 4) 0 = w19857 := by rw [fz_at fiI19866 4 (by decide) (by decide)]; exact ew19857
                  have e19869 : I19866 (ad g 4) 1 = w19858 := by rw [fz_at fiI19866 4 (by decide) (by decide)]; exact ew19858
                  have e19870 : I19866 (ad g 4) 2 = w19859 := by rw [fz_at fiI19866 4 (by decide) (by decide)]; exact ew19859
                  have e19871 : I19866 (ad g 1) 1 = L := hI19866.2
                  have b19872 := BT_get hI19866.1 1 1 2 (0) (0) (900) (by decide) 1 (by decide) (by decide)
                  rw [e19871] at b19872
                  refine WQ_iconst (0) (0) dX3_readTown_97 rfl rfl (fun v19873 hv19873 => ?_)
                  exact WP_zret dX3_readTown_98 rfl (nar_z (by omega)) ⟨⟨hI19866, rfl⟩, _, rfl, by omega, by omega⟩
            · refine WP_aload_n dX3_readTown_59 rfl ?_
              refine WP_iload_n dX3_readTown_60 rfl ?_
              refine WP_callV1 (k := 7) dX3_readTown_61 ⟨⟨⟨by decide, by decide⟩, zX7_faultAhead⟩, lX3_50, by decide, rfl, vX7_faultAhead.1, vX7_faultAhead.2⟩ (lyx_is hy 27 7 rfl) (sx_faultAhead_27_6 hy hr hI19648 v19654 (by omega) (by omega)) (Nat.le_of_ble_eq_true rfl) ?_
              intro r Ia Ja Ra hq
              obtain ⟨⟨ea, eb, ec⟩, v19874, rfl, av19874, bv19874⟩ := hq
              show WP _ _ _ _ (.int _ :: _) _ _ _ _
              rw [ea, eb, ec]
              clear ea eb ec Ia Ja Ra
              refine WP_istore (ls' := [(0, _), (1, _), (2, _), (3, _), (4, _)]) dX3_readTown_64 (by decide) rfl ?_
              refine WP_iload dX3_readTown_66 rfl ?_
              refine WQ_if_ne 86 dX3_readTown_68 rfl (fun c19874 => ?_) (fun c19874 => ?_)
              · refine WP_iload dX3_readTown_86 rfl ?_
                refine WQ_if_eq 99 dX3_readTown_88 rfl (fun c19875 => False.elim (by omega)) (fun c19875 => ?_)
                refine WP_aload_n dX3_readTown_91 rfl ?_
                refine WP_iload dX3_readTown_92 rfl ?_
                refine WP_callV1 (k := 3) dX3_readTown_94 ⟨⟨⟨by decide, by decide⟩, zX3_note⟩, lX3_31, by decide, rfl, vX3_note.1, vX3_note.2⟩ (lyx_is hy 3 3 rfl) (sx_notef hy hr hI19648 v19874 ) (Nat.le_of_ble_eq_true rfl) ?_
                intro r I19877 J19878 Ra hq
                obtain ⟨⟨hI19877, ec, fiI19877⟩, rfl⟩ := hq
                rw [ec]
                clear ec Ra
                have e19879 : I19877 (ad g 1) 2 = v19652 := by rw [fz_at fiI19877 1 (by decide) (by decide)]; exact ev19652
                have e19880 : I19877 (ad g 1) 1 = L := hI19877.2
                have b19881 := BT_get hI19877.1 1 1 2 (0) (0) (900) (by decide) 1 (by decide) (by decide)
                rw [e19880] at b19881
                refine WQ_iconst (0) (0) dX3_readTown_97 rfl rfl (fun v19882 hv19882 => ?_)
                exact WP_zret dX3_readTown_98 rfl (nar_z (by omega)) ⟨⟨hI19877, rfl⟩, _, rfl, by omega, by omega⟩
              · refine WP_aload_n dX3_readTown_71 rfl ?_
                refine WP_getr dX3_readTown_72 fX3_15 rfl (lyx_is hy 3 3 rfl) (rfx hr 3 2 1 (by decide)) ?_
                refine WP_callV0 (k := 5) dX3_readTown_75 ⟨⟨⟨by decide, by decide⟩, zX5_next⟩, lX3_40, by decide, rfl, vX5_next.1, vX5_next.2⟩ (lyx_is hy 1 5 rfl) (sx_nextf hy hr hI19648  ) (Nat.le_of_ble_eq_true rfl) ?_
                intro r I19883 J19884 Ra hq
                obtain ⟨⟨hI19883, ec, fiI19883⟩, rfl⟩ := hq
                rw [ec]
                clear ec Ra
                have e19885 : I19883 (ad g 1) 1 = L := hI19883.2
                have b19886 := BT_get hI19883.1 1 1 2 (0) (0) (900) (by decide) 1 (by decide) (by decide)
                rw [e19885] at b19886
                refine WP_aload_n dX3_readTown_78 rfl ?_
                refine WP_iload_n dX3_readTown_79 rfl ?_
                refine WP_aload_n dX3_readTown_80 rfl ?_
                refine WP_callV2 (k := 3) dX3_readTown_81 ⟨⟨⟨by decide, by decide⟩, zX3_faultInParts⟩, lX3_54, by decide, rfl, vX3_faultInParts.1, vX3_faultInParts.2⟩ (lyx_is hy 3 3 rfl) (sx_parts_27_6 hy hz hr hI19883 v19654 (by omega) (by omega)) (Nat.le_of_ble_eq_true rfl) ?_
                intro r I19887 J19888 Ra hq
                obtain ⟨⟨hI19887, ec, ⟨pI19887, sI19887_27_1, sI19887_27_2⟩⟩, v19889, rfl, av19889, bv19889, cv19889⟩ := hq
                show WP _ _ _ _ (.int _ :: _) _ _ _ _
                rw [ec]
                clear ec Ra
                have e19890 : I19887 (ad g 1) 1 = L := hI19887.2
                have b19891 := BT_get hI19887.1 1 1 2 (0) (0) (900) (by decide) 1 (by decide) (by decide)
                rw [e19890] at b19891
                obtain ⟨w19892, ew19892⟩ : ∃ w : Int32, I19887 (ad g 4) 0 = w := ⟨_, rfl⟩
                have bw19892 := BT_get hI19887.1 4 0 5 (0) (0) (1000) (by decide) 0 (by decide) (by decide)
                rw [ew19892] at bw19892
                rw [ew19892] at cv19889
                obtain ⟨w19893, ew19893⟩ : ∃ w : Int32, I19887 (ad g 4) 1 = w := ⟨_, rfl⟩
                have bw19893 := BT_get hI19887.1 4 0 5 (0) (0) (1000) (by decide) 1 (by decide) (by decide)
                rw [ew19893] at bw19893
                rw [ew19893] at cv19889
                obtain ⟨w19894, ew19894⟩ : ∃ w : Int32, I19887 (ad g 4) 2 = w := ⟨_, rfl⟩
                have bw19894 := BT_get hI19887.1 4 0 5 (0) (0) (1000) (by decide) 2 (by decide) (by decide)
                rw [ew19894] at bw19894
                rw [ew19894] at cv19889
                obtain ⟨w19895, ew19895⟩ : ∃ w : Int32, I19887 (ad g 4) 3 = w := ⟨_, rfl⟩
                have bw19895 := BT_get hI19887.1 4 0 5 (0) (0) (1000) (by decide) 3 (by decide) (by decide)
                rw [ew19895] at bw19895
                rw [ew19895] at cv19889
                obtain ⟨w19896, ew19896⟩ : ∃ w : Int32, I19887 (ad g 4) 4 = w := ⟨_, rfl⟩
                have bw19896 := BT_get hI19887.1 4 0 5 (0) (0) (1000) (by decide) 4 (by decide) (by decide)
                rw [ew19896] at bw19896
                rw [ew19896] at cv19889
                refine WP_istore (ls' := [(0, _), (1, _), (2, _), (3, _), (4, _)]) dX3_readTown_84 (by decide) rfl ?_
                refine WP_iload dX3_readTown_86 rfl ?_
                refine WQ_if_eq 99 dX3_readTown_88 rfl (fun c19896 => ?_) (fun c19896 => ?_)
                · refine WP_aload_n dX3_readTown_99 rfl ?_
                  refine WP_iload_n dX3_readTown_100 rfl ?_
                  refine WP_aload_n dX3_readTown_101 rfl ?_
                  refine WP_getr dX3_readTown_102 fX3_9 rfl (lyx_is hy 3 3 rfl) (rfx hr 3 3 4 (by decide)) ?_
                  refine WP_callV2 (k := 7) dX3_readTown_105 ⟨⟨⟨by decide, by decide⟩, zX7_tell⟩, lX3_58, by decide, rfl, vX7_tell.1, vX7_tell.2⟩ (lyx_is hy 27 7 rfl) (sx_tell_27_6 hy hr hI19887 v19654 (by omega) (by omega) (by rw [ew19892, ew19893, ew19894, ew19895, ew19896]; omega)) (Nat.le_of_ble_eq_true rfl) ?_
                  intro r I19898 J19899 Ra hq
                  obtain ⟨⟨hI19898, ec, pI19898⟩, rfl⟩ := hq
                  rw [ec]
                  clear ec Ra
                  have e19900 : I19898 (ad g 1) 1 = L := hI19898.2
                  have b19901 := BT_get hI19898.1 1 1 2 (0) (0) (900) (by decide) 1 (by decide) (by decide)
                  rw [e19900] at b19901
                  refine WP_iinc (ls' := [(0, _), (1, _), (2, _), (3, _), (4, _)]) dX3_readTown_108 rfl (by decide) rfl ?_
                  have hv19902 : (i19639 + Int32.ofInt (1)).toInt = i19639.toInt + (1) := ia_n rfl (by omega) (by omega)
                  generalize i19639 + Int32.ofInt (1) = v19902 at hv19902 ⊢
                  refine WP_goto 18 dX3_readTown_111 rfl ?_
                  exact WP_sub (fc rfl (fc rfl (fc rfl fn))) (ihlp18_19641 v19902 I19898 J19899 hI19898 (by omega) (by omega) (by omega))
                · refine WP_aload_n dX3_readTown_91 rfl ?_
                  refine WP_iload dX3_readTown_92 rfl ?_
                  refine WP_callV1 (k := 3) dX3_readTown_94 ⟨⟨⟨by decide, by decide⟩, zX3_note⟩, lX3_31, by decide, rfl, vX3_note.1, vX3_note.2⟩ (lyx_is hy 3 3 rfl) (sx_notef hy hr hI19887 v19889 ) (Nat.le_of_ble_eq_true rfl) ?_
                  intro r I19903 J19904 Ra hq
                  obtain ⟨⟨hI19903, ec, fiI19903⟩, rfl⟩ := hq
                  rw [ec]
                  clear ec Ra
                  have e19905 : I19903 (ad g 4) 0 = w19892 := by rw [fz_at fiI19903 4 (by decide) (by decide)]; exact ew19892
                  have e19906 : I19903 (ad g 4) 1 = w19893 := by rw [fz_at fiI19903 4 (by decide) (by decide)]; exact ew19893
                  have e19907 : I19903 (ad g 4) 2 = w19894 := by rw [fz_at fiI19903 4 (by decide) (by decide)]; exact ew19894
                  have e19908 : I19903 (ad g 4) 3 = w19895 := by rw [fz_at fiI19903 4 (by decide) (by decide)]; exact ew19895
                  have e19909 : I19903 (ad g 4) 4 = w19896 := by rw [fz_at fiI19903 4 (by decide) (by decide)]; exact ew19896
                  have e19910 : I19903 (ad g 1) 1 = L := hI19903.2
                  have b19911 := BT_get hI19903.1 1 1 2 (0) (0) (900) (by decide) 1 (by decide) (by decide)
                  rw [e19910] at b19911
                  refine WQ_iconst (0) (0) dX3_readTown_97 rfl rfl (fun v19912 hv19912 => ?_)
                  exact WP_zret dX3_readTown_98 rfl (nar_z (by omega)) ⟨⟨hI19903, rfl⟩, _, rfl, by omega, by omega⟩
            · refine WP_aload_n dX3_readTown_59 rfl ?_
              refine WP_iload_n dX3_readTown_60 rfl ?_
              refine WP_callV1 (k := 7) dX3_readTown_61 ⟨⟨⟨by decide, by decide⟩, zX7_faultAhead⟩, lX3_50, by decide, rfl, vX7_faultAhead.1, vX7_faultAhead.2⟩ (lyx_is hy 27 7 rfl) (sx_faultAhead_27_7 hy hr hI19648 v19654 (by omega) (by omega)) (Nat.le_of_ble_eq_true rfl) ?_
              intro r Ia Ja Ra hq
              obtain ⟨⟨ea, eb, ec⟩, v19913, rfl, av19913, bv19913⟩ := hq
              show WP _ _ _ _ (.int _ :: _) _ _ _ _
              rw [ea, eb, ec]
              clear ea eb ec Ia Ja Ra
              refine WP_istore (ls' := [(0, _), (1, _), (2, _), (3, _), (4, _)]) dX3_readTown_64 (by decide) rfl ?_
              refine WP_iload dX3_readTown_66 rfl ?_
              refine WQ_if_ne 86 dX3_readTown_68 rfl (fun c19913 => ?_) (fun c19913 => ?_)
              · refine WP_iload dX3_readTown_86 rfl ?_
                refine WQ_if_eq 99 dX3_readTown_88 rfl (fun c19914 => False.elim (by omega)) (fun c19914 => ?_)
                refine WP_aload_n dX3_readTown_91 rfl ?_
                refine WP_iload dX3_readTown_92 rfl ?_
                refine WP_callV1 (k := 3) dX3_readTown_94 ⟨⟨⟨by decide, by decide⟩, zX3_note⟩, lX3_31, by decide, rfl, vX3_note.1, vX3_note.2⟩ (lyx_is hy 3 3 rfl) (sx_notef hy hr hI19648 v19913 ) (Nat.le_of_ble_eq_true rfl) ?_
                intro r I19916 J19917 Ra hq
                obtain ⟨⟨hI19916, ec, fiI19916⟩, rfl⟩ := hq
                rw [ec]
                clear ec Ra
                have e19918 : I19916 (ad g 1) 2 = v19652 := by rw [fz_at fiI19916 1 (by decide) (by decide)]; exact ev19652
                have e19919 : I19916 (ad g 1) 1 = L := hI19916.2
                have b19920 := BT_get hI19916.1 1 1 2 (0) (0) (900) (by decide) 1 (by decide) (by decide)
                rw [e19919] at b19920
                refine WQ_iconst (0) (0) dX3_readTown_97 rfl rfl (fun v19921 hv19921 => ?_)
                exact WP_zret dX3_readTown_98 rfl (nar_z (by omega)) ⟨⟨hI19916, rfl⟩, _, rfl, by omega, by omega⟩
              · refine WP_aload_n dX3_readTown_71 rfl ?_
                refine WP_getr dX3_readTown_72 fX3_15 rfl (lyx_is hy 3 3 rfl) (rfx hr 3 2 1 (by decide)) ?_
                refine WP_callV0 (k := 5) dX3_readTown_75 ⟨⟨⟨by decide, by decide⟩, zX5_next⟩, lX3_40, by decide, rfl, vX5_next.1, vX5_next.2⟩ (lyx_is hy 1 5 rfl) (sx_nextf hy hr hI19648  ) (Nat.le_of_ble_eq_true rfl) ?_
                intro r I19922 J19923 Ra hq
                obtain ⟨⟨hI19922, ec, fiI19922⟩, rfl⟩ := hq
                rw [ec]
                clear ec Ra
                have e19924 : I19922 (ad g 1) 1 = L := hI19922.2
                have b19925 := BT_get hI19922.1 1 1 2 (0) (0) (900) (by decide) 1 (by decide) (by decide)
                rw [e19924] at b19925
                refine WP_aload_n dX3_readTown_78 rfl ?_
                refine WP_iload_n dX3_readTown_79 rfl ?_
                refine WP_aload_n dX3_readTown_80 rfl ?_
                refine WP_callV2 (k := 3) dX3_readTown_81 ⟨⟨⟨by decide, by decide⟩, zX3_faultInParts⟩, lX3_54, by decide, rfl, vX3_faultInParts.1, vX3_faultInParts.2⟩ (lyx_is hy 3 3 rfl) (sx_parts_27_7 hy hz hr hI19922 v19654 (by omega) (by omega)) (Nat.le_of_ble_eq_true rfl) ?_
                intro r I19926 J19927 Ra hq
                obtain ⟨⟨hI19926, ec, ⟨pI19926, sI19926_27_1, sI19926_27_2⟩⟩, v19928, rfl, av19928, bv19928, cv19928⟩ := hq
                show WP _ _ _ _ (.int _ :: _) _ _ _ _
                rw [ec]
                clear ec Ra
                have e19929 : I19926 (ad g 1) 1 = L := hI19926.2
                have b19930 := BT_get hI19926.1 1 1 2 (0) (0) (900) (by decide) 1 (by decide) (by decide)
                rw [e19929] at b19930
                obtain ⟨w19931, ew19931⟩ : ∃ w : Int32, I19926 (ad g 4) 0 = w := ⟨_, rfl⟩
                have bw19931 := BT_get hI19926.1 4 0 5 (0) (0) (1000) (by decide) 0 (by decide) (by decide)
                rw [ew19931] at bw19931
                rw [ew19931] at cv19928
                refine WP_istore (ls' := [(0, _), (1, _), (2, _), (3, _), (4, _)]) dX3_readTown_84 (by decide) rfl ?_
                refine WP_iload dX3_readTown_86 rfl ?_
                refine WQ_if_eq 99 dX3_readTown_88 rfl (fun c19931 => ?_) (fun c19931 => ?_)
                · refine WP_aload_n dX3_readTown_99 rfl ?_
                  refine WP_iload_n dX3_readTown_100 rfl ?_
                  refine WP_aload_n dX3_readTown_101 rfl ?_
                  refine WP_getr dX3_readTown_102 fX3_9 rfl (lyx_is hy 3 3 rfl) (rfx hr 3 3 4 (by decide)) ?_
                  refine WP_callV2 (k := 7) dX3_readTown_105 ⟨⟨⟨by decide, by decide⟩, zX7_tell⟩, lX3_58, by decide, rfl, vX7_tell.1, vX7_tell.2⟩ (lyx_is hy 27 7 rfl) (sx_tell_27_7 hy hr hI19926 v19654 (by omega) (by omega) (by rw [ew19931]; omega)) (Nat.le_of_ble_eq_true rfl) ?_
                  intro r I19933 J19934 Ra hq
                  obtain ⟨⟨hI19933, ec, pI19933⟩, rfl⟩ := hq
                  rw [ec]
                  clear ec Ra
                  have e19935 : I19933 (ad g 1) 1 = L := hI19933.2
                  have b19936 := BT_get hI19933.1 1 1 2 (0) (0) (900) (by decide) 1 (by decide) (by decide)
                  rw [e19935] at b19936
                  refine WP_iinc (ls' := [(0, _), (1, _), (2, _), (3, _), (4, _)]) dX3_readTown_108 rfl (by decide) rfl ?_
                  have hv19937 : (i19639 + Int32.ofInt (1)).toInt = i19639.toInt + (1) := ia_n rfl (by omega) (by omega)
                  generalize i19639 + Int32.ofInt (1) = v19937 at hv19937 ⊢
                  refine WP_goto 18 dX3_readTown_111 rfl ?_
                  exact WP_sub (fc rfl (fc rfl (fc rfl fn))) (ihlp18_19641 v19937 I19933 J19934 hI19933 (by omega) (by omega) (by omega))
                · refine WP_aload_n dX3_readTown_91 rfl ?_
                  refine WP_iload dX3_readTown_92 rfl ?_
                  refine WP_callV1 (k := 3) dX3_readTown_94 ⟨⟨⟨by decide, by decide⟩, zX3_note⟩, lX3_31, by decide, rfl, vX3_note.1, vX3_note.2⟩ (lyx_is hy 3 3 rfl) (sx_notef hy hr hI19926 v19928 ) (Nat.le_of_ble_eq_true rfl) ?_
                  intro r I19938 J19939 Ra hq
                  obtain ⟨⟨hI19938, ec, fiI19938⟩, rfl⟩ := hq
                  rw [ec]
                  clear ec Ra
                  have e19940 : I19938 (ad g 4) 0 = w19931 := by rw [fz_at fiI19938 4 (by decide) (by decide)]; exact ew19931
                  have e19941 : I19938 (ad g 1) 1 = L := hI19938.2
                  have b19942 := BT_get hI19938.1 1 1 2 (0) (0) (900) (by decide) 1 (by decide) (by decide)
                  rw [e19941] at b19942
                  refine WQ_iconst (0) (0) dX3_readTown_97 rfl rfl (fun v19943 hv19943 => ?_)
                  exact WP_zret dX3_readTown_98 rfl (nar_z (by omega)) ⟨⟨hI19938, rfl⟩, _, rfl, by omega, by omega⟩
            · refine WP_aload_n dX3_readTown_59 rfl ?_
              refine WP_iload_n dX3_readTown_60 rfl ?_
              refine WP_callV1 (k := 7) dX3_readTown_61 ⟨⟨⟨by decide, by decide⟩, zX7_faultAhead⟩, lX3_50, by decide, rfl, vX7_faultAhead.1, vX7_faultAhead.2⟩ (lyx_is hy 27 7 rfl) (sx_faultAhead_27_8 hy hr hI19648 v19654 (by omega) (by omega)) (Nat.le_of_ble_eq_true rfl) ?_
              intro r Ia Ja Ra hq
              obtain ⟨⟨ea, eb, ec⟩, v19944, rfl, av19944, bv19944⟩ := hq
              show WP _ _ _ _ (.int _ :: _) _ _ _ _
              rw [ea, eb, ec]
              clear ea eb ec Ia Ja Ra
              refine WP_istore (ls' := [(0, _), (1, _), (2, _), (3, _), (4, _)]) dX3_readTown_64 (by decide) rfl ?_
              refine WP_iload dX3_readTown_66 rfl ?_
              refine WQ_if_ne 86 dX3_readTown_68 rfl (fun c19944 => ?_) (fun c19944 => ?_)
              · refine WP_iload dX3_readTown_86 rfl ?_
                refine WQ_if_eq 99 dX3_readTown_88 rfl (fun c19945 => False.elim (by omega)) (fun c19945 => ?_)
                refine WP_aload_n dX3_readTown_91 rfl ?_
                refine WP_iload dX3_readTown_92 rfl ?_
                refine WP_callV1 (k := 3) dX3_readTown_94 ⟨⟨⟨by decide, by decide⟩, zX3_note⟩, lX3_31, by decide, rfl, vX3_note.1, vX3_note.2⟩ (lyx_is hy 3 3 rfl) (sx_notef hy hr hI19648 v19944 ) (Nat.le_of_ble_eq_true rfl) ?_
                intro r I19947 J19948 Ra hq
                obtain ⟨⟨hI19947, ec, fiI19947⟩, rfl⟩ := hq
                rw [ec]
                clear ec Ra
                have e19949 : I19947 (ad g 1) 2 = v19652 := by rw [fz_at fiI19947 1 (by decide) (by decide)]; exact ev19652
                have e19950 : I19947 (ad g 1) 1 = L := hI19947.2
                have b19951 := BT_get hI19947.1 1 1 2 (0) (0) (900) (by decide) 1 (by decide) (by decide)
                rw [e19950] at b19951
                refine WQ_iconst (0) (0) dX3_readTown_97 rfl rfl (fun v19952 hv19952 => ?_)
                exact WP_zret dX3_readTown_98 rfl (nar_z (by omega)) ⟨⟨hI19947, rfl⟩, _, rfl, by omega, by omega⟩
              · refine WP_aload_n dX3_readTown_71 rfl ?_
                refine WP_getr dX3_readTown_72 fX3_15 rfl (lyx_is hy 3 3 rfl) (rfx hr 3 2 1 (by decide)) ?_
                refine WP_callV0 (k := 5) dX3_readTown_75 ⟨⟨⟨by decide, by decide⟩, zX5_next⟩, lX3_40, by decide, rfl, vX5_next.1, vX5_next.2⟩ (lyx_is hy 1 5 rfl) (sx_nextf hy hr hI19648  ) (Nat.le_of_ble_eq_true rfl) ?_
                intro r I19953 J19954 Ra hq
                obtain ⟨⟨hI19953, ec, fiI19953⟩, rfl⟩ := hq
                rw [ec]
                clear ec Ra
                have e19955 : I19953 (ad g 1) 1 = L := hI19953.2
                have b19956 := BT_get hI19953.1 1 1 2 (0) (0) (900) (by decide) 1 (by decide) (by decide)
                rw [e19955] at b19956
                refine WP_aload_n dX3_readTown_78 rfl ?_
                refine WP_iload_n dX3_readTown_79 rfl ?_
                refine WP_aload_n dX3_readTown_80 rfl ?_
                refine WP_callV2 (k := 3) dX3_readTown_81 ⟨⟨⟨by decide, by decide⟩, zX3_faultInParts⟩, lX3_54, by decide, rfl, vX3_faultInParts.1, vX3_faultInParts.2⟩ (lyx_is hy 3 3 rfl) (sx_parts_27_8 hy hz hr hI19953 v19654 (by omega) (by omega)) (Nat.le_of_ble_eq_true rfl) ?_
                intro r I19957 J19958 Ra hq
                obtain ⟨⟨hI19957, ec, ⟨pI19957, sI19957_27_1, sI19957_27_2⟩⟩, v19959, rfl, av19959, bv19959, cv19959⟩ := hq
                show WP _ _ _ _ (.int _ :: _) _ _ _ _
                rw [ec]
                clear ec Ra
                have e19960 : I19957 (ad g 1) 1 = L := hI19957.2
                have b19961 := BT_get hI19957.1 1 1 2 (0) (0) (900) (by decide) 1 (by decide) (by decide)
                rw [e19960] at b19961
                obtain ⟨w19962, ew19962⟩ : ∃ w : Int32, I19957 (ad g 4) 0 = w := ⟨_, rfl⟩
                have bw19962 := BT_get hI19957.1 4 0 5 (0) (0) (1000) (by decide) 0 (by decide) (by decide)
                rw [ew19962] at bw19962
                rw [ew19962] at cv19959
                refine WP_istore (ls' := [(0, _), (1, _), (2, _), (3, _), (4, _)]) dX3_readTown_84 (by decide) rfl ?_
                refine WP_iload dX3_readTown_86 rfl ?_
                refine WQ_if_eq 99 dX3_readTown_88 rfl (fun c19962 => ?_) (fun c19962 => ?_)
                · refine WP_aload_n dX3_readTown_99 rfl ?_
                  refine WP_iload_n dX3_readTown_100 rfl ?_
                  refine WP_aload_n dX3_readTown_101 rfl ?_
                  refine WP_getr dX3_readTown_102 fX3_9 rfl (lyx_is hy 3 3 rfl) (rfx hr 3 3 4 (by decide)) ?_
                  refine WP_callV2 (k := 7) dX3_readTown_105 ⟨⟨⟨by decide, by decide⟩, zX7_tell⟩, lX3_58, by decide, rfl, vX7_tell.1, vX7_tell.2⟩ (lyx_is hy 27 7 rfl) (sx_tell_27_8 hy hr hI19957 v19654 (by omega) (by omega) (by rw [ew19962]; omega)) (Nat.le_of_ble_eq_true rfl) ?_
                  intro r I19964 J19965 Ra hq
                  obtain ⟨⟨hI19964, ec, pI19964⟩, rfl⟩ := hq
                  rw [ec]
                  clear ec Ra
                  have e19966 : I19964 (ad g 1) 1 = L := hI19964.2
                  have b19967 := BT_get hI19964.1 1 1 2 (0) (0) (900) (by decide) 1 (by decide) (by decide)
                  rw [e19966] at b19967
                  refine WP_iinc (ls' := [(0, _), (1, _), (2, _), (3, _), (4, _)]) dX3_readTown_108 rfl (by decide) rfl ?_
                  have hv19968 : (i19639 + Int32.ofInt (1)).toInt = i19639.toInt + (1) := ia_n rfl (by omega) (by omega)
                  generalize i19639 + Int32.ofInt (1) = v19968 at hv19968 ⊢
                  refine WP_goto 18 dX3_readTown_111 rfl ?_
                  exact WP_sub (fc rfl (fc rfl (fc rfl fn))) (ihlp18_19641 v19968 I19964 J19965 hI19964 (by omega) (by omega) (by omega))
                · refine WP_aload_n dX3_readTown_91 rfl ?_
                  refine WP_iload dX3_readTown_92 rfl ?_
                  refine WP_callV1 (k := 3) dX3_readTown_94 ⟨⟨⟨by decide, by decide⟩, zX3_note⟩, lX3_31, by decide, rfl, vX3_note.1, vX3_note.2⟩ (lyx_is hy 3 3 rfl) (sx_notef hy hr hI19957 v19959 ) (Nat.le_of_ble_eq_true rfl) ?_
                  intro r I19969 J19970 Ra hq
                  obtain ⟨⟨hI19969, ec, fiI19969⟩, rfl⟩ := hq
                  rw [ec]
                  clear ec Ra
                  have e19971 : I19969 (ad g 4) 0 = w19962 := by rw [fz_at fiI19969 4 (by decide) (by decide)]; exact ew19962
                  have e19972 : I19969 (ad g 1) 1 = L := hI19969.2
                  have b19973 := BT_get hI19969.1 1 1 2 (0) (0) (900) (by decide) 1 (by decide) (by decide)
                  rw [e19972] at b19973
                  refine WQ_iconst (0) (0) dX3_readTown_97 rfl rfl (fun v19974 hv19974 => ?_)
                  exact WP_zret dX3_readTown_98 rfl (nar_z (by omega)) ⟨⟨hI19969, rfl⟩, _, rfl, by omega, by omega⟩
            · refine WP_aload_n dX3_readTown_59 rfl ?_
              refine WP_iload_n dX3_readTown_60 rfl ?_
              refine WP_callV1 (k := 7) dX3_readTown_61 ⟨⟨⟨by decide, by decide⟩, zX7_faultAhead⟩, lX3_50, by decide, rfl, vX7_faultAhead.1, vX7_faultAhead.2⟩ (lyx_is hy 27 7 rfl) (sx_faultAhead_27_9 hy hr hI19648 v19654 (by omega) (by omega)) (Nat.le_of_ble_eq_true rfl) ?_
              intro r Ia Ja Ra hq
              obtain ⟨⟨ea, eb, ec⟩, v19975, rfl, av19975, bv19975⟩ := hq
              show WP _ _ _ _ (.int _ :: _) _ _ _ _
              rw [ea, eb, ec]
              clear ea eb ec Ia Ja Ra
              refine WP_istore (ls' := [(0, _), (1, _), (2, _), (3, _), (4, _)]) dX3_readTown_64 (by decide) rfl ?_
              refine WP_iload dX3_readTown_66 rfl ?_
              refine WQ_if_ne 86 dX3_readTown_68 rfl (fun c19975 => ?_) (fun c19975 => ?_)
              · refine WP_iload dX3_readTown_86 rfl ?_
                refine WQ_if_eq 99 dX3_readTown_88 rfl (fun c19976 => False.elim (by omega)) (fun c19976 => ?_)
                refine WP_aload_n dX3_readTown_91 rfl ?_
                refine WP_iload dX3_readTown_92 rfl ?_
                refine WP_callV1 (k := 3) dX3_readTown_94 ⟨⟨⟨by decide, by decide⟩, zX3_note⟩, lX3_31, by decide, rfl, vX3_note.1, vX3_note.2⟩ (lyx_is hy 3 3 rfl) (sx_notef hy hr hI19648 v19975 ) (Nat.le_of_ble_eq_true rfl) ?_
                intro r I19978 J19979 Ra hq
                obtain ⟨⟨hI19978, ec, fiI19978⟩, rfl⟩ := hq
                rw [ec]
                clear ec Ra
                have e19980 : I19978 (ad g 1) 2 = v19652 := by rw [fz_at fiI19978 1 (by decide) (by decide)]; exact ev19652
                have e19981 : I19978 (ad g 1) 1 = L := hI19978.2
                have b19982 := BT_get hI19978.1 1 1 2 (0) (0) (900) (by decide) 1 (by decide) (by decide)
                rw [e19981] at b19982
                refine WQ_iconst (0) (0) dX3_readTown_97 rfl rfl (fun v19983 hv19983 => ?_)
                exact WP_zret dX3_readTown_98 rfl (nar_z (by omega)) ⟨⟨hI19978, rfl⟩, _, rfl, by omega, by omega⟩
              · refine WP_aload_n dX3_readTown_71 rfl ?_
                refine WP_getr dX3_readTown_72 fX3_15 rfl (lyx_is hy 3 3 rfl) (rfx hr 3 2 1 (by decide)) ?_
                refine WP_callV0 (k := 5) dX3_readTown_75 ⟨⟨⟨by decide, by decide⟩, zX5_next⟩, lX3_40, by decide, rfl, vX5_next.1, vX5_next.2⟩ (lyx_is hy 1 5 rfl) (sx_nextf hy hr hI19648  ) (Nat.le_of_ble_eq_true rfl) ?_
                intro r I19984 J19985 Ra hq
                obtain ⟨⟨hI19984, ec, fiI19984⟩, rfl⟩ := hq
                rw [ec]
                clear ec Ra
                have e19986 : I19984 (ad g 1) 1 = L := hI19984.2
                have b19987 := BT_get hI19984.1 1 1 2 (0) (0) (900) (by decide) 1 (by decide) (by decide)
                rw [e19986] at b19987
                refine WP_aload_n dX3_readTown_78 rfl ?_
                refine WP_iload_n dX3_readTown_79 rfl ?_
                refine WP_aload_n dX3_readTown_80 rfl ?_
                refine WP_callV2 (k := 3) dX3_readTown_81 ⟨⟨⟨by decide, by decide⟩, zX3_faultInParts⟩, lX3_54, by decide, rfl, vX3_faultInParts.1, vX3_faultInParts.2⟩ (lyx_is hy 3 3 rfl) (sx_parts_27_9 hy hz hr hI19984 v19654 (by omega) (by omega)) (Nat.le_of_ble_eq_true rfl) ?_
                intro r I19988 J19989 Ra hq
                obtain ⟨⟨hI19988, ec, ⟨pI19988, sI19988_27_1, sI19988_27_2⟩⟩, v19990, rfl, av19990, bv19990, cv19990⟩ := hq
                show WP _ _ _ _ (.int _ :: _) _ _ _ _
                rw [ec]
                clear ec Ra
                have e19991 : I19988 (ad g 1) 1 = L := hI19988.2
                have b19992 := BT_get hI19988.1 1 1 2 (0) (0) (900) (by decide) 1 (by decide) (by decide)
                rw [e19991] at b19992
                obtain ⟨w19993, ew19993⟩ : ∃ w : Int32, I19988 (ad g 4) 0 = w := ⟨_, rfl⟩
                have bw19993 := BT_get hI19988.1 4 0 5 (0) (0) (1000) (by decide) 0 (by decide) (by decide)
                rw [ew19993] at bw19993
                rw [ew19993] at cv19990
                refine WP_istore (ls' := [(0, _), (1, _), (2, _), (3, _), (4, _)]) dX3_readTown_84 (by decide) rfl ?_
                refine WP_iload dX3_readTown_86 rfl ?_
                refine WQ_if_eq 99 dX3_readTown_88 rfl (fun c19993 => ?_) (fun c19993 => ?_)
                · refine WP_aload_n dX3_readTown_99 rfl ?_
                  refine WP_iload_n dX3_readTown_100 rfl ?_
                  refine WP_aload_n dX3_readTown_101 rfl ?_
                  refine WP_getr dX3_readTown_102 fX3_9 rfl (lyx_is hy 3 3 rfl) (rfx hr 3 3 4 (by decide)) ?_
                  refine WP_callV2 (k := 7) dX3_readTown_105 ⟨⟨⟨by decide, by decide⟩, zX7_tell⟩, lX3_58, by decide, rfl, vX7_tell.1, vX7_tell.2⟩ (lyx_is hy 27 7 rfl) (sx_tell_27_9 hy hr hI19988 v19654 (by omega) (by omega) (by rw [ew19993]; omega)) (Nat.le_of_ble_eq_true rfl) ?_
                  intro r I19995 J19996 Ra hq
                  obtain ⟨⟨hI19995, ec, pI19995⟩, rfl⟩ := hq
                  rw [ec]
                  clear ec Ra
                  have e19997 : I19995 (ad g 1) 1 = L := hI19995.2
                  have b19998 := BT_get hI19995.1 1 1 2 (0) (0) (900) (by decide) 1 (by decide) (by decide)
                  rw [e19997] at b19998
                  refine WP_iinc (ls' := [(0, _), (1, _), (2, _), (3, _), (4, _)]) dX3_readTown_108 rfl (by decide) rfl ?_
                  have hv19999 : (i19639 + Int32.ofInt (1)).toInt = i19639.toInt + (1) := ia_n rfl (by omega) (by omega)
                  generalize i19639 + Int32.ofInt (1) = v19999 at hv19999 ⊢
                  refine WP_goto 18 dX3_readTown_111 rfl ?_
                  exact WP_sub (fc rfl (fc rfl (fc rfl fn))) (ihlp18_19641 v19999 I19995 J19996 hI19995 (by omega) (by omega) (by omega))
                · refine WP_aload_n dX3_readTown_91 rfl ?_
                  refine WP_iload dX3_readTown_92 rfl ?_
                  refine WP_callV1 (k := 3) dX3_readTown_94 ⟨⟨⟨by decide, by decide⟩, zX3_note⟩, lX3_31, by decide, rfl, vX3_note.1, vX3_note.2⟩ (lyx_is hy 3 3 rfl) (sx_notef hy hr hI19988 v19990 ) (Nat.le_of_ble_eq_true rfl) ?_
                  intro r I20000 J20001 Ra hq
                  obtain ⟨⟨hI20000, ec, fiI20000⟩, rfl⟩ := hq
                  rw [ec]
                  clear ec Ra
                  have e20002 : I20000 (ad g 4) 0 = w19993 := by rw [fz_at fiI20000 4 (by decide) (by decide)]; exact ew19993
                  have e20003 : I20000 (ad g 1) 1 = L := hI20000.2
                  have b20004 := BT_get hI20000.1 1 1 2 (0) (0) (900) (by decide) 1 (by decide) (by decide)
                  rw [e20003] at b20004
                  refine WQ_iconst (0) (0) dX3_readTown_97 rfl rfl (fun v20005 hv20005 => ?_)
                  exact WP_zret dX3_readTown_98 rfl (nar_z (by omega)) ⟨⟨hI20000, rfl⟩, _, rfl, by omega, by omega⟩
          · refine WQ_iconst (1) (1) dX3_readTown_55 rfl rfl (fun v20006 hv20006 => ?_)
            refine WP_goto 64 dX3_readTown_56 rfl ?_
            refine WP_istore (ls' := [(0, _), (1, _), (2, _), (3, _), (4, _)]) dX3_readTown_64 (by decide) rfl ?_
            refine WP_iload dX3_readTown_66 rfl ?_
            refine WQ_if_ne 86 dX3_readTown_68 rfl (fun c20006 => ?_) (fun c20006 => False.elim (by omega))
            refine WP_iload dX3_readTown_86 rfl ?_
            refine WQ_if_eq 99 dX3_readTown_88 rfl (fun c20007 => False.elim (by omega)) (fun c20007 => ?_)
            refine WP_aload_n dX3_readTown_91 rfl ?_
            refine WP_iload dX3_readTown_92 rfl ?_
            refine WP_callV1 (k := 3) dX3_readTown_94 ⟨⟨⟨by decide, by decide⟩, zX3_note⟩, lX3_31, by decide, rfl, vX3_note.1, vX3_note.2⟩ (lyx_is hy 3 3 rfl) (sx_notef hy hr hI19648 v20006 ) (Nat.le_of_ble_eq_true rfl) ?_
            intro r I20009 J20010 Ra hq
            obtain ⟨⟨hI20009, ec, fiI20009⟩, rfl⟩ := hq
            rw [ec]
            clear ec Ra
            have e20011 : I20009 (ad g 1) 2 = v19652 := by rw [fz_at fiI20009 1 (by decide) (by decide)]; exact ev19652
            have e20012 : I20009 (ad g 1) 1 = L := hI20009.2
            have b20013 := BT_get hI20009.1 1 1 2 (0) (0) (900) (by decide) 1 (by decide) (by decide)
            rw [e20012] at b20013
            refine WQ_iconst (0) (0) dX3_readTown_97 rfl rfl (fun v20014 hv20014 => ?_)
            exact WP_zret dX3_readTown_98 rfl (nar_z (by omega)) ⟨⟨hI20009, rfl⟩, _, rfl, by omega, by omega⟩
        · refine WP_goto 114 dX3_readTown_42 rfl ?_
          refine WQ_iconst (1) (1) dX3_readTown_114 rfl rfl (fun v20015 hv20015 => ?_)
          exact WP_zret dX3_readTown_115 rfl (nar_z (by omega)) ⟨⟨hI19648, rfl⟩, _, rfl, by omega, by omega⟩
  exact WP_sub (fc rfl (fc rfl (fc rfl fn))) (lp18_19641 _ v19638 I19634 J19635 hI19634 (by omega) (by omega) (Nat.lt_succ_self _))
set_option maxHeartbeats 4000000 in
set_option maxRecDepth 100000 in
theorem sx_readBook_27 {g : GG} {n : Int} {L : Int32} (hy : LyX g) {aK aV : Nat → Nat} {fo : Option Nat} (hz : HZ g aK aV fo)  {I : pI} {J : pJ} {R : pR} (hr : RfX g R) (hI : XI g n L I)   : SP g mX3_readBook [.ref (ad g 3), .ref (ad g 27)] I J R (fun r I' J' R' => (XI g n L I' ∧ R' = R) ∧ ∃ v : Int32, r = some (.int v)) := by
  refine SP_of ⟨by decide, rfl⟩ (Nat.le_of_ble_eq_true rfl) ?_
  have e20016 : I (ad g 1) 1 = L := hI.2
  have b20017 := BT_get hI.1 1 1 2 (0) (0) (900) (by decide) 1 (by decide) (by decide)
  rw [e20016] at b20017
  refine WQ_bipush (-3) (-3) dX3_readBook_0 rfl rfl (fun v20018 hv20018 => ?_)
  refine WP_istore_n (ls' := [(0, _), (1, _), (2, _)]) dX3_readBook_2 (by decide) rfl ?_
  refine WP_aload_n dX3_readBook_3 rfl ?_
  refine WQ_iconst (0) (0) dX3_readBook_4 rfl rfl (fun v20019 hv20019 => ?_)
  refine WP_callV1 (k := 3) dX3_readBook_5 ⟨⟨⟨by decide, by decide⟩, zX3_note⟩, lX3_31, by decide, rfl, vX3_note.1, vX3_note.2⟩ (lyx_is hy 3 3 rfl) (sx_notef hy hr hI v20019 ) (Nat.le_of_ble_eq_true rfl) ?_
  intro r I20020 J20021 Ra hq
  obtain ⟨⟨hI20020, ec, fiI20020⟩, rfl⟩ := hq
  rw [ec]
  clear ec Ra
  have e20022 : I20020 (ad g 1) 1 = L := hI20020.2
  have b20023 := BT_get hI20020.1 1 1 2 (0) (0) (900) (by decide) 1 (by decide) (by decide)
  rw [e20022] at b20023
  refine WP_aload_n dX3_readBook_8 rfl ?_
  refine WP_getr dX3_readBook_9 fX3_15 rfl (lyx_is hy 3 3 rfl) (rfx hr 3 2 1 (by decide)) ?_
  refine WP_callV0 (k := 5) dX3_readBook_12 ⟨⟨⟨by decide, by decide⟩, zX5_rewind⟩, lX3_35, by decide, rfl, vX5_rewind.1, vX5_rewind.2⟩ (lyx_is hy 1 5 rfl) (sx_rewindf hy hr hI20020  ) (Nat.le_of_ble_eq_true rfl) ?_
  intro r I20024 J20025 Ra hq
  obtain ⟨⟨hI20024, ec, fiI20024⟩, rfl⟩ := hq
  rw [ec]
  clear ec Ra
  have e20026 : I20024 (ad g 1) 1 = L := hI20024.2
  have b20027 := BT_get hI20024.1 1 1 2 (0) (0) (900) (by decide) 1 (by decide) (by decide)
  rw [e20026] at b20027
  refine WQ_iconst (0) (0) dX3_readBook_15 rfl rfl (fun v20028 hv20028 => ?_)
  refine WP_istore_n (ls' := [(0, _), (1, _), (2, _), (3, _)]) dX3_readBook_16 (by decide) rfl ?_
  have lp17_20032 : ∀ (mz : Nat) (i20029 : Int32) (i20030 : Int32) (I20031 : pI) (J20032 : pJ), XI g n L I20031 → 0 ≤ i20030.toInt → i20030.toInt ≤ 901 → (902 - i20030.toInt).toNat < mz → WP g mX3_readBook 17 [(0, .ref (ad g 3)), (1, .ref (ad g 27)), (2, .int i20029), (3, .int i20030)] [] I20031 J20032 R (fun r I' J' R' => (XI g n L I' ∧ R' = R) ∧ ∃ v : Int32, r = some (.int v)) := by
    intro mz
    induction mz with
    | zero =>
      intro i20029 i20030 I20031 J20032 hI20031 ai20030 bi20030 hmlp17_20032
      exact absurd hmlp17_20032 (Nat.not_lt_zero _)
    | succ mz ihlp17_20032 =>
      intro i20029 i20030 I20031 J20032 hI20031 ai20030 bi20030 hmlp17_20032
      have e20034 : I20031 (ad g 1) 1 = L := hI20031.2
      have b20035 := BT_get hI20031.1 1 1 2 (0) (0) (900) (by decide) 1 (by decide) (by decide)
      rw [e20034] at b20035
      refine WP_iload_n dX3_readBook_17 rfl ?_
      refine WQ_sipush (900) (900) dX3_readBook_18 rfl rfl (fun v20036 hv20036 => ?_)
      refine WQ_icmp_gt 91 dX3_readBook_21 rfl (fun c20036 => ?_) (fun c20036 => ?_)
      · refine WP_iload_n dX3_readBook_91 rfl ?_
        exact WP_iret dX3_readBook_92 rfl ⟨⟨hI20031, rfl⟩, _, rfl⟩
      · refine WP_aload_n dX3_readBook_24 rfl ?_
        refine WP_getr dX3_readBook_25 fX3_15 rfl (lyx_is hy 3 3 rfl) (rfx hr 3 2 1 (by decide)) ?_
        refine WP_callV0 (k := 5) dX3_readBook_28 ⟨⟨⟨by decide, by decide⟩, zX5_next⟩, lX3_40, by decide, rfl, vX5_next.1, vX5_next.2⟩ (lyx_is hy 1 5 rfl) (sx_nextf hy hr hI20031  ) (Nat.le_of_ble_eq_true rfl) ?_
        intro r I20038 J20039 Ra hq
        obtain ⟨⟨hI20038, ec, fiI20038⟩, rfl⟩ := hq
        rw [ec]
        clear ec Ra
        have e20040 : I20038 (ad g 1) 1 = L := hI20038.2
        have b20041 := BT_get hI20038.1 1 1 2 (0) (0) (900) (by decide) 1 (by decide) (by decide)
        rw [e20040] at b20041
        refine WP_aload_n dX3_readBook_31 rfl ?_
        refine WP_getr dX3_readBook_32 fX3_15 rfl (lyx_is hy 3 3 rfl) (rfx hr 3 2 1 (by decide)) ?_
        refine WQ_geti dX3_readBook_35 fX3_43 rfl (lyx_is hy 1 5 rfl) (BT_get hI20038.1 1 2 3 (0) (0) (4) (by decide) 2 (by decide) (by decide)) (fun v20042 ev20042 av20042 bv20042 => ?_)
        refine WQ_if_ne 44 dX3_readBook_38 rfl (fun c20042 => ?_) (fun c20042 => ?_)
        · refine WP_aload_n dX3_readBook_44 rfl ?_
          refine WQ_bipush (10) (10) dX3_readBook_45 rfl rfl (fun v20044 hv20044 => ?_)
          refine WP_aload_n dX3_readBook_47 rfl ?_
          refine WP_callV2 (k := 3) dX3_readBook_48 ⟨⟨⟨by decide, by decide⟩, zX3_faultInParts⟩, lX3_54, by decide, rfl, vX3_faultInParts.1, vX3_faultInParts.2⟩ (lyx_is hy 3 3 rfl) (sx_parts_27_10 hy hz hr hI20038 v20044 (by omega) (by omega)) (Nat.le_of_ble_eq_true rfl) ?_
          intro r I20045 J20046 Ra hq
          obtain ⟨⟨hI20045, ec, ⟨pI20045, sI20045_27_1, sI20045_27_2⟩⟩, v20047, rfl, av20047, bv20047, cv20047⟩ := hq
          show WP _ _ _ _ (.int _ :: _) _ _ _ _
          rw [ec]
          clear ec Ra
          have e20048 : I20045 (ad g 1) 1 = L := hI20045.2
          have b20049 := BT_get hI20045.1 1 1 2 (0) (0) (900) (by decide) 1 (by decide) (by decide)
          rw [e20048] at b20049
          obtain ⟨w20050, ew20050⟩ : ∃ w : Int32, I20045 (ad g 4) 0 = w := ⟨_, rfl⟩
          have bw20050 := BT_get hI20045.1 4 0 5 (0) (0) (1000) (by decide) 0 (by decide) (by decide)
          rw [ew20050] at bw20050
          rw [ew20050] at cv20047
          obtain ⟨w20051, ew20051⟩ : ∃ w : Int32, I20045 (ad g 4) 1 = w := ⟨_, rfl⟩
          have bw20051 := BT_get hI20045.1 4 0 5 (0) (0) (1000) (by decide) 1 (by decide) (by decide)
          rw [ew20051] at bw20051
          rw [ew20051] at cv20047
          obtain ⟨w20052, ew20052⟩ : ∃ w : Int32, I20045 (ad g 4) 2 = w := ⟨_, rfl⟩
          have bw20052 := BT_get hI20045.1 4 0 5 (0) (0) (1000) (by decide) 2 (by decide) (by decide)
          rw [ew20052] at bw20052
          rw [ew20052] at cv20047
          obtain ⟨w20053, ew20053⟩ : ∃ w : Int32, I20045 (ad g 4) 3 = w := ⟨_, rfl⟩
          have bw20053 := BT_get hI20045.1 4 0 5 (0) (0) (1000) (by decide) 3 (by decide) (by decide)
          rw [ew20053] at bw20053
          rw [ew20053] at cv20047
          obtain ⟨w20054, ew20054⟩ : ∃ w : Int32, I20045 (ad g 4) 4 = w := ⟨_, rfl⟩
          have bw20054 := BT_get hI20045.1 4 0 5 (0) (0) (1000) (by decide) 4 (by decide) (by decide)
          rw [ew20054] at bw20054
          rw [ew20054] at cv20047
          refine WP_istore (ls' := [(0, _), (1, _), (2, _), (3, _), (4, _)]) dX3_readBook_51 (by decide) rfl ?_
          refine WP_iload dX3_readBook_53 rfl ?_
          refine WQ_if_eq 66 dX3_readBook_55 rfl (fun c20054 => ?_) (fun c20054 => ?_)
          · refine WP_iload_n dX3_readBook_66 rfl ?_
            refine WQ_bipush (-3) (-3) dX3_readBook_67 rfl rfl (fun v20056 hv20056 => ?_)
            refine WQ_icmp_ne 85 dX3_readBook_69 rfl (fun c20056 => ?_) (fun c20056 => ?_)
            · refine WP_iinc (ls' := [(0, _), (1, _), (2, _), (3, _), (4, _)]) dX3_readBook_85 rfl (by decide) rfl ?_
              have hv20058 : (i20030 + Int32.ofInt (1)).toInt = i20030.toInt + (1) := ia_n rfl (by omega) (by omega)
              generalize i20030 + Int32.ofInt (1) = v20058 at hv20058 ⊢
              refine WP_goto 17 dX3_readBook_88 rfl ?_
              exact WP_sub (fc rfl (fc rfl (fc rfl (fc rfl fn)))) (ihlp17_20032 i20029 v20058 I20045 J20046 hI20045 (by omega) (by omega) (by omega))
            · refine WP_aload_n dX3_readBook_72 rfl ?_
              refine WP_aload_n dX3_readBook_73 rfl ?_
              refine WP_getr dX3_readBook_74 fX3_9 rfl (lyx_is hy 3 3 rfl) (rfx hr 3 3 4 (by decide)) ?_
              refine WP_callV1 (k := 7) dX3_readBook_77 ⟨⟨⟨by decide, by decide⟩, zX7_isLoss⟩, lX3_62, by decide, rfl, vX7_isLoss.1, vX7_isLoss.2⟩ (lyx_is hy 27 7 rfl) (sx_isLoss_27 hy hr hI20045   (by rw [ew20050, ew20052]; omega)) (Nat.le_of_ble_eq_true rfl) ?_
              intro r Ia Ja Ra hq
              obtain ⟨⟨ea, eb, ec⟩, v20059, rfl, av20059, bv20059⟩ := hq
              show WP _ _ _ _ (.int _ :: _) _ _ _ _
              rw [ea, eb, ec]
              clear ea eb ec Ia Ja Ra
              refine WQ_if_eq 85 dX3_readBook_80 rfl (fun c20059 => ?_) (fun c20059 => ?_)
              · refine WP_iinc (ls' := [(0, _), (1, _), (2, _), (3, _), (4, _)]) dX3_readBook_85 rfl (by decide) rfl ?_
                have hv20061 : (i20030 + Int32.ofInt (1)).toInt = i20030.toInt + (1) := ia_n rfl (by omega) (by omega)
                generalize i20030 + Int32.ofInt (1) = v20061 at hv20061 ⊢
                refine WP_goto 17 dX3_readBook_88 rfl ?_
                exact WP_sub (fc rfl (fc rfl (fc rfl (fc rfl fn)))) (ihlp17_20032 i20029 v20061 I20045 J20046 hI20045 (by omega) (by omega) (by omega))
              · refine WP_iload_n dX3_readBook_83 rfl ?_
                refine WP_istore_n (ls' := [(0, _), (1, _), (2, _), (3, _), (4, _)]) dX3_readBook_84 (by decide) rfl ?_
                refine WP_iinc (ls' := [(0, _), (1, _), (2, _), (3, _), (4, _)]) dX3_readBook_85 rfl (by decide) rfl ?_
                have hv20062 : (i20030 + Int32.ofInt (1)).toInt = i20030.toInt + (1) := ia_n rfl (by omega) (by omega)
                generalize i20030 + Int32.ofInt (1) = v20062 at hv20062 ⊢
                refine WP_goto 17 dX3_readBook_88 rfl ?_
                exact WP_sub (fc rfl (fc rfl (fc rfl (fc rfl fn)))) (ihlp17_20032 i20030 v20062 I20045 J20046 hI20045 (by omega) (by omega) (by omega))
          · refine WP_aload_n dX3_readBook_58 rfl ?_
            refine WP_iload dX3_readBook_59 rfl ?_
            refine WP_callV1 (k := 3) dX3_readBook_61 ⟨⟨⟨by decide, by decide⟩, zX3_note⟩, lX3_31, by decide, rfl, vX3_note.1, vX3_note.2⟩ (lyx_is hy 3 3 rfl) (sx_notef hy hr hI20045 v20047 ) (Nat.le_of_ble_eq_true rfl) ?_
            intro r I20063 J20064 Ra hq
            obtain ⟨⟨hI20063, ec, fiI20063⟩, rfl⟩ := hq
            rw [ec]
            clear ec Ra
            have e20065 : I20063 (ad g 4) 0 = w20050 := by rw [fz_at fiI20063 4 (by decide) (by decide)]; exact ew20050
            have e20066 : I20063 (ad g 4) 1 = w20051 := by rw [fz_at fiI20063 4 (by decide) (by decide)]; exact ew20051
            have e20067 : I20063 (ad g 4) 2 = w20052 := by rw [fz_at fiI20063 4 (by decide) (by decide)]; exact ew20052
            have e20068 : I20063 (ad g 4) 3 = w20053 := by rw [fz_at fiI20063 4 (by decide) (by decide)]; exact ew20053
            have e20069 : I20063 (ad g 4) 4 = w20054 := by rw [fz_at fiI20063 4 (by decide) (by decide)]; exact ew20054
            have e20070 : I20063 (ad g 1) 1 = L := hI20063.2
            have b20071 := BT_get hI20063.1 1 1 2 (0) (0) (900) (by decide) 1 (by decide) (by decide)
            rw [e20070] at b20071
            refine WQ_iconst (-1) (-1) dX3_readBook_64 rfl rfl (fun v20072 hv20072 => ?_)
            exact WP_iret dX3_readBook_65 rfl ⟨⟨hI20063, rfl⟩, _, rfl⟩
        · refine WP_goto 91 dX3_readBook_41 rfl ?_
          refine WP_iload_n dX3_readBook_91 rfl ?_
          exact WP_iret dX3_readBook_92 rfl ⟨⟨hI20038, rfl⟩, _, rfl⟩
  exact WP_sub (fc rfl (fc rfl (fc rfl (fc rfl fn)))) (lp17_20032 _ v20018 v20028 I20024 J20025 hI20024 (by omega) (by omega) (Nat.lt_succ_self _))
set_option maxHeartbeats 4000000 in
set_option maxRecDepth 100000 in
theorem sx_readValues_27 {g : GG} {n : Int} {L : Int32} (hy : LyX g) {aK aV : Nat → Nat} {fo : Option Nat} (hz : HZ g aK aV fo)  {I : pI} {J : pJ} {R : pR} (hr : RfX g R) (hI : XI g n L I)   : SP g mX3_readValues [.ref (ad g 3), .ref (ad g 27), .ref (ad g 72)] I J R (fun r I' J' R' => (XI g n L I' ∧ R' = R) ∧ ∃ v : Int32, r = some (.int v) ∧ 0 ≤ v.toInt ∧ v.toInt ≤ 1) := by
  refine SP_of ⟨by decide, rfl⟩ (Nat.le_of_ble_eq_true rfl) ?_
  have e20073 : I (ad g 1) 1 = L := hI.2
  have b20074 := BT_get hI.1 1 1 2 (0) (0) (900) (by decide) 1 (by decide) (by decide)
  rw [e20073] at b20074
  refine WP_aload_n dX3_readValues_0 rfl ?_
  refine WP_getr dX3_readValues_1 fX3_15 rfl (lyx_is hy 3 3 rfl) (rfx hr 3 2 1 (by decide)) ?_
  refine WP_callV0 (k := 5) dX3_readValues_4 ⟨⟨⟨by decide, by decide⟩, zX5_rewind⟩, lX3_35, by decide, rfl, vX5_rewind.1, vX5_rewind.2⟩ (lyx_is hy 1 5 rfl) (sx_rewindf hy hr hI  ) (Nat.le_of_ble_eq_true rfl) ?_
  intro r I20075 J20076 Ra hq
  obtain ⟨⟨hI20075, ec, fiI20075⟩, rfl⟩ := hq
  rw [ec]
  clear ec Ra
  have e20077 : I20075 (ad g 1) 1 = L := hI20075.2
  have b20078 := BT_get hI20075.1 1 1 2 (0) (0) (900) (by decide) 1 (by decide) (by decide)
  rw [e20077] at b20078
  refine WQ_iconst (0) (0) dX3_readValues_7 rfl rfl (fun v20079 hv20079 => ?_)
  refine WP_istore_n (ls' := [(0, _), (1, _), (2, _), (3, _)]) dX3_readValues_8 (by decide) rfl ?_
  have lp9_20082 : ∀ (mz : Nat) (i20080 : Int32) (I20081 : pI) (J20082 : pJ), XI g n L I20081 → 0 ≤ i20080.toInt → i20080.toInt ≤ 4 → (5 - i20080.toInt).toNat < mz → WP g mX3_readValues 9 [(0, .ref (ad g 3)), (1, .ref (ad g 27)), (2, .ref (ad g 72)), (3, .int i20080)] [] I20081 J20082 R (fun r I' J' R' => (XI g n L I' ∧ R' = R) ∧ ∃ v : Int32, r = some (.int v) ∧ 0 ≤ v.toInt ∧ v.toInt ≤ 1) := by
    intro mz
    induction mz with
    | zero =>
      intro i20080 I20081 J20082 hI20081 ai20080 bi20080 hmlp9_20082
      exact absurd hmlp9_20082 (Nat.not_lt_zero _)
    | succ mz ihlp9_20082 =>
      intro i20080 I20081 J20082 hI20081 ai20080 bi20080 hmlp9_20082
      have e20084 : I20081 (ad g 1) 1 = L := hI20081.2
      have b20085 := BT_get hI20081.1 1 1 2 (0) (0) (900) (by decide) 1 (by decide) (by decide)
      rw [e20084] at b20085
      refine WP_iload_n dX3_readValues_9 rfl ?_
      refine WP_aload_n dX3_readValues_10 rfl ?_
      refine WQ_geti dX3_readValues_11 fX3_66 rfl (lyx_is hy 27 7 rfl) (BT_get hI20081.1 27 1 2 (0) (0) (4) (by decide) 1 (by decide) (by decide)) (fun v20086 ev20086 av20086 bv20086 => ?_)
      refine WQ_icmp_ge 76 dX3_readValues_14 rfl (fun c20086 => ?_) (fun c20086 => ?_)
      · refine WP_aload_n dX3_readValues_76 rfl ?_
        refine WP_getr dX3_readValues_77 fX3_15 rfl (lyx_is hy 3 3 rfl) (rfx hr 3 2 1 (by decide)) ?_
        refine WP_callV0 (k := 5) dX3_readValues_80 ⟨⟨⟨by decide, by decide⟩, zX5_next⟩, lX3_40, by decide, rfl, vX5_next.1, vX5_next.2⟩ (lyx_is hy 1 5 rfl) (sx_nextf hy hr hI20081  ) (Nat.le_of_ble_eq_true rfl) ?_
        intro r I20088 J20089 Ra hq
        obtain ⟨⟨hI20088, ec, fiI20088⟩, rfl⟩ := hq
        rw [ec]
        clear ec Ra
        have e20090 : I20088 (ad g 27) 1 = v20086 := by rw [fz_at fiI20088 27 (by decide) (by decide)]; exact ev20086
        have e20091 : I20088 (ad g 1) 1 = L := hI20088.2
        have b20092 := BT_get hI20088.1 1 1 2 (0) (0) (900) (by decide) 1 (by decide) (by decide)
        rw [e20091] at b20092
        refine WP_aload_n dX3_readValues_83 rfl ?_
        refine WP_getr dX3_readValues_84 fX3_15 rfl (lyx_is hy 3 3 rfl) (rfx hr 3 2 1 (by decide)) ?_
        refine WQ_geti dX3_readValues_87 fX3_43 rfl (lyx_is hy 1 5 rfl) (BT_get hI20088.1 1 2 3 (0) (0) (4) (by decide) 2 (by decide) (by decide)) (fun v20093 ev20093 av20093 bv20093 => ?_)
        refine WQ_if_ne 97 dX3_readValues_90 rfl (fun c20093 => ?_) (fun c20093 => ?_)
        · refine WQ_iconst (0) (0) dX3_readValues_97 rfl rfl (fun v20095 hv20095 => ?_)
          exact WP_zret dX3_readValues_98 rfl (nar_z (by omega)) ⟨⟨hI20088, rfl⟩, _, rfl, by omega, by omega⟩
        · refine WQ_iconst (1) (1) dX3_readValues_93 rfl rfl (fun v20096 hv20096 => ?_)
          refine WP_goto 98 dX3_readValues_94 rfl ?_
          exact WP_zret dX3_readValues_98 rfl (nar_z (by omega)) ⟨⟨hI20088, rfl⟩, _, rfl, by omega, by omega⟩
      · refine WP_aload_n dX3_readValues_17 rfl ?_
        refine WP_getr dX3_readValues_18 fX3_15 rfl (lyx_is hy 3 3 rfl) (rfx hr 3 2 1 (by decide)) ?_
        refine WP_callV0 (k := 5) dX3_readValues_21 ⟨⟨⟨by decide, by decide⟩, zX5_next⟩, lX3_40, by decide, rfl, vX5_next.1, vX5_next.2⟩ (lyx_is hy 1 5 rfl) (sx_nextf hy hr hI20081  ) (Nat.le_of_ble_eq_true rfl) ?_
        intro r I20097 J20098 Ra hq
        obtain ⟨⟨hI20097, ec, fiI20097⟩, rfl⟩ := hq
        rw [ec]
        clear ec Ra
        have e20099 : I20097 (ad g 27) 1 = v20086 := by rw [fz_at fiI20097 27 (by decide) (by decide)]; exact ev20086
        have e20100 : I20097 (ad g 1) 1 = L := hI20097.2
        have b20101 := BT_get hI20097.1 1 1 2 (0) (0) (900) (by decide) 1 (by decide) (by decide)
        rw [e20100] at b20101
        refine WP_aload_n dX3_readValues_24 rfl ?_
        refine WQ_bipush (11) (11) dX3_readValues_25 rfl rfl (fun v20102 hv20102 => ?_)
        refine WP_aload_n dX3_readValues_27 rfl ?_
        refine WP_callV2 (k := 3) dX3_readValues_28 ⟨⟨⟨by decide, by decide⟩, zX3_faultInParts⟩, lX3_54, by decide, rfl, vX3_faultInParts.1, vX3_faultInParts.2⟩ (lyx_is hy 3 3 rfl) (sx_parts_27_11 hy hz hr hI20097 v20102 (by omega) (by omega)) (Nat.le_of_ble_eq_true rfl) ?_
        intro r I20103 J20104 Ra hq
        obtain ⟨⟨hI20103, ec, ⟨pI20103, sI20103_27_1, sI20103_27_2⟩⟩, v20105, rfl, av20105, bv20105, cv20105⟩ := hq
        show WP _ _ _ _ (.int _ :: _) _ _ _ _
        rw [ec]
        clear ec Ra
        have e20106 : I20103 (ad g 27) 1 = v20086 := by rw [sI20103_27_1]; exact e20099
        have e20107 : I20103 (ad g 1) 1 = L := hI20103.2
        have b20108 := BT_get hI20103.1 1 1 2 (0) (0) (900) (by decide) 1 (by decide) (by decide)
        rw [e20107] at b20108
        obtain ⟨w20109, ew20109⟩ : ∃ w : Int32, I20103 (ad g 4) 0 = w := ⟨_, rfl⟩
        have bw20109 := BT_get hI20103.1 4 0 5 (0) (0) (1000) (by decide) 0 (by decide) (by decide)
        rw [ew20109] at bw20109
        rw [ew20109] at cv20105
        obtain ⟨w20110, ew20110⟩ : ∃ w : Int32, I20103 (ad g 4) 1 = w := ⟨_, rfl⟩
        have bw20110 := BT_get hI20103.1 4 0 5 (0) (0) (1000) (by decide) 1 (by decide) (by decide)
        rw [ew20110] at bw20110
        rw [ew20110] at cv20105
        refine WQ_if_ne 44 dX3_readValues_31 rfl (fun c20110 => ?_) (fun c20110 => ?_)
        · refine WQ_iconst (0) (0) dX3_readValues_44 rfl rfl (fun v20112 hv20112 => ?_)
          exact WP_zret dX3_readValues_45 rfl (nar_z (by omega)) ⟨⟨hI20103, rfl⟩, _, rfl, by omega, by omega⟩
        · refine WQ_iconst (2) (2) dX3_readValues_34 rfl rfl (fun v20113 hv20113 => ?_)
          refine WP_iload_n dX3_readValues_35 rfl ?_
          refine WQ_imulK (2) dX3_readValues_36 hv20113 (by omega) (by omega) (fun v20114 hv20114 => ?_)
          refine WQ_iconst (1) (1) dX3_readValues_37 rfl rfl (fun v20115 hv20115 => ?_)
          refine WQ_iadd dX3_readValues_38 (by omega) (by omega) (fun v20116 hv20116 => ?_)
          refine WP_aload_n dX3_readValues_39 rfl ?_
          refine WP_alen dX3_readValues_40 (lyx_is hy 72 13 rfl) (by decide) ?_
          rw [(lyx_n hy 72 8 rfl)]
          obtain ⟨v20117, hv20117, ev20117⟩ : ∃ v : Int32, v.toInt = 8 ∧ nI 8 = v := ⟨_, nI_toInt (by decide), rfl⟩
          rw [ev20117]; clear ev20117
          refine WQ_icmp_lt 46 dX3_readValues_41 rfl (fun c20117 => ?_) (fun c20117 => False.elim (by omega))
          refine WP_aload_n dX3_readValues_46 rfl ?_
          refine WQ_iconst (2) (2) dX3_readValues_47 rfl rfl (fun v20119 hv20119 => ?_)
          refine WP_iload_n dX3_readValues_48 rfl ?_
          refine WQ_imulK (2) dX3_readValues_49 hv20119 (by omega) (by omega) (fun v20120 hv20120 => ?_)
          refine WP_aload_n dX3_readValues_50 rfl ?_
          refine WP_getr dX3_readValues_51 fX3_9 rfl (lyx_is hy 3 3 rfl) (rfx hr 3 3 4 (by decide)) ?_
          refine WQ_iconst (0) (0) dX3_readValues_54 rfl rfl (fun v20121 hv20121 => ?_)
          refine WQ_ialdm (z := 0) dX3_readValues_55 (lyx_is hy 4 13 rfl) (lyx_n hy 4 5 rfl) hv20121 (by decide) ew20109 ?_
          refine WQ_iast dX3_readValues_56 (lyx_is hy 72 13 rfl) (lyx_n hy 72 8 rfl) (by omega) (by omega) (fun I20123 eI20123 => ?_)
          have hI20123 : XI g n L I20123 := by rw [eI20123]; exact (xi_r0 hy hI20103 (c := 72) (by decide) (Or.inl (by decide)) (by decide))
          have e20124 : I20123 (ad g 27) 1 = v20086 := by rw [eI20123, pp_ne _ _ (Or.inl (lyx_ne hy (by decide) (by decide) (by decide)))]; exact e20106
          have e20125 : I20123 (ad g 1) 1 = L := by rw [eI20123, pp_ne _ _ (Or.inl (lyx_ne hy (by decide) (by decide) (by decide)))]; exact e20107
          have e20126 : I20123 (ad g 4) 0 = w20109 := by rw [eI20123, pp_ne _ _ (Or.inl (lyx_ne hy (by decide) (by decide) (by decide)))]; exact ew20109
          have e20127 : I20123 (ad g 4) 1 = w20110 := by rw [eI20123, pp_ne _ _ (Or.inl (lyx_ne hy (by decide) (by decide) (by decide)))]; exact ew20110
          clear eI20123
          refine WP_aload_n dX3_readValues_57 rfl ?_
          refine WQ_iconst (2) (2) dX3_readValues_58 rfl rfl (fun v20128 hv20128 => ?_)
          refine WP_iload_n dX3_readValues_59 rfl ?_
          refine WQ_imulK (2) dX3_readValues_60 hv20128 (by omega) (by omega) (fun v20129 hv20129 => ?_)
          refine WQ_iconst (1) (1) dX3_readValues_61 rfl rfl (fun v20130 hv20130 => ?_)
          refine WQ_iadd dX3_readValues_62 (by omega) (by omega) (fun v20131 hv20131 => ?_)
          refine WP_aload_n dX3_readValues_63 rfl ?_
          refine WP_getr dX3_readValues_64 fX3_9 rfl (lyx_is hy 3 3 rfl) (rfx hr 3 3 4 (by decide)) ?_
          refine WQ_iconst (1) (1) dX3_readValues_67 rfl rfl (fun v20132 hv20132 => ?_)
          refine WQ_ialdm (z := 1) dX3_readValues_68 (lyx_is hy 4 13 rfl) (lyx_n hy 4 5 rfl) hv20132 (by decide) e20127 ?_
          refine WQ_iast dX3_readValues_69 (lyx_is hy 72 13 rfl) (lyx_n hy 72 8 rfl) (by omega) (by omega) (fun I20134 eI20134 => ?_)
          have hI20134 : XI g n L I20134 := by rw [eI20134]; exact (xi_r0 hy hI20123 (c := 72) (by decide) (Or.inl (by decide)) (by decide))
          have e20135 : I20134 (ad g 27) 1 = v20086 := by rw [eI20134, pp_ne _ _ (Or.inl (lyx_ne hy (by decide) (by decide) (by decide)))]; exact e20124
          have e20136 : I20134 (ad g 1) 1 = L := by rw [eI20134, pp_ne _ _ (Or.inl (lyx_ne hy (by decide) (by decide) (by decide)))]; exact e20125
          have e20137 : I20134 (ad g 4) 0 = w20109 := by rw [eI20134, pp_ne _ _ (Or.inl (lyx_ne hy (by decide) (by decide) (by decide)))]; exact e20126
          have e20138 : I20134 (ad g 4) 1 = w20110 := by rw [eI20134, pp_ne _ _ (Or.inl (lyx_ne hy (by decide) (by decide) (by decide)))]; exact e20127
          clear eI20134
          refine WP_iinc (ls' := [(0, _), (1, _), (2, _), (3, _)]) dX3_readValues_70 rfl (by decide) rfl ?_
          have hv20139 : (i20080 + Int32.ofInt (1)).toInt = i20080.toInt + (1) := ia_n rfl (by omega) (by omega)
          generalize i20080 + Int32.ofInt (1) = v20139 at hv20139 ⊢
          refine WP_goto 9 dX3_readValues_73 rfl ?_
          exact WP_sub (fc rfl (fc rfl (fc rfl (fc rfl fn)))) (ihlp9_20082 v20139 I20134 J20104 hI20134 (by omega) (by omega) (by omega))
  exact WP_sub (fc rfl (fc rfl (fc rfl (fc rfl fn)))) (lp9_20082 _ v20079 I20075 J20076 hI20075 (by omega) (by omega) (Nat.lt_succ_self _))
