set_option maxHeartbeats 4000000 in
set_option maxRecDepth 100000 in
theorem sx_forget_6 {g : GG} {n : Int} {L : Int32} (hy : LyX g)  {I : pI} {J : pJ} {R : pR} (hr : RfX g R) (hI : XI g n L I)   : SP g mX7_forget [.ref (ad g 6)] I J R (fun r I' J' R' => (XI g n L I' ∧ R' = R ∧ fz 74 g [6, 7, 11, 12, 13, 14, 15, 18, 19, 21] I I' ∧ fz 74 g [] J J') ∧ r = none) := by
  refine SP_of ⟨by decide, rfl⟩ (Nat.le_of_ble_eq_true rfl) ?_
  have e19865 : I (ad g 1) 1 = L := hI.2
  have b19866 := BT_get hI.1 1 1 2 (0) (0) (900) (by decide) 1 (by decide) (by decide)
  rw [e19865] at b19866
  have fr0 : fz 74 g [6, 7, 11, 12, 13, 14, 15, 18, 19, 21] I I := fz_rf
  have frj0 : fz 74 g [] J J := fz_rf
  refine WP_aload_n dX7_forget_0 rfl ?_
  refine WQ_iconst (0) (0) dX7_forget_1 rfl rfl (fun v19867 hv19867 => ?_)
  refine WQ_puti dX7_forget_2 fX7_61 rfl rfl (lyx_is hy 6 7 rfl) (fun I19868 eI19868 => ?_)
  have hI19868 : XI g n L I19868 := by rw [eI19868]; exact (xi_f0 hy hI (c := 6) (by decide) (Or.inl (by decide)) (by decide))
  have e19869 : I19868 (ad g 1) 1 = L := by rw [eI19868, pp_ne _ _ (Or.inl (lyx_ne hy (by decide) (by decide) (by decide)))]; exact e19865
  have e19870 : I19868 (ad g 6) 0 = v19867 := by rw [eI19868, pp_self]
  have fr19871 : fz 74 g [6, 7, 11, 12, 13, 14, 15, 18, 19, 21] I I19868 := by rw [eI19868]; exact fzx_pp hy fr0 (by decide) (by decide)
  clear eI19868
  refine WP_aload_n dX7_forget_5 rfl ?_
  refine WQ_iconst (0) (0) dX7_forget_6 rfl rfl (fun v19872 hv19872 => ?_)
  refine WQ_puti dX7_forget_7 fX7_65 rfl rfl (lyx_is hy 6 7 rfl) (fun I19873 eI19873 => ?_)
  have hI19873 : XI g n L I19873 := by rw [eI19873]; exact (xi_f hy hI19868 (c := 6) (0) (0) (4) (by decide) (Or.inl (by decide)) (by decide) (by omega) (by omega))
  have e19874 : I19873 (ad g 1) 1 = L := by rw [eI19873, pp_ne _ _ (Or.inl (lyx_ne hy (by decide) (by decide) (by decide)))]; exact e19869
  have e19875 : I19873 (ad g 6) 0 = v19867 := by rw [eI19873, pp_ne _ _ (Or.inr (by decide))]; exact e19870
  have e19876 : I19873 (ad g 6) 1 = v19872 := by rw [eI19873, pp_self]
  have fr19877 : fz 74 g [6, 7, 11, 12, 13, 14, 15, 18, 19, 21] I I19873 := by rw [eI19873]; exact fzx_pp hy fr19871 (by decide) (by decide)
  clear eI19873
  refine WP_aload_n dX7_forget_10 rfl ?_
  refine WQ_iconst (0) (0) dX7_forget_11 rfl rfl (fun v19878 hv19878 => ?_)
  refine WQ_puti dX7_forget_12 fX7_68 rfl rfl (lyx_is hy 6 7 rfl) (fun I19879 eI19879 => ?_)
  have hI19879 : XI g n L I19879 := by rw [eI19879]; exact (xi_f hy hI19873 (c := 6) (0) (0) (3) (by decide) (Or.inl (by decide)) (by decide) (by omega) (by omega))
  have e19880 : I19879 (ad g 1) 1 = L := by rw [eI19879, pp_ne _ _ (Or.inl (lyx_ne hy (by decide) (by decide) (by decide)))]; exact e19874
  have e19881 : I19879 (ad g 6) 0 = v19867 := by rw [eI19879, pp_ne _ _ (Or.inr (by decide))]; exact e19875
  have e19882 : I19879 (ad g 6) 1 = v19872 := by rw [eI19879, pp_ne _ _ (Or.inr (by decide))]; exact e19876
  have e19883 : I19879 (ad g 6) 2 = v19878 := by rw [eI19879, pp_self]
  have fr19884 : fz 74 g [6, 7, 11, 12, 13, 14, 15, 18, 19, 21] I I19879 := by rw [eI19879]; exact fzx_pp hy fr19877 (by decide) (by decide)
  clear eI19879
  refine WP_aload_n dX7_forget_15 rfl ?_
  refine WQ_iconst (-1) (-1) dX7_forget_16 rfl rfl (fun v19885 hv19885 => ?_)
  refine WQ_puti dX7_forget_17 fX7_71 rfl rfl (lyx_is hy 6 7 rfl) (fun I19886 eI19886 => ?_)
  have hI19886 : XI g n L I19886 := by rw [eI19886]; exact (xi_f hy hI19879 (c := 6) (-1) (0) (3) (by decide) (Or.inl (by decide)) (by decide) (by omega) (by omega))
  have e19887 : I19886 (ad g 1) 1 = L := by rw [eI19886, pp_ne _ _ (Or.inl (lyx_ne hy (by decide) (by decide) (by decide)))]; exact e19880
  have e19888 : I19886 (ad g 6) 0 = v19867 := by rw [eI19886, pp_ne _ _ (Or.inr (by decide))]; exact e19881
  have e19889 : I19886 (ad g 6) 1 = v19872 := by rw [eI19886, pp_ne _ _ (Or.inr (by decide))]; exact e19882
  have e19890 : I19886 (ad g 6) 2 = v19878 := by rw [eI19886, pp_ne _ _ (Or.inr (by decide))]; exact e19883
  have e19891 : I19886 (ad g 6) 3 = v19885 := by rw [eI19886, pp_self]
  have fr19892 : fz 74 g [6, 7, 11, 12, 13, 14, 15, 18, 19, 21] I I19886 := by rw [eI19886]; exact fzx_pp hy fr19884 (by decide) (by decide)
  clear eI19886
  refine WP_aload_n dX7_forget_20 rfl ?_
  refine WQ_iconst (-1) (-1) dX7_forget_21 rfl rfl (fun v19893 hv19893 => ?_)
  refine WQ_puti dX7_forget_22 fX7_74 rfl rfl (lyx_is hy 6 7 rfl) (fun I19894 eI19894 => ?_)
  have hI19894 : XI g n L I19894 := by rw [eI19894]; exact (xi_f hy hI19886 (c := 6) (-1) (0) (2) (by decide) (Or.inl (by decide)) (by decide) (by omega) (by omega))
  have e19895 : I19894 (ad g 1) 1 = L := by rw [eI19894, pp_ne _ _ (Or.inl (lyx_ne hy (by decide) (by decide) (by decide)))]; exact e19887
  have e19896 : I19894 (ad g 6) 0 = v19867 := by rw [eI19894, pp_ne _ _ (Or.inr (by decide))]; exact e19888
  have e19897 : I19894 (ad g 6) 1 = v19872 := by rw [eI19894, pp_ne _ _ (Or.inr (by decide))]; exact e19889
  have e19898 : I19894 (ad g 6) 2 = v19878 := by rw [eI19894, pp_ne _ _ (Or.inr (by decide))]; exact e19890
  have e19899 : I19894 (ad g 6) 3 = v19885 := by rw [eI19894, pp_ne _ _ (Or.inr (by decide))]; exact e19891
  have e19900 : I19894 (ad g 6) 4 = v19893 := by rw [eI19894, pp_self]
  have fr19901 : fz 74 g [6, 7, 11, 12, 13, 14, 15, 18, 19, 21] I I19894 := by rw [eI19894]; exact fzx_pp hy fr19892 (by decide) (by decide)
  clear eI19894
  refine WP_aload_n dX7_forget_25 rfl ?_
  refine WP_getr dX7_forget_26 fX7_9 rfl (lyx_is hy 6 7 rfl) (rfx hr 6 5 7 (by decide)) ?_
  refine WQ_iconst (0) (0) dX7_forget_29 rfl rfl (fun v19902 hv19902 => ?_)
  refine WP_callS2u dX7_forget_30 ⟨⟨⟨by decide, by decide⟩, zJ7_fill_53178⟩, lX7_77, tJ7_fill_53178⟩ (s_fill hy hr 7 7 rfl rfl (by decide) v19902) (Nat.le_of_ble_eq_true rfl) ?_
  obtain ⟨I19903, eI19903⟩ : ∃ I9 : pI, I9 = fi I19894 (ad g 7) 7 v19902 := ⟨_, rfl⟩
  rw [← eI19903]
  have hI19903 : XI g n L I19903 := by rw [eI19903]; exact (xi_fill hy hI19894 7 7 v19902 (0) (0) (900) (by decide) (by decide) (by omega) (by omega))
  have e19904 : I19903 (ad g 1) 1 = L := by rw [eI19903, fi_off (lyx_ne hy (by decide) (by decide) (by decide))]; exact e19895
  have e19905 : I19903 (ad g 6) 0 = v19867 := by rw [eI19903, fi_off (lyx_ne hy (by decide) (by decide) (by decide))]; exact e19896
  have e19906 : I19903 (ad g 6) 1 = v19872 := by rw [eI19903, fi_off (lyx_ne hy (by decide) (by decide) (by decide))]; exact e19897
  have e19907 : I19903 (ad g 6) 2 = v19878 := by rw [eI19903, fi_off (lyx_ne hy (by decide) (by decide) (by decide))]; exact e19898
  have e19908 : I19903 (ad g 6) 3 = v19885 := by rw [eI19903, fi_off (lyx_ne hy (by decide) (by decide) (by decide))]; exact e19899
  have e19909 : I19903 (ad g 6) 4 = v19893 := by rw [eI19903, fi_off (lyx_ne hy (by decide) (by decide) (by decide))]; exact e19900
  have fr19910 : fz 74 g [6, 7, 11, 12, 13, 14, 15, 18, 19, 21] I I19903 := by rw [eI19903]; exact fzx_fi hy fr19901 (by decide) (by decide)
  clear eI19903
  refine WP_aload_n dX7_forget_33 rfl ?_
  refine WP_getr dX7_forget_34 fX7_24 rfl (lyx_is hy 6 7 rfl) (rfx hr 6 9 11 (by decide)) ?_
  refine WQ_iconst (0) (0) dX7_forget_37 rfl rfl (fun v19911 hv19911 => ?_)
  refine WP_callS2u dX7_forget_38 ⟨⟨⟨by decide, by decide⟩, zJ7_fill_53178⟩, lX7_77, tJ7_fill_53178⟩ (s_fill hy hr 11 4 rfl rfl (by decide) v19911) (Nat.le_of_ble_eq_true rfl) ?_
  obtain ⟨I19912, eI19912⟩ : ∃ I9 : pI, I9 = fi I19903 (ad g 11) 4 v19911 := ⟨_, rfl⟩
  rw [← eI19912]
  have hI19912 : XI g n L I19912 := by rw [eI19912]; exact (xi_fill0 hy hI19903 11 4 v19911 (by decide) (by decide))
  have e19913 : I19912 (ad g 1) 1 = L := by rw [eI19912, fi_off (lyx_ne hy (by decide) (by decide) (by decide))]; exact e19904
  have e19914 : I19912 (ad g 6) 0 = v19867 := by rw [eI19912, fi_off (lyx_ne hy (by decide) (by decide) (by decide))]; exact e19905
  have e19915 : I19912 (ad g 6) 1 = v19872 := by rw [eI19912, fi_off (lyx_ne hy (by decide) (by decide) (by decide))]; exact e19906
  have e19916 : I19912 (ad g 6) 2 = v19878 := by rw [eI19912, fi_off (lyx_ne hy (by decide) (by decide) (by decide))]; exact e19907
  have e19917 : I19912 (ad g 6) 3 = v19885 := by rw [eI19912, fi_off (lyx_ne hy (by decide) (by decide) (by decide))]; exact e19908
  have e19918 : I19912 (ad g 6) 4 = v19893 := by rw [eI19912, fi_off (lyx_ne hy (by decide) (by decide) (by decide))]; exact e19909
  have fr19919 : fz 74 g [6, 7, 11, 12, 13, 14, 15, 18, 19, 21] I I19912 := by rw [eI19912]; exact fzx_fi hy fr19910 (by decide) (by decide)
  clear eI19912
  refine WP_aload_n dX7_forget_41 rfl ?_
  refine WP_getr dX7_forget_42 fX7_27 rfl (lyx_is hy 6 7 rfl) (rfx hr 6 10 12 (by decide)) ?_
  refine WQ_iconst (0) (0) dX7_forget_45 rfl rfl (fun v19920 hv19920 => ?_)
  refine WP_callS2u dX7_forget_46 ⟨⟨⟨by decide, by decide⟩, zJ7_fill_53178⟩, lX7_77, tJ7_fill_53178⟩ (s_fill hy hr 12 28 rfl rfl (by decide) v19920) (Nat.le_of_ble_eq_true rfl) ?_
  obtain ⟨I19921, eI19921⟩ : ∃ I9 : pI, I9 = fi I19912 (ad g 12) 28 v19920 := ⟨_, rfl⟩
  rw [← eI19921]
  have hI19921 : XI g n L I19921 := by rw [eI19921]; exact (xi_fill hy hI19912 12 28 v19920 (0) (0) (20) (by decide) (by decide) (by omega) (by omega))
  have e19922 : I19921 (ad g 1) 1 = L := by rw [eI19921, fi_off (lyx_ne hy (by decide) (by decide) (by decide))]; exact e19913
  have e19923 : I19921 (ad g 6) 0 = v19867 := by rw [eI19921, fi_off (lyx_ne hy (by decide) (by decide) (by decide))]; exact e19914
  have e19924 : I19921 (ad g 6) 1 = v19872 := by rw [eI19921, fi_off (lyx_ne hy (by decide) (by decide) (by decide))]; exact e19915
  have e19925 : I19921 (ad g 6) 2 = v19878 := by rw [eI19921, fi_off (lyx_ne hy (by decide) (by decide) (by decide))]; exact e19916
  have e19926 : I19921 (ad g 6) 3 = v19885 := by rw [eI19921, fi_off (lyx_ne hy (by decide) (by decide) (by decide))]; exact e19917
  have e19927 : I19921 (ad g 6) 4 = v19893 := by rw [eI19921, fi_off (lyx_ne hy (by decide) (by decide) (by decide))]; exact e19918
  have fr19928 : fz 74 g [6, 7, 11, 12, 13, 14, 15, 18, 19, 21] I I19921 := by rw [eI19921]; exact fzx_fi hy fr19919 (by decide) (by decide)
  clear eI19921
  refine WP_aload_n dX7_forget_49 rfl ?_
  refine WP_getr dX7_forget_50 fX7_30 rfl (lyx_is hy 6 7 rfl) (rfx hr 6 11 13 (by decide)) ?_
  refine WQ_iconst (-1) (-1) dX7_forget_53 rfl rfl (fun v19929 hv19929 => ?_)
  refine WP_callS2u dX7_forget_54 ⟨⟨⟨by decide, by decide⟩, zJ7_fill_53178⟩, lX7_77, tJ7_fill_53178⟩ (s_fill hy hr 13 28 rfl rfl (by decide) v19929) (Nat.le_of_ble_eq_true rfl) ?_
  obtain ⟨I19930, eI19930⟩ : ∃ I9 : pI, I9 = fi I19921 (ad g 13) 28 v19929 := ⟨_, rfl⟩
  rw [← eI19930]
  have hI19930 : XI g n L I19930 := by rw [eI19930]; exact (xi_fill hy hI19921 13 28 v19929 (-1) (0) (2) (by decide) (by decide) (by omega) (by omega))
  have e19931 : I19930 (ad g 1) 1 = L := by rw [eI19930, fi_off (lyx_ne hy (by decide) (by decide) (by decide))]; exact e19922
  have e19932 : I19930 (ad g 6) 0 = v19867 := by rw [eI19930, fi_off (lyx_ne hy (by decide) (by decide) (by decide))]; exact e19923
  have e19933 : I19930 (ad g 6) 1 = v19872 := by rw [eI19930, fi_off (lyx_ne hy (by decide) (by decide) (by decide))]; exact e19924
  have e19934 : I19930 (ad g 6) 2 = v19878 := by rw [eI19930, fi_off (lyx_ne hy (by decide) (by decide) (by decide))]; exact e19925
  have e19935 : I19930 (ad g 6) 3 = v19885 := by rw [eI19930, fi_off (lyx_ne hy (by decide) (by decide) (by decide))]; exact e19926
  have e19936 : I19930 (ad g 6) 4 = v19893 := by rw [eI19930, fi_off (lyx_ne hy (by decide) (by decide) (by decide))]; exact e19927
  have fr19937 : fz 74 g [6, 7, 11, 12, 13, 14, 15, 18, 19, 21] I I19930 := by rw [eI19930]; exact fzx_fi hy fr19928 (by decide) (by decide)
  clear eI19930
  refine WP_aload_n dX7_forget_57 rfl ?_
  refine WP_getr dX7_forget_58 fX7_33 rfl (lyx_is hy 6 7 rfl) (rfx hr 6 12 14 (by decide)) ?_
  refine WQ_iconst (0) (0) dX7_forget_61 rfl rfl (fun v19938 hv19938 => ?_)
  refine WP_callS2u dX7_forget_62 ⟨⟨⟨by decide, by decide⟩, zJ7_fill_53178⟩, lX7_77, tJ7_fill_53178⟩ (s_fill hy hr 14 28 rfl rfl (by decide) v19938) (Nat.le_of_ble_eq_true rfl) ?_
  obtain ⟨I19939, eI19939⟩ : ∃ I9 : pI, I9 = fi I19930 (ad g 14) 28 v19938 := ⟨_, rfl⟩
  rw [← eI19939]
  have hI19939 : XI g n L I19939 := by rw [eI19939]; exact (xi_fill hy hI19930 14 28 v19938 (0) (0) (3) (by decide) (by decide) (by omega) (by omega))
  have e19940 : I19939 (ad g 1) 1 = L := by rw [eI19939, fi_off (lyx_ne hy (by decide) (by decide) (by decide))]; exact e19931
  have e19941 : I19939 (ad g 6) 0 = v19867 := by rw [eI19939, fi_off (lyx_ne hy (by decide) (by decide) (by decide))]; exact e19932
  have e19942 : I19939 (ad g 6) 1 = v19872 := by rw [eI19939, fi_off (lyx_ne hy (by decide) (by decide) (by decide))]; exact e19933
  have e19943 : I19939 (ad g 6) 2 = v19878 := by rw [eI19939, fi_off (lyx_ne hy (by decide) (by decide) (by decide))]; exact e19934
  have e19944 : I19939 (ad g 6) 3 = v19885 := by rw [eI19939, fi_off (lyx_ne hy (by decide) (by decide) (by decide))]; exact e19935
  have e19945 : I19939 (ad g 6) 4 = v19893 := by rw [eI19939, fi_off (lyx_ne hy (by decide) (by decide) (by decide))]; exact e19936
  have fr19946 : fz 74 g [6, 7, 11, 12, 13, 14, 15, 18, 19, 21] I I19939 := by rw [eI19939]; exact fzx_fi hy fr19937 (by decide) (by decide)
  clear eI19939
  refine WP_aload_n dX7_forget_65 rfl ?_
  refine WP_getr dX7_forget_66 fX7_36 rfl (lyx_is hy 6 7 rfl) (rfx hr 6 13 15 (by decide)) ?_
  refine WQ_iconst (0) (0) dX7_forget_69 rfl rfl (fun v19947 hv19947 => ?_)
  refine WP_callS2u dX7_forget_70 ⟨⟨⟨by decide, by decide⟩, zJ7_fill_53178⟩, lX7_77, tJ7_fill_53178⟩ (s_fill hy hr 15 28 rfl rfl (by decide) v19947) (Nat.le_of_ble_eq_true rfl) ?_
  obtain ⟨I19948, eI19948⟩ : ∃ I9 : pI, I9 = fi I19939 (ad g 15) 28 v19947 := ⟨_, rfl⟩
  rw [← eI19948]
  have hI19948 : XI g n L I19948 := by rw [eI19948]; exact (xi_fill hy hI19939 15 28 v19947 (0) (0) (99) (by decide) (by decide) (by omega) (by omega))
  have e19949 : I19948 (ad g 1) 1 = L := by rw [eI19948, fi_off (lyx_ne hy (by decide) (by decide) (by decide))]; exact e19940
  have e19950 : I19948 (ad g 6) 0 = v19867 := by rw [eI19948, fi_off (lyx_ne hy (by decide) (by decide) (by decide))]; exact e19941
  have e19951 : I19948 (ad g 6) 1 = v19872 := by rw [eI19948, fi_off (lyx_ne hy (by decide) (by decide) (by decide))]; exact e19942
  have e19952 : I19948 (ad g 6) 2 = v19878 := by rw [eI19948, fi_off (lyx_ne hy (by decide) (by decide) (by decide))]; exact e19943
  have e19953 : I19948 (ad g 6) 3 = v19885 := by rw [eI19948, fi_off (lyx_ne hy (by decide) (by decide) (by decide))]; exact e19944
  have e19954 : I19948 (ad g 6) 4 = v19893 := by rw [eI19948, fi_off (lyx_ne hy (by decide) (by decide) (by decide))]; exact e19945
  have fr19955 : fz 74 g [6, 7, 11, 12, 13, 14, 15, 18, 19, 21] I I19948 := by rw [eI19948]; exact fzx_fi hy fr19946 (by decide) (by decide)
  clear eI19948
  refine WP_aload_n dX7_forget_73 rfl ?_
  refine WP_getr dX7_forget_74 fX7_45 rfl (lyx_is hy 6 7 rfl) (rfx hr 6 16 18 (by decide)) ?_
  refine WQ_iconst (5) (5) dX7_forget_77 rfl rfl (fun v19956 hv19956 => ?_)
  refine WP_callS2u dX7_forget_78 ⟨⟨⟨by decide, by decide⟩, zJ7_fill_53178⟩, lX7_77, tJ7_fill_53178⟩ (s_fill hy hr 18 21 rfl rfl (by decide) v19956) (Nat.le_of_ble_eq_true rfl) ?_
  obtain ⟨I19957, eI19957⟩ : ∃ I9 : pI, I9 = fi I19948 (ad g 18) 21 v19956 := ⟨_, rfl⟩
  rw [← eI19957]
  have hI19957 : XI g n L I19957 := by rw [eI19957]; exact (xi_fill hy hI19948 18 21 v19956 (0) (0) (20) (by decide) (by decide) (by omega) (by omega))
  have e19958 : I19957 (ad g 1) 1 = L := by rw [eI19957, fi_off (lyx_ne hy (by decide) (by decide) (by decide))]; exact e19949
  have e19959 : I19957 (ad g 6) 0 = v19867 := by rw [eI19957, fi_off (lyx_ne hy (by decide) (by decide) (by decide))]; exact e19950
  have e19960 : I19957 (ad g 6) 1 = v19872 := by rw [eI19957, fi_off (lyx_ne hy (by decide) (by decide) (by decide))]; exact e19951
  have e19961 : I19957 (ad g 6) 2 = v19878 := by rw [eI19957, fi_off (lyx_ne hy (by decide) (by decide) (by decide))]; exact e19952
  have e19962 : I19957 (ad g 6) 3 = v19885 := by rw [eI19957, fi_off (lyx_ne hy (by decide) (by decide) (by decide))]; exact e19953
  have e19963 : I19957 (ad g 6) 4 = v19893 := by rw [eI19957, fi_off (lyx_ne hy (by decide) (by decide) (by decide))]; exact e19954
  have fr19964 : fz 74 g [6, 7, 11, 12, 13, 14, 15, 18, 19, 21] I I19957 := by rw [eI19957]; exact fzx_fi hy fr19955 (by decide) (by decide)
  clear eI19957
  refine WP_aload_n dX7_forget_81 rfl ?_
  refine WP_getr dX7_forget_82 fX7_48 rfl (lyx_is hy 6 7 rfl) (rfx hr 6 17 19 (by decide)) ?_
  refine WQ_iconst (-1) (-1) dX7_forget_85 rfl rfl (fun v19965 hv19965 => ?_)
  refine WP_callS2u dX7_forget_86 ⟨⟨⟨by decide, by decide⟩, zJ7_fill_53178⟩, lX7_77, tJ7_fill_53178⟩ (s_fill hy hr 19 21 rfl rfl (by decide) v19965) (Nat.le_of_ble_eq_true rfl) ?_
  obtain ⟨I19966, eI19966⟩ : ∃ I9 : pI, I9 = fi I19957 (ad g 19) 21 v19965 := ⟨_, rfl⟩
  rw [← eI19966]
  have hI19966 : XI g n L I19966 := by rw [eI19966]; exact (xi_fill hy hI19957 19 21 v19965 (-1) (0) (999) (by decide) (by decide) (by omega) (by omega))
  have e19967 : I19966 (ad g 1) 1 = L := by rw [eI19966, fi_off (lyx_ne hy (by decide) (by decide) (by decide))]; exact e19958
  have e19968 : I19966 (ad g 6) 0 = v19867 := by rw [eI19966, fi_off (lyx_ne hy (by decide) (by decide) (by decide))]; exact e19959
  have e19969 : I19966 (ad g 6) 1 = v19872 := by rw [eI19966, fi_off (lyx_ne hy (by decide) (by decide) (by decide))]; exact e19960
  have e19970 : I19966 (ad g 6) 2 = v19878 := by rw [eI19966, fi_off (lyx_ne hy (by decide) (by decide) (by decide))]; exact e19961
  have e19971 : I19966 (ad g 6) 3 = v19885 := by rw [eI19966, fi_off (lyx_ne hy (by decide) (by decide) (by decide))]; exact e19962
  have e19972 : I19966 (ad g 6) 4 = v19893 := by rw [eI19966, fi_off (lyx_ne hy (by decide) (by decide) (by decide))]; exact e19963
  have fr19973 : fz 74 g [6, 7, 11, 12, 13, 14, 15, 18, 19, 21] I I19966 := by rw [eI19966]; exact fzx_fi hy fr19964 (by decide) (by decide)
  clear eI19966
  refine WP_aload_n dX7_forget_89 rfl ?_
  refine WP_getr dX7_forget_90 fX7_55 rfl (lyx_is hy 6 7 rfl) (rfx hr 6 19 21 (by decide)) ?_
  refine WQ_iconst (0) (0) dX7_forget_93 rfl rfl (fun v19974 hv19974 => ?_)
  refine WP_callS2u dX7_forget_94 ⟨⟨⟨by decide, by decide⟩, zJ7_fill_53178⟩, lX7_77, tJ7_fill_53178⟩ (s_fill hy hr 21 48 rfl rfl (by decide) v19974) (Nat.le_of_ble_eq_true rfl) ?_
  obtain ⟨I19975, eI19975⟩ : ∃ I9 : pI, I9 = fi I19966 (ad g 21) 48 v19974 := ⟨_, rfl⟩
  rw [← eI19975]
  have hI19975 : XI g n L I19975 := by rw [eI19975]; exact (xi_fill0 hy hI19966 21 48 v19974 (by decide) (by decide))
  have e19976 : I19975 (ad g 1) 1 = L := by rw [eI19975, fi_off (lyx_ne hy (by decide) (by decide) (by decide))]; exact e19967
  have e19977 : I19975 (ad g 6) 0 = v19867 := by rw [eI19975, fi_off (lyx_ne hy (by decide) (by decide) (by decide))]; exact e19968
  have e19978 : I19975 (ad g 6) 1 = v19872 := by rw [eI19975, fi_off (lyx_ne hy (by decide) (by decide) (by decide))]; exact e19969
  have e19979 : I19975 (ad g 6) 2 = v19878 := by rw [eI19975, fi_off (lyx_ne hy (by decide) (by decide) (by decide))]; exact e19970
  have e19980 : I19975 (ad g 6) 3 = v19885 := by rw [eI19975, fi_off (lyx_ne hy (by decide) (by decide) (by decide))]; exact e19971
  have e19981 : I19975 (ad g 6) 4 = v19893 := by rw [eI19975, fi_off (lyx_ne hy (by decide) (by decide) (by decide))]; exact e19972
  have fr19982 : fz 74 g [6, 7, 11, 12, 13, 14, 15, 18, 19, 21] I I19975 := by rw [eI19975]; exact fzx_fi hy fr19973 (by decide) (by decide)
  clear eI19975
  exact WP_vret dX7_forget_97 rfl ⟨⟨hI19975, rfl, fr19982, frj0⟩, rfl⟩
set_option maxHeartbeats 4000000 in
set_option maxRecDepth 100000 in
theorem sx_readTown_6 {g : GG} {n : Int} {L : Int32} (hy : LyX g) {aK aV : Nat → Nat} {fo : Option Nat} (hz : HZ g aK aV fo)  {I : pI} {J : pJ} {R : pR} (hr : RfX g R) (hI : XI g n L I)   : SP g mX3_readTown [.ref (ad g 3), .ref (ad g 6)] I J R (fun r I' J' R' => (XI g n L I' ∧ R' = R ∧ fz 74 g [1, 3, 4, 6, 7, 8, 9, 10, 11, 12, 13, 14, 15, 16, 17, 18, 19, 21] I I' ∧ fz 74 g [1, 20] J J') ∧ ∃ v : Int32, r = some (.int v) ∧ 0 ≤ v.toInt ∧ v.toInt ≤ 1) := by
  refine SP_of ⟨by decide, rfl⟩ (Nat.le_of_ble_eq_true rfl) ?_
  have e19983 : I (ad g 1) 1 = L := hI.2
  have b19984 := BT_get hI.1 1 1 2 (0) (0) (900) (by decide) 1 (by decide) (by decide)
  rw [e19983] at b19984
  have fr0 : fz 74 g [1, 3, 4, 6, 7, 8, 9, 10, 11, 12, 13, 14, 15, 16, 17, 18, 19, 21] I I := fz_rf
  have frj0 : fz 74 g [1, 20] J J := fz_rf
  refine WP_aload_n dX3_readTown_0 rfl ?_
  refine WP_callV0 (k := 7) dX3_readTown_1 ⟨⟨⟨by decide, by decide⟩, zX7_forget⟩, lX3_26, by decide, rfl, vX7_forget.1, vX7_forget.2⟩ (lyx_is hy 6 7 rfl) (sx_forget_6 hy hr hI  ) (Nat.le_of_ble_eq_true rfl) ?_
  intro r I19985 J19986 Ra hq
  obtain ⟨⟨hI19985, ec, fiI19985, fjI19985⟩, rfl⟩ := hq
  rw [ec]
  clear ec Ra
  have fr19987 : fz 74 g [1, 3, 4, 6, 7, 8, 9, 10, 11, 12, 13, 14, 15, 16, 17, 18, 19, 21] I I19985 := fz_tr fr0 (fz_mono fiI19985 (by decide))
  have fr19988 : fz 74 g [1, 20] J J19986 := fz_tr frj0 (fz_mono fjI19985 (by decide))
  have e19989 : I19985 (ad g 1) 1 = L := hI19985.2
  have b19990 := BT_get hI19985.1 1 1 2 (0) (0) (900) (by decide) 1 (by decide) (by decide)
  rw [e19989] at b19990
  refine WP_aload_n dX3_readTown_4 rfl ?_
  refine WQ_iconst (0) (0) dX3_readTown_5 rfl rfl (fun v19991 hv19991 => ?_)
  refine WP_callV1 (k := 3) dX3_readTown_6 ⟨⟨⟨by decide, by decide⟩, zX3_note⟩, lX3_31, by decide, rfl, vX3_note.1, vX3_note.2⟩ (lyx_is hy 3 3 rfl) (sx_notef hy hr hI19985 v19991 ) (Nat.le_of_ble_eq_true rfl) ?_
  intro r I19992 J19993 Ra hq
  obtain ⟨⟨hI19992, ec, fiI19992, fjI19992⟩, rfl⟩ := hq
  rw [ec]
  clear ec Ra
  have fr19994 : fz 74 g [1, 3, 4, 6, 7, 8, 9, 10, 11, 12, 13, 14, 15, 16, 17, 18, 19, 21] I I19992 := fz_tr fr19987 (fz_mono fiI19992 (by decide))
  have fr19995 : fz 74 g [1, 20] J J19993 := fz_tr fr19988 (fz_mono fjI19992 (by decide))
  have e19996 : I19992 (ad g 1) 1 = L := hI19992.2
  have b19997 := BT_get hI19992.1 1 1 2 (0) (0) (900) (by decide) 1 (by decide) (by decide)
  rw [e19996] at b19997
  refine WP_aload_n dX3_readTown_9 rfl ?_
  refine WP_getr dX3_readTown_10 fX3_15 rfl (lyx_is hy 3 3 rfl) (rfx hr 3 2 1 (by decide)) ?_
  refine WP_callV0 (k := 5) dX3_readTown_13 ⟨⟨⟨by decide, by decide⟩, zX5_rewind⟩, lX3_35, by decide, rfl, vX5_rewind.1, vX5_rewind.2⟩ (lyx_is hy 1 5 rfl) (sx_rewindf hy hr hI19992  ) (Nat.le_of_ble_eq_true rfl) ?_
  intro r I19998 J19999 Ra hq
  obtain ⟨⟨hI19998, ec, fiI19998, fjI19998⟩, rfl⟩ := hq
  rw [ec]
  clear ec Ra
  have fr20000 : fz 74 g [1, 3, 4, 6, 7, 8, 9, 10, 11, 12, 13, 14, 15, 16, 17, 18, 19, 21] I I19998 := fz_tr fr19994 (fz_mono fiI19998 (by decide))
  have fr20001 : fz 74 g [1, 20] J J19999 := fz_tr fr19995 (fz_mono fjI19998 (by decide))
  have e20002 : I19998 (ad g 1) 1 = L := hI19998.2
  have b20003 := BT_get hI19998.1 1 1 2 (0) (0) (900) (by decide) 1 (by decide) (by decide)
  rw [e20002] at b20003
  refine WQ_iconst (0) (0) dX3_readTown_16 rfl rfl (fun v20004 hv20004 => ?_)
  refine WP_istore_n (ls' := [(0, _), (1, _), (2, _)]) dX3_readTown_17 (by decide) rfl ?_
  have lp18_20007 : ∀ (mz : Nat) (i20005 : Int32) (I20006 : pI) (J20007 : pJ), XI g n L I20006 → fz 74 g [1, 3, 4, 6, 7, 8, 9, 10, 11, 12, 13, 14, 15, 16, 17, 18, 19, 21] I I20006 → fz 74 g [1, 20] J J20007 → 0 ≤ i20005.toInt → i20005.toInt ≤ 901 → (902 - i20005.toInt).toNat < mz → WP g mX3_readTown 18 [(0, .ref (ad g 3)), (1, .ref (ad g 6)), (2, .int i20005)] [] I20006 J20007 R (fun r I' J' R' => (XI g n L I' ∧ R' = R ∧ fz 74 g [1, 3, 4, 6, 7, 8, 9, 10, 11, 12, 13, 14, 15, 16, 17, 18, 19, 21] I I' ∧ fz 74 g [1, 20] J J') ∧ ∃ v : Int32, r = some (.int v) ∧ 0 ≤ v.toInt ∧ v.toInt ≤ 1) := by
    intro mz
    induction mz with
    | zero =>
      intro i20005 I20006 J20007 hI20006 fiI20006 fjJ20007 ai20005 bi20005 hmlp18_20007
      exact absurd hmlp18_20007 (Nat.not_lt_zero _)
    | succ mz ihlp18_20007 =>
      intro i20005 I20006 J20007 hI20006 fiI20006 fjJ20007 ai20005 bi20005 hmlp18_20007
      have e20009 : I20006 (ad g 1) 1 = L := hI20006.2
      have b20010 := BT_get hI20006.1 1 1 2 (0) (0) (900) (by decide) 1 (by decide) (by decide)
      rw [e20009] at b20010
      refine WP_iload_n dX3_readTown_18 rfl ?_
      refine WQ_sipush (900) (900) dX3_readTown_19 rfl rfl (fun v20011 hv20011 => ?_)
      refine WQ_icmp_gt 114 dX3_readTown_22 rfl (fun c20011 => ?_) (fun c20011 => ?_)
      · refine WQ_iconst (1) (1) dX3_readTown_114 rfl rfl (fun v20013 hv20013 => ?_)
        exact WP_zret dX3_readTown_115 rfl (nar_z (by omega)) ⟨⟨hI20006, rfl, fiI20006, fjJ20007⟩, _, rfl, by omega, by omega⟩
      · refine WP_aload_n dX3_readTown_25 rfl ?_
        refine WP_getr dX3_readTown_26 fX3_15 rfl (lyx_is hy 3 3 rfl) (rfx hr 3 2 1 (by decide)) ?_
        refine WP_callV0 (k := 5) dX3_readTown_29 ⟨⟨⟨by decide, by decide⟩, zX5_next⟩, lX3_40, by decide, rfl, vX5_next.1, vX5_next.2⟩ (lyx_is hy 1 5 rfl) (sx_nextf hy hr hI20006  ) (Nat.le_of_ble_eq_true rfl) ?_
        intro r I20014 J20015 Ra hq
        obtain ⟨⟨hI20014, ec, fiI20014, fjI20014⟩, rfl⟩ := hq
        rw [ec]
        clear ec Ra
        have fr20016 : fz 74 g [1, 3, 4, 6, 7, 8, 9, 10, 11, 12, 13, 14, 15, 16, 17, 18, 19, 21] I I20014 := fz_tr fiI20006 (fz_mono fiI20014 (by decide))
        have fr20017 : fz 74 g [1, 20] J J20015 := fz_tr fjJ20007 (fz_mono fjI20014 (by decide))
        have e20018 : I20014 (ad g 1) 1 = L := hI20014.2
        have b20019 := BT_get hI20014.1 1 1 2 (0) (0) (900) (by decide) 1 (by decide) (by decide)
        rw [e20018] at b20019
        refine WP_aload_n dX3_readTown_32 rfl ?_
        refine WP_getr dX3_readTown_33 fX3_15 rfl (lyx_is hy 3 3 rfl) (rfx hr 3 2 1 (by decide)) ?_
        refine WQ_geti dX3_readTown_36 fX3_43 rfl (lyx_is hy 1 5 rfl) (BT_get hI20014.1 1 2 3 (0) (0) (4) (by decide) 2 (by decide) (by decide)) (fun v20020 ev20020 av20020 bv20020 => ?_)
        refine WQ_if_ne 45 dX3_readTown_39 rfl (fun c20020 => ?_) (fun c20020 => ?_)
        · refine WP_aload_n dX3_readTown_45 rfl ?_
          refine WP_callV0 (k := 3) dX3_readTown_46 ⟨⟨⟨by decide, by decide⟩, zX3_clauseAtHand⟩, lX3_46, by decide, rfl, vX3_clauseAtHand.1, vX3_clauseAtHand.2⟩ (lyx_is hy 3 3 rfl) (sx_clauseAtHand hy hz hr hI20014  ) (Nat.le_of_ble_eq_true rfl) ?_
          intro r Ia Ja Ra hq
          obtain ⟨⟨ea, eb, ec⟩, v20022, rfl, av20022, bv20022⟩ := hq
          show WP _ _ _ _ (.int _ :: _) _ _ _ _
          rw [ea, eb, ec]
          clear ea eb ec Ia Ja Ra
          refine WP_istore_n (ls' := [(0, _), (1, _), (2, _), (3, _)]) dX3_readTown_49 (by decide) rfl ?_
          refine WP_iload_n dX3_readTown_50 rfl ?_
          refine WQ_iconst (-1) (-1) dX3_readTown_51 rfl rfl (fun v20023 hv20023 => ?_)
          refine WQ_icmp_ne 59 dX3_readTown_52 rfl (fun c20023 => ?_) (fun c20023 => ?_)
          · rcases (show (0 ≤ v20022.toInt ∧ v20022.toInt ≤ 0) ∨ (1 ≤ v20022.toInt ∧ v20022.toInt ≤ 1) ∨ (2 ≤ v20022.toInt ∧ v20022.toInt ≤ 2) ∨ (3 ≤ v20022.toInt ∧ v20022.toInt ≤ 3) ∨ (4 ≤ v20022.toInt ∧ v20022.toInt ≤ 4) ∨ (5 ≤ v20022.toInt ∧ v20022.toInt ≤ 5) ∨ (6 ≤ v20022.toInt ∧ v20022.toInt ≤ 6) ∨ (7 ≤ v20022.toInt ∧ v20022.toInt ≤ 7) ∨ (8 ≤ v20022.toInt ∧ v20022.toInt ≤ 8) ∨ (9 ≤ v20022.toInt ∧ v20022.toInt ≤ 9) by omega) with ⟨k20025_0, k20025_1⟩ | ⟨k20025_2, k20025_3⟩ | ⟨k20025_4, k20025_5⟩ | ⟨k20025_6, k20025_7⟩ | ⟨k20025_8, k20025_9⟩ | ⟨k20025_10, k20025_11⟩ | ⟨k20025_12, k20025_13⟩ | ⟨k20025_14, k20025_15⟩ | ⟨k20025_16, k20025_17⟩ | ⟨k20025_18, k20025_19⟩
            · refine WP_aload_n dX3_readTown_59 rfl ?_
              refine WP_iload_n dX3_readTown_60 rfl ?_
              refine WP_callV1 (k := 7) dX3_readTown_61 ⟨⟨⟨by decide, by decide⟩, zX7_faultAhead⟩, lX3_50, by decide, rfl, vX7_faultAhead.1, vX7_faultAhead.2⟩ (lyx_is hy 6 7 rfl) (sx_faultAhead_6_0 hy hr hI20014 v20022 (by omega) (by omega)) (Nat.le_of_ble_eq_true rfl) ?_
              intro r Ia Ja Ra hq
              obtain ⟨⟨ea, eb, ec⟩, v20026, rfl, av20026, bv20026⟩ := hq
              show WP _ _ _ _ (.int _ :: _) _ _ _ _
              rw [ea, eb, ec]
              clear ea eb ec Ia Ja Ra
              refine WP_istore (ls' := [(0, _), (1, _), (2, _), (3, _), (4, _)]) dX3_readTown_64 (by decide) rfl ?_
              refine WP_iload dX3_readTown_66 rfl ?_
              refine WQ_if_ne 86 dX3_readTown_68 rfl (fun c20026 => ?_) (fun c20026 => ?_)
              · refine WP_iload dX3_readTown_86 rfl ?_
                refine WQ_if_eq 99 dX3_readTown_88 rfl (fun c20027 => False.elim (by omega)) (fun c20027 => ?_)
                refine WP_aload_n dX3_readTown_91 rfl ?_
                refine WP_iload dX3_readTown_92 rfl ?_
                refine WP_callV1 (k := 3) dX3_readTown_94 ⟨⟨⟨by decide, by decide⟩, zX3_note⟩, lX3_31, by decide, rfl, vX3_note.1, vX3_note.2⟩ (lyx_is hy 3 3 rfl) (sx_notef hy hr hI20014 v20026 ) (Nat.le_of_ble_eq_true rfl) ?_
                intro r I20029 J20030 Ra hq
                obtain ⟨⟨hI20029, ec, fiI20029, fjI20029⟩, rfl⟩ := hq
                rw [ec]
                clear ec Ra
                have fr20031 : fz 74 g [1, 3, 4, 6, 7, 8, 9, 10, 11, 12, 13, 14, 15, 16, 17, 18, 19, 21] I I20029 := fz_tr fr20016 (fz_mono fiI20029 (by decide))
                have fr20032 : fz 74 g [1, 20] J J20030 := fz_tr fr20017 (fz_mono fjI20029 (by decide))
                have e20033 : I20029 (ad g 1) 2 = v20020 := by rw [fz_at fiI20029 1 (by decide) (by decide)]; exact ev20020
                have e20034 : I20029 (ad g 1) 1 = L := hI20029.2
                have b20035 := BT_get hI20029.1 1 1 2 (0) (0) (900) (by decide) 1 (by decide) (by decide)
                rw [e20034] at b20035
                refine WQ_iconst (0) (0) dX3_readTown_97 rfl rfl (fun v20036 hv20036 => ?_)
                exact WP_zret dX3_readTown_98 rfl (nar_z (by omega)) ⟨⟨hI20029, rfl, fr20031, fr20032⟩, _, rfl, by omega, by omega⟩
              · refine WP_aload_n dX3_readTown_71 rfl ?_
                refine WP_getr dX3_readTown_72 fX3_15 rfl (lyx_is hy 3 3 rfl) (rfx hr 3 2 1 (by decide)) ?_
                refine WP_callV0 (k := 5) dX3_readTown_75 ⟨⟨⟨by decide, by decide⟩, zX5_next⟩, lX3_40, by decide, rfl, vX5_next.1, vX5_next.2⟩ (lyx_is hy 1 5 rfl) (sx_nextf hy hr hI20014  ) (Nat.le_of_ble_eq_true rfl) ?_
                intro r I20037 J20038 Ra hq
                obtain ⟨⟨hI20037, ec, fiI20037, fjI20037⟩, rfl⟩ := hq
                rw [ec]
                clear ec Ra
                have fr20039 : fz 74 g [1, 3, 4, 6, 7, 8, 9, 10, 11, 12, 13, 14, 15, 16, 17, 18, 19, 21] I I20037 := fz_tr fr20016 (fz_mono fiI20037 (by decide))
                have fr20040 : fz 74 g [1, 20] J J20038 := fz_tr fr20017 (fz_mono fjI20037 (by decide))
                have e20041 : I20037 (ad g 1) 1 = L := hI20037.2
                have b20042 := BT_get hI20037.1 1 1 2 (0) (0) (900) (by decide) 1 (by decide) (by decide)
                rw [e20041] at b20042
                refine WP_aload_n dX3_readTown_78 rfl ?_
                refine WP_iload_n dX3_readTown_79 rfl ?_
                refine WP_aload_n dX3_readTown_80 rfl ?_
                refine WP_callV2 (k := 3) dX3_readTown_81 ⟨⟨⟨by decide, by decide⟩, zX3_faultInParts⟩, lX3_54, by decide, rfl, vX3_faultInParts.1, vX3_faultInParts.2⟩ (lyx_is hy 3 3 rfl) (sx_parts_6_0 hy hz hr hI20037 v20022 (by omega) (by omega)) (Nat.le_of_ble_eq_true rfl) ?_
                intro r I20043 J20044 Ra hq
                obtain ⟨⟨hI20043, ec, fiI20043, fjI20043, ⟨pI20043, sI20043_6_1, sI20043_6_2⟩⟩, v20045, rfl, av20045, bv20045, cv20045⟩ := hq
                show WP _ _ _ _ (.int _ :: _) _ _ _ _
                rw [ec]
                clear ec Ra
                have fr20046 : fz 74 g [1, 3, 4, 6, 7, 8, 9, 10, 11, 12, 13, 14, 15, 16, 17, 18, 19, 21] I I20043 := fz_tr fr20039 (fz_mono fiI20043 (by decide))
                have fr20047 : fz 74 g [1, 20] J J20044 := fz_tr fr20040 (fz_mono fjI20043 (by decide))
                have e20048 : I20043 (ad g 1) 1 = L := hI20043.2
                have b20049 := BT_get hI20043.1 1 1 2 (0) (0) (900) (by decide) 1 (by decide) (by decide)
                rw [e20048] at b20049
                obtain ⟨w20050, ew20050⟩ : ∃ w : Int32, I20043 (ad g 4) 0 = w := ⟨_, rfl⟩
                have bw20050 := BT_get hI20043.1 4 0 5 (0) (0) (1000) (by decide) 0 (by decide) (by decide)
                rw [ew20050] at bw20050
                rw [ew20050] at cv20045
                obtain ⟨w20051, ew20051⟩ : ∃ w : Int32, I20043 (ad g 4) 1 = w := ⟨_, rfl⟩
                have bw20051 := BT_get hI20043.1 4 0 5 (0) (0) (1000) (by decide) 1 (by decide) (by decide)
                rw [ew20051] at bw20051
                rw [ew20051] at cv20045
                refine WP_istore (ls' := [(0, _), (1, _), (2, _), (3, _), (4, _)]) dX3_readTown_84 (by decide) rfl ?_
                refine WP_iload dX3_readTown_86 rfl ?_
                refine WQ_if_eq 99 dX3_readTown_88 rfl (fun c20051 => ?_) (fun c20051 => ?_)
                · refine WP_aload_n dX3_readTown_99 rfl ?_
                  refine WP_iload_n dX3_readTown_100 rfl ?_
                  refine WP_aload_n dX3_readTown_101 rfl ?_
                  refine WP_getr dX3_readTown_102 fX3_9 rfl (lyx_is hy 3 3 rfl) (rfx hr 3 3 4 (by decide)) ?_
                  refine WP_callV2 (k := 7) dX3_readTown_105 ⟨⟨⟨by decide, by decide⟩, zX7_tell⟩, lX3_58, by decide, rfl, vX7_tell.1, vX7_tell.2⟩ (lyx_is hy 6 7 rfl) (sx_tell_6_0 hy hr hI20043 v20022 (by omega) (by omega) (by rw [ew20050, ew20051]; omega)) (Nat.le_of_ble_eq_true rfl) ?_
                  intro r I20053 J20054 Ra hq
                  obtain ⟨⟨hI20053, ec, fiI20053, fjI20053, pI20053⟩, rfl⟩ := hq
                  rw [ec]
                  clear ec Ra
                  have fr20055 : fz 74 g [1, 3, 4, 6, 7, 8, 9, 10, 11, 12, 13, 14, 15, 16, 17, 18, 19, 21] I I20053 := fz_tr fr20046 (fz_mono fiI20053 (by decide))
                  have fr20056 : fz 74 g [1, 20] J J20054 := fz_tr fr20047 (fz_mono fjI20053 (by decide))
                  have e20057 : I20053 (ad g 1) 1 = L := hI20053.2
                  have b20058 := BT_get hI20053.1 1 1 2 (0) (0) (900) (by decide) 1 (by decide) (by decide)
                  rw [e20057] at b20058
                  refine WP_iinc (ls' := [(0, _), (1, _), (2, _), (3, _), (4, _)]) dX3_readTown_108 rfl (by decide) rfl ?_
                  have hv20059 : (i20005 + Int32.ofInt (1)).toInt = i20005.toInt + (1) := ia_n rfl (by omega) (by omega)
                  generalize i20005 + Int32.ofInt (1) = v20059 at hv20059 ⊢
                  refine WP_goto 18 dX3_readTown_111 rfl ?_
                  exact WP_sub (fc rfl (fc rfl (fc rfl fn))) (ihlp18_20007 v20059 I20053 J20054 hI20053 fr20055 fr20056 (by omega) (by omega) (by omega))
                · refine WP_aload_n dX3_readTown_91 rfl ?_
                  refine WP_iload dX3_readTown_92 rfl ?_
                  refine WP_callV1 (k := 3) dX3_readTown_94 ⟨⟨⟨by decide, by decide⟩, zX3_note⟩, lX3_31, by decide, rfl, vX3_note.1, vX3_note.2⟩ (lyx_is hy 3 3 rfl) (sx_notef hy hr hI20043 v20045 ) (Nat.le_of_ble_eq_true rfl) ?_
                  intro r I20060 J20061 Ra hq
                  obtain ⟨⟨hI20060, ec, fiI20060, fjI20060⟩, rfl⟩ := hq
                  rw [ec]
                  clear ec Ra
                  have fr20062 : fz 74 g [1, 3, 4, 6, 7, 8, 9, 10, 11, 12, 13, 14, 15, 16, 17, 18, 19, 21] I I20060 := fz_tr fr20046 (fz_mono fiI20060 (by decide))
                  have fr20063 : fz 74 g [1, 20] J J20061 := fz_tr fr20047 (fz_mono fjI20060 (by decide))
                  have e20064 : I20060 (ad g 4) 0 = w20050 := by rw [fz_at fiI20060 4 (by decide) (by decide)]; exact ew20050
                  have e20065 : I20060 (ad g 4) 1 = w20051 := by rw [fz_at fiI20060 4 (by decide) (by decide)]; exact ew20051
                  have e20066 : I20060 (ad g 1) 1 = L := hI20060.2
                  have b20067 := BT_get hI20060.1 1 1 2 (0) (0) (900) (by decide) 1 (by decide) (by decide)
                  rw [e20066] at b20067
                  refine WQ_iconst (0) (0) dX3_readTown_97 rfl rfl (fun v20068 hv20068 => ?_)
                  exact WP_zret dX3_readTown_98 rfl (nar_z (by omega)) ⟨⟨hI20060, rfl, fr20062, fr20063⟩, _, rfl, by omega, by omega⟩
            · refine WP_aload_n dX3_readTown_59 rfl ?_
              refine WP_iload_n dX3_readTown_60 rfl ?_
              refine WP_callV1 (k := 7) dX3_readTown_61 ⟨⟨⟨by decide, by decide⟩, zX7_faultAhead⟩, lX3_50, by decide, rfl, vX7_faultAhead.1, vX7_faultAhead.2⟩ (lyx_is hy 6 7 rfl) (sx_faultAhead_6_1 hy hr hI20014 v20022 (by omega) (by omega)) (Nat.le_of_ble_eq_true rfl) ?_
              intro r Ia Ja Ra hq
              obtain ⟨⟨ea, eb, ec⟩, v20069, rfl, av20069, bv20069, cv20069⟩ := hq
              show WP _ _ _ _ (.int _ :: _) _ _ _ _
              rw [ea, eb, ec]
              clear ea eb ec Ia Ja Ra
              obtain ⟨w20070, ew20070⟩ : ∃ w : Int32, I20014 (ad g 6) 1 = w := ⟨_, rfl⟩
              have bw20070 := BT_get hI20014.1 6 1 2 (0) (0) (4) (by decide) 1 (by decide) (by decide)
              rw [ew20070] at bw20070
              rw [ew20070] at cv20069
              refine WP_istore (ls' := [(0, _), (1, _), (2, _), (3, _), (4, _)]) dX3_readTown_64 (by decide) rfl ?_
              refine WP_iload dX3_readTown_66 rfl ?_
              refine WQ_if_ne 86 dX3_readTown_68 rfl (fun c20070 => ?_) (fun c20070 => ?_)
              · refine WP_iload dX3_readTown_86 rfl ?_
                refine WQ_if_eq 99 dX3_readTown_88 rfl (fun c20071 => False.elim (by omega)) (fun c20071 => ?_)
                refine WP_aload_n dX3_readTown_91 rfl ?_
                refine WP_iload dX3_readTown_92 rfl ?_
                refine WP_callV1 (k := 3) dX3_readTown_94 ⟨⟨⟨by decide, by decide⟩, zX3_note⟩, lX3_31, by decide, rfl, vX3_note.1, vX3_note.2⟩ (lyx_is hy 3 3 rfl) (sx_notef hy hr hI20014 v20069 ) (Nat.le_of_ble_eq_true rfl) ?_
                intro r I20073 J20074 Ra hq
                obtain ⟨⟨hI20073, ec, fiI20073, fjI20073⟩, rfl⟩ := hq
                rw [ec]
                clear ec Ra
                have fr20075 : fz 74 g [1, 3, 4, 6, 7, 8, 9, 10, 11, 12, 13, 14, 15, 16, 17, 18, 19, 21] I I20073 := fz_tr fr20016 (fz_mono fiI20073 (by decide))
                have fr20076 : fz 74 g [1, 20] J J20074 := fz_tr fr20017 (fz_mono fjI20073 (by decide))
                have e20077 : I20073 (ad g 1) 2 = v20020 := by rw [fz_at fiI20073 1 (by decide) (by decide)]; exact ev20020
                have e20078 : I20073 (ad g 6) 1 = w20070 := by rw [fz_at fiI20073 6 (by decide) (by decide)]; exact ew20070
                have e20079 : I20073 (ad g 1) 1 = L := hI20073.2
                have b20080 := BT_get hI20073.1 1 1 2 (0) (0) (900) (by decide) 1 (by decide) (by decide)
                rw [e20079] at b20080
                refine WQ_iconst (0) (0) dX3_readTown_97 rfl rfl (fun v20081 hv20081 => ?_)
                exact WP_zret dX3_readTown_98 rfl (nar_z (by omega)) ⟨⟨hI20073, rfl, fr20075, fr20076⟩, _, rfl, by omega, by omega⟩
              · refine WP_aload_n dX3_readTown_71 rfl ?_
                refine WP_getr dX3_readTown_72 fX3_15 rfl (lyx_is hy 3 3 rfl) (rfx hr 3 2 1 (by decide)) ?_
                refine WP_callV0 (k := 5) dX3_readTown_75 ⟨⟨⟨by decide, by decide⟩, zX5_next⟩, lX3_40, by decide, rfl, vX5_next.1, vX5_next.2⟩ (lyx_is hy 1 5 rfl) (sx_nextf hy hr hI20014  ) (Nat.le_of_ble_eq_true rfl) ?_
                intro r I20082 J20083 Ra hq
                obtain ⟨⟨hI20082, ec, fiI20082, fjI20082⟩, rfl⟩ := hq
                rw [ec]
                clear ec Ra
                have fr20084 : fz 74 g [1, 3, 4, 6, 7, 8, 9, 10, 11, 12, 13, 14, 15, 16, 17, 18, 19, 21] I I20082 := fz_tr fr20016 (fz_mono fiI20082 (by decide))
                have fr20085 : fz 74 g [1, 20] J J20083 := fz_tr fr20017 (fz_mono fjI20082 (by decide))
                have e20086 : I20082 (ad g 6) 1 = w20070 := by rw [fz_at fiI20082 6 (by decide) (by decide)]; exact ew20070
                have e20087 : I20082 (ad g 1) 1 = L := hI20082.2
                have b20088 := BT_get hI20082.1 1 1 2 (0) (0) (900) (by decide) 1 (by decide) (by decide)
                rw [e20087] at b20088
                refine WP_aload_n dX3_readTown_78 rfl ?_
                refine WP_iload_n dX3_readTown_79 rfl ?_
                refine WP_aload_n dX3_readTown_80 rfl ?_
                refine WP_callV2 (k := 3) dX3_readTown_81 ⟨⟨⟨by decide, by decide⟩, zX3_faultInParts⟩, lX3_54, by decide, rfl, vX3_faultInParts.1, vX3_faultInParts.2⟩ (lyx_is hy 3 3 rfl) (sx_parts_6_1 hy hz hr hI20082 v20022 (by omega) (by omega) (by rw [e20086]; omega)) (Nat.le_of_ble_eq_true rfl) ?_
                intro r I20089 J20090 Ra hq
                obtain ⟨⟨hI20089, ec, fiI20089, fjI20089, ⟨pI20089, sI20089_6_1, sI20089_6_2⟩⟩, v20091, rfl, av20091, bv20091, cv20091⟩ := hq
                show WP _ _ _ _ (.int _ :: _) _ _ _ _
                rw [ec]
                clear ec Ra
                have fr20092 : fz 74 g [1, 3, 4, 6, 7, 8, 9, 10, 11, 12, 13, 14, 15, 16, 17, 18, 19, 21] I I20089 := fz_tr fr20084 (fz_mono fiI20089 (by decide))
                have fr20093 : fz 74 g [1, 20] J J20090 := fz_tr fr20085 (fz_mono fjI20089 (by decide))
                have e20094 : I20089 (ad g 6) 1 = w20070 := by rw [sI20089_6_1]; exact e20086
                have e20095 : I20089 (ad g 1) 1 = L := hI20089.2
                have b20096 := BT_get hI20089.1 1 1 2 (0) (0) (900) (by decide) 1 (by decide) (by decide)
                rw [e20095] at b20096
                obtain ⟨w20097, ew20097⟩ : ∃ w : Int32, I20089 (ad g 4) 1 = w := ⟨_, rfl⟩
                have bw20097 := BT_get hI20089.1 4 0 5 (0) (0) (1000) (by decide) 1 (by decide) (by decide)
                rw [ew20097] at bw20097
                rw [ew20097] at cv20091
                obtain ⟨w20098, ew20098⟩ : ∃ w : Int32, I20089 (ad g 4) 2 = w := ⟨_, rfl⟩
                have bw20098 := BT_get hI20089.1 4 0 5 (0) (0) (1000) (by decide) 2 (by decide) (by decide)
                rw [ew20098] at bw20098
                rw [ew20098] at cv20091
                obtain ⟨w20099, ew20099⟩ : ∃ w : Int32, I20089 (ad g 4) 3 = w := ⟨_, rfl⟩
                have bw20099 := BT_get hI20089.1 4 0 5 (0) (0) (1000) (by decide) 3 (by decide) (by decide)
                rw [ew20099] at bw20099
                rw [ew20099] at cv20091
                refine WP_istore (ls' := [(0, _), (1, _), (2, _), (3, _), (4, _)]) dX3_readTown_84 (by decide) rfl ?_
                refine WP_iload dX3_readTown_86 rfl ?_
                refine WQ_if_eq 99 dX3_readTown_88 rfl (fun c20099 => ?_) (fun c20099 => ?_)
                · refine WP_aload_n dX3_readTown_99 rfl ?_
                  refine WP_iload_n dX3_readTown_100 rfl ?_
                  refine WP_aload_n dX3_readTown_101 rfl ?_
                  refine WP_getr dX3_readTown_102 fX3_9 rfl (lyx_is hy 3 3 rfl) (rfx hr 3 3 4 (by decide)) ?_
                  refine WP_callV2 (k := 7) dX3_readTown_105 ⟨⟨⟨by decide, by decide⟩, zX7_tell⟩, lX3_58, by decide, rfl, vX7_tell.1, vX7_tell.2⟩ (lyx_is hy 6 7 rfl) (sx_tell_6_1 hy hr hI20089 v20022 (by omega) (by omega) (by rw [ew20097, ew20098, ew20099, e20094]; omega)) (Nat.le_of_ble_eq_true rfl) ?_
                  intro r I20101 J20102 Ra hq
                  obtain ⟨⟨hI20101, ec, fiI20101, fjI20101, pI20101⟩, rfl⟩ := hq
                  rw [ec]
                  clear ec Ra
                  have fr20103 : fz 74 g [1, 3, 4, 6, 7, 8, 9, 10, 11, 12, 13, 14, 15, 16, 17, 18, 19, 21] I I20101 := fz_tr fr20092 (fz_mono fiI20101 (by decide))
                  have fr20104 : fz 74 g [1, 20] J J20102 := fz_tr fr20093 (fz_mono fjI20101 (by decide))
                  have e20105 : I20101 (ad g 1) 1 = L := hI20101.2
                  have b20106 := BT_get hI20101.1 1 1 2 (0) (0) (900) (by decide) 1 (by decide) (by decide)
                  rw [e20105] at b20106
                  refine WP_iinc (ls' := [(0, _), (1, _), (2, _), (3, _), (4, _)]) dX3_readTown_108 rfl (by decide) rfl ?_
                  have hv20107 : (i20005 + Int32.ofInt (1)).toInt = i20005.toInt + (1) := ia_n rfl (by omega) (by omega)
                  generalize i20005 + Int32.ofInt (1) = v20107 at hv20107 ⊢
                  refine WP_goto 18 dX3_readTown_111 rfl ?_
                  exact WP_sub (fc rfl (fc rfl (fc rfl fn))) (ihlp18_20007 v20107 I20101 J20102 hI20101 fr20103 fr20104 (by omega) (by omega) (by omega))
                · refine WP_aload_n dX3_readTown_91 rfl ?_
                  refine WP_iload dX3_readTown_92 rfl ?_
                  refine WP_callV1 (k := 3) dX3_readTown_94 ⟨⟨⟨by decide, by decide⟩, zX3_note⟩, lX3_31, by decide, rfl, vX3_note.1, vX3_note.2⟩ (lyx_is hy 3 3 rfl) (sx_notef hy hr hI20089 v20091 ) (Nat.le_of_ble_eq_true rfl) ?_
                  intro r I20108 J20109 Ra hq
                  obtain ⟨⟨hI20108, ec, fiI20108, fjI20108⟩, rfl⟩ := hq
                  rw [ec]
                  clear ec Ra
                  have fr20110 : fz 74 g [1, 3, 4, 6, 7, 8, 9, 10, 11, 12, 13, 14, 15, 16, 17, 18, 19, 21] I I20108 := fz_tr fr20092 (fz_mono fiI20108 (by decide))
                  have fr20111 : fz 74 g [1, 20] J J20109 := fz_tr fr20093 (fz_mono fjI20108 (by decide))
                  have e20112 : I20108 (ad g 6) 1 = w20070 := by rw [fz_at fiI20108 6 (by decide) (by decide)]; exact e20094
                  have e20113 : I20108 (ad g 4) 1 = w20097 := by rw [fz_at fiI20108 4 (by decide) (by decide)]; exact ew20097
                  have e20114 : I20108 (ad g 4) 2 = w20098 := by rw [fz_at fiI20108 4 (by decide) (by decide)]; exact ew20098
                  have e20115 : I20108 (ad g 4) 3 = w20099 := by rw [fz_at fiI20108 4 (by decide) (by decide)]; exact ew20099
                  have e20116 : I20108 (ad g 1) 1 = L := hI20108.2
                  have b20117 := BT_get hI20108.1 1 1 2 (0) (0) (900) (by decide) 1 (by decide) (by decide)
                  rw [e20116] at b20117
                  refine WQ_iconst (0) (0) dX3_readTown_97 rfl rfl (fun v20118 hv20118 => ?_)
                  exact WP_zret dX3_readTown_98 rfl (nar_z (by omega)) ⟨⟨hI20108, rfl, fr20110, fr20111⟩, _, rfl, by omega, by omega⟩
            · refine WP_aload_n dX3_readTown_59 rfl ?_
              refine WP_iload_n dX3_readTown_60 rfl ?_
              refine WP_callV1 (k := 7) dX3_readTown_61 ⟨⟨⟨by decide, by decide⟩, zX7_faultAhead⟩, lX3_50, by decide, rfl, vX7_faultAhead.1, vX7_faultAhead.2⟩ (lyx_is hy 6 7 rfl) (sx_faultAhead_6_2 hy hr hI20014 v20022 (by omega) (by omega)) (Nat.le_of_ble_eq_true rfl) ?_
              intro r Ia Ja Ra hq
              obtain ⟨⟨ea, eb, ec⟩, v20119, rfl, av20119, bv20119, cv20119⟩ := hq
              show WP _ _ _ _ (.int _ :: _) _ _ _ _
              rw [ea, eb, ec]
              clear ea eb ec Ia Ja Ra
              obtain ⟨w20120, ew20120⟩ : ∃ w : Int32, I20014 (ad g 6) 2 = w := ⟨_, rfl⟩
              have bw20120 := BT_get hI20014.1 6 2 3 (0) (0) (3) (by decide) 2 (by decide) (by decide)
              rw [ew20120] at bw20120
              rw [ew20120] at cv20119
              refine WP_istore (ls' := [(0, _), (1, _), (2, _), (3, _), (4, _)]) dX3_readTown_64 (by decide) rfl ?_
              refine WP_iload dX3_readTown_66 rfl ?_
              refine WQ_if_ne 86 dX3_readTown_68 rfl (fun c20120 => ?_) (fun c20120 => ?_)
              · refine WP_iload dX3_readTown_86 rfl ?_
                refine WQ_if_eq 99 dX3_readTown_88 rfl (fun c20121 => False.elim (by omega)) (fun c20121 => ?_)
                refine WP_aload_n dX3_readTown_91 rfl ?_
                refine WP_iload dX3_readTown_92 rfl ?_
                refine WP_callV1 (k := 3) dX3_readTown_94 ⟨⟨⟨by decide, by decide⟩, zX3_note⟩, lX3_31, by decide, rfl, vX3_note.1, vX3_note.2⟩ (lyx_is hy 3 3 rfl) (sx_notef hy hr hI20014 v20119 ) (Nat.le_of_ble_eq_true rfl) ?_
                intro r I20123 J20124 Ra hq
                obtain ⟨⟨hI20123, ec, fiI20123, fjI20123⟩, rfl⟩ := hq
                rw [ec]
                clear ec Ra
                have fr20125 : fz 74 g [1, 3, 4, 6, 7, 8, 9, 10, 11, 12, 13, 14, 15, 16, 17, 18, 19, 21] I I20123 := fz_tr fr20016 (fz_mono fiI20123 (by decide))
                have fr20126 : fz 74 g [1, 20] J J20124 := fz_tr fr20017 (fz_mono fjI20123 (by decide))
                have e20127 : I20123 (ad g 1) 2 = v20020 := by rw [fz_at fiI20123 1 (by decide) (by decide)]; exact ev20020
                have e20128 : I20123 (ad g 6) 2 = w20120 := by rw [fz_at fiI20123 6 (by decide) (by decide)]; exact ew20120
                have e20129 : I20123 (ad g 1) 1 = L := hI20123.2
                have b20130 := BT_get hI20123.1 1 1 2 (0) (0) (900) (by decide) 1 (by decide) (by decide)
                rw [e20129] at b20130
                refine WQ_iconst (0) (0) dX3_readTown_97 rfl rfl (fun v20131 hv20131 => ?_)
                exact WP_zret dX3_readTown_98 rfl (nar_z (by omega)) ⟨⟨hI20123, rfl, fr20125, fr20126⟩, _, rfl, by omega, by omega⟩
              · refine WP_aload_n dX3_readTown_71 rfl ?_
                refine WP_getr dX3_readTown_72 fX3_15 rfl (lyx_is hy 3 3 rfl) (rfx hr 3 2 1 (by decide)) ?_
                refine WP_callV0 (k := 5) dX3_readTown_75 ⟨⟨⟨by decide, by decide⟩, zX5_next⟩, lX3_40, by decide, rfl, vX5_next.1, vX5_next.2⟩ (lyx_is hy 1 5 rfl) (sx_nextf hy hr hI20014  ) (Nat.le_of_ble_eq_true rfl) ?_
                intro r I20132 J20133 Ra hq
                obtain ⟨⟨hI20132, ec, fiI20132, fjI20132⟩, rfl⟩ := hq
                rw [ec]
                clear ec Ra
                have fr20134 : fz 74 g [1, 3, 4, 6, 7, 8, 9, 10, 11, 12, 13, 14, 15, 16, 17, 18, 19, 21] I I20132 := fz_tr fr20016 (fz_mono fiI20132 (by decide))
                have fr20135 : fz 74 g [1, 20] J J20133 := fz_tr fr20017 (fz_mono fjI20132 (by decide))
                have e20136 : I20132 (ad g 6) 2 = w20120 := by rw [fz_at fiI20132 6 (by decide) (by decide)]; exact ew20120
                have e20137 : I20132 (ad g 1) 1 = L := hI20132.2
                have b20138 := BT_get hI20132.1 1 1 2 (0) (0) (900) (by decide) 1 (by decide) (by decide)
                rw [e20137] at b20138
                refine WP_aload_n dX3_readTown_78 rfl ?_
                refine WP_iload_n dX3_readTown_79 rfl ?_
                refine WP_aload_n dX3_readTown_80 rfl ?_
                refine WP_callV2 (k := 3) dX3_readTown_81 ⟨⟨⟨by decide, by decide⟩, zX3_faultInParts⟩, lX3_54, by decide, rfl, vX3_faultInParts.1, vX3_faultInParts.2⟩ (lyx_is hy 3 3 rfl) (sx_parts_6_2 hy hz hr hI20132 v20022 (by omega) (by omega) (by rw [e20136]; omega)) (Nat.le_of_ble_eq_true rfl) ?_
                intro r I20139 J20140 Ra hq
                obtain ⟨⟨hI20139, ec, fiI20139, fjI20139, ⟨pI20139, sI20139_6_1, sI20139_6_2⟩⟩, v20141, rfl, av20141, bv20141, cv20141⟩ := hq
                show WP _ _ _ _ (.int _ :: _) _ _ _ _
                rw [ec]
                clear ec Ra
                have fr20142 : fz 74 g [1, 3, 4, 6, 7, 8, 9, 10, 11, 12, 13, 14, 15, 16, 17, 18, 19, 21] I I20139 := fz_tr fr20134 (fz_mono fiI20139 (by decide))
                have fr20143 : fz 74 g [1, 20] J J20140 := fz_tr fr20135 (fz_mono fjI20139 (by decide))
                have e20144 : I20139 (ad g 6) 2 = w20120 := by rw [sI20139_6_2]; exact e20136
                have e20145 : I20139 (ad g 1) 1 = L := hI20139.2
                have b20146 := BT_get hI20139.1 1 1 2 (0) (0) (900) (by decide) 1 (by decide) (by decide)
                rw [e20145] at b20146
                obtain ⟨w20147, ew20147⟩ : ∃ w : Int32, I20139 (ad g 4) 1 = w := ⟨_, rfl⟩
                have bw20147 := BT_get hI20139.1 4 0 5 (0) (0) (1000) (by decide) 1 (by decide) (by decide)
                rw [ew20147] at bw20147
                rw [ew20147] at cv20141
                obtain ⟨w20148, ew20148⟩ : ∃ w : Int32, I20139 (ad g 4) 2 = w := ⟨_, rfl⟩
                have bw20148 := BT_get hI20139.1 4 0 5 (0) (0) (1000) (by decide) 2 (by decide) (by decide)
                rw [ew20148] at bw20148
                rw [ew20148] at cv20141
                refine WP_istore (ls' := [(0, _), (1, _), (2, _), (3, _), (4, _)]) dX3_readTown_84 (by decide) rfl ?_
                refine WP_iload dX3_readTown_86 rfl ?_
                refine WQ_if_eq 99 dX3_readTown_88 rfl (fun c20148 => ?_) (fun c20148 => ?_)
                · refine WP_aload_n dX3_readTown_99 rfl ?_
                  refine WP_iload_n dX3_readTown_100 rfl ?_
                  refine WP_aload_n dX3_readTown_101 rfl ?_
                  refine WP_getr dX3_readTown_102 fX3_9 rfl (lyx_is hy 3 3 rfl) (rfx hr 3 3 4 (by decide)) ?_
                  refine WP_callV2 (k := 7) dX3_readTown_105 ⟨⟨⟨by decide, by decide⟩, zX7_tell⟩, lX3_58, by decide, rfl, vX7_tell.1, vX7_tell.2⟩ (lyx_is hy 6 7 rfl) (sx_tell_6_2 hy hr hI20139 v20022 (by omega) (by omega) (by rw [ew20147, ew20148, e20144]; omega)) (Nat.le_of_ble_eq_true rfl) ?_
                  intro r I20150 J20151 Ra hq
                  obtain ⟨⟨hI20150, ec, fiI20150, fjI20150, pI20150⟩, rfl⟩ := hq
                  rw [ec]
                  clear ec Ra
                  have fr20152 : fz 74 g [1, 3, 4, 6, 7, 8, 9, 10, 11, 12, 13, 14, 15, 16, 17, 18, 19, 21] I I20150 := fz_tr fr20142 (fz_mono fiI20150 (by decide))
                  have fr20153 : fz 74 g [1, 20] J J20151 := fz_tr fr20143 (fz_mono fjI20150 (by decide))
                  have e20154 : I20150 (ad g 1) 1 = L := hI20150.2
                  have b20155 := BT_get hI20150.1 1 1 2 (0) (0) (900) (by decide) 1 (by decide) (by decide)
                  rw [e20154] at b20155
                  refine WP_iinc (ls' := [(0, _), (1, _), (2, _), (3, _), (4, _)]) dX3_readTown_108 rfl (by decide) rfl ?_
                  have hv20156 : (i20005 + Int32.ofInt (1)).toInt = i20005.toInt + (1) := ia_n rfl (by omega) (by omega)
                  generalize i20005 + Int32.ofInt (1) = v20156 at hv20156 ⊢
                  refine WP_goto 18 dX3_readTown_111 rfl ?_
                  exact WP_sub (fc rfl (fc rfl (fc rfl fn))) (ihlp18_20007 v20156 I20150 J20151 hI20150 fr20152 fr20153 (by omega) (by omega) (by omega))
                · refine WP_aload_n dX3_readTown_91 rfl ?_
                  refine WP_iload dX3_readTown_92 rfl ?_
                  refine WP_callV1 (k := 3) dX3_readTown_94 ⟨⟨⟨by decide, by decide⟩, zX3_note⟩, lX3_31, by decide, rfl, vX3_note.1, vX3_note.2⟩ (lyx_is hy 3 3 rfl) (sx_notef hy hr hI20139 v20141 ) (Nat.le_of_ble_eq_true rfl) ?_
                  intro r I20157 J20158 Ra hq
                  obtain ⟨⟨hI20157, ec, fiI20157, fjI20157⟩, rfl⟩ := hq
                  rw [ec]
                  clear ec Ra
                  have fr20159 : fz 74 g [1, 3, 4, 6, 7, 8, 9, 10, 11, 12, 13, 14, 15, 16, 17, 18, 19, 21] I I20157 := fz_tr fr20142 (fz_mono fiI20157 (by decide))
                  have fr20160 : fz 74 g [1, 20] J J20158 := fz_tr fr20143 (fz_mono fjI20157 (by decide))
                  have e20161 : I20157 (ad g 6) 2 = w20120 := by rw [fz_at fiI20157 6 (by decide) (by decide)]; exact e20144
                  have e20162 : I20157 (ad g 4) 1 = w20147 := by rw [fz_at fiI20157 4 (by decide) (by decide)]; exact ew20147
                  have e20163 : I20157 (ad g 4) 2 = w20148 := by rw [fz_at fiI20157 4 (by decide) (by decide)]; exact ew20148
                  have e20164 : I20157 (ad g 1) 1 = L := hI20157.2
                  have b20165 := BT_get hI20157.1 1 1 2 (0) (0) (900) (by decide) 1 (by decide) (by decide)
                  rw [e20164] at b20165
                  refine WQ_iconst (0) (0) dX3_readTown_97 rfl rfl (fun v20166 hv20166 => ?_)
                  exact WP_zret dX3_readTown_98 rfl (nar_z (by omega)) ⟨⟨hI20157, rfl, fr20159, fr20160⟩, _, rfl, by omega, by omega⟩
            · refine WP_aload_n dX3_readTown_59 rfl ?_
              refine WP_iload_n dX3_readTown_60 rfl ?_
              refine WP_callV1 (k := 7) dX3_readTown_61 ⟨⟨⟨by decide, by decide⟩, zX7_faultAhead⟩, lX3_50, by decide, rfl, vX7_faultAhead.1, vX7_faultAhead.2⟩ (lyx_is hy 6 7 rfl) (sx_faultAhead_6_3 hy hr hI20014 v20022 (by omega) (by omega)) (Nat.le_of_ble_eq_true rfl) ?_
              intro r Ia Ja Ra hq
              obtain ⟨⟨ea, eb, ec⟩, v20167, rfl, av20167, bv20167⟩ := hq
              show WP _ _ _ _ (.int _ :: _) _ _ _ _
              rw [ea, eb, ec]
              clear ea eb ec Ia Ja Ra
              refine WP_istore (ls' := [(0, _), (1, _), (2, _), (3, _), (4, _)]) dX3_readTown_64 (by decide) rfl ?_
              refine WP_iload dX3_readTown_66 rfl ?_
              refine WQ_if_ne 86 dX3_readTown_68 rfl (fun c20167 => ?_) (fun c20167 => ?_)
              · refine WP_iload dX3_readTown_86 rfl ?_
                refine WQ_if_eq 99 dX3_readTown_88 rfl (fun c20168 => False.elim (by omega)) (fun c20168 => ?_)
                refine WP_aload_n dX3_readTown_91 rfl ?_
                refine WP_iload dX3_readTown_92 rfl ?_
                refine WP_callV1 (k := 3) dX3_readTown_94 ⟨⟨⟨by decide, by decide⟩, zX3_note⟩, lX3_31, by decide, rfl, vX3_note.1, vX3_note.2⟩ (lyx_is hy 3 3 rfl) (sx_notef hy hr hI20014 v20167 ) (Nat.le_of_ble_eq_true rfl) ?_
                intro r I20170 J20171 Ra hq
                obtain ⟨⟨hI20170, ec, fiI20170, fjI20170⟩, rfl⟩ := hq
                rw [ec]
                clear ec Ra
                have fr20172 : fz 74 g [1, 3, 4, 6, 7, 8, 9, 10, 11, 12, 13, 14, 15, 16, 17, 18, 19, 21] I I20170 := fz_tr fr20016 (fz_mono fiI20170 (by decide))
                have fr20173 : fz 74 g [1, 20] J J20171 := fz_tr fr20017 (fz_mono fjI20170 (by decide))
                have e20174 : I20170 (ad g 1) 2 = v20020 := by rw [fz_at fiI20170 1 (by decide) (by decide)]; exact ev20020
                have e20175 : I20170 (ad g 1) 1 = L := hI20170.2
                have b20176 := BT_get hI20170.1 1 1 2 (0) (0) (900) (by decide) 1 (by decide) (by decide)
                rw [e20175] at b20176
                refine WQ_iconst (0) (0) dX3_readTown_97 rfl rfl (fun v20177 hv20177 => ?_)
                exact WP_zret dX3_readTown_98 rfl (nar_z (by omega)) ⟨⟨hI20170, rfl, fr20172, fr20173⟩, _, rfl, by omega, by omega⟩
              · refine WP_aload_n dX3_readTown_71 rfl ?_
                refine WP_getr dX3_readTown_72 fX3_15 rfl (lyx_is hy 3 3 rfl) (rfx hr 3 2 1 (by decide)) ?_
                refine WP_callV0 (k := 5) dX3_readTown_75 ⟨⟨⟨by decide, by decide⟩, zX5_next⟩, lX3_40, by decide, rfl, vX5_next.1, vX5_next.2⟩ (lyx_is hy 1 5 rfl) (sx_nextf hy hr hI20014  ) (Nat.le_of_ble_eq_true rfl) ?_
                intro r I20178 J20179 Ra hq
                obtain ⟨⟨hI20178, ec, fiI20178, fjI20178⟩, rfl⟩ := hq
                rw [ec]
                clear ec Ra
                have fr20180 : fz 74 g [1, 3, 4, 6, 7, 8, 9, 10, 11, 12, 13, 14, 15, 16, 17, 18, 19, 21] I I20178 := fz_tr fr20016 (fz_mono fiI20178 (by decide))
                have fr20181 : fz 74 g [1, 20] J J20179 := fz_tr fr20017 (fz_mono fjI20178 (by decide))
                have e20182 : I20178 (ad g 1) 1 = L := hI20178.2
                have b20183 := BT_get hI20178.1 1 1 2 (0) (0) (900) (by decide) 1 (by decide) (by decide)
                rw [e20182] at b20183
                refine WP_aload_n dX3_readTown_78 rfl ?_
                refine WP_iload_n dX3_readTown_79 rfl ?_
                refine WP_aload_n dX3_readTown_80 rfl ?_
                refine WP_callV2 (k := 3) dX3_readTown_81 ⟨⟨⟨by decide, by decide⟩, zX3_faultInParts⟩, lX3_54, by decide, rfl, vX3_faultInParts.1, vX3_faultInParts.2⟩ (lyx_is hy 3 3 rfl) (sx_parts_6_3 hy hz hr hI20178 v20022 (by omega) (by omega)) (Nat.le_of_ble_eq_true rfl) ?_
                intro r I20184 J20185 Ra hq
                obtain ⟨⟨hI20184, ec, fiI20184, fjI20184, ⟨pI20184, sI20184_6_1, sI20184_6_2⟩⟩, v20186, rfl, av20186, bv20186, cv20186⟩ := hq
                show WP _ _ _ _ (.int _ :: _) _ _ _ _
                rw [ec]
                clear ec Ra
                have fr20187 : fz 74 g [1, 3, 4, 6, 7, 8, 9, 10, 11, 12, 13, 14, 15, 16, 17, 18, 19, 21] I I20184 := fz_tr fr20180 (fz_mono fiI20184 (by decide))
                have fr20188 : fz 74 g [1, 20] J J20185 := fz_tr fr20181 (fz_mono fjI20184 (by decide))
                have e20189 : I20184 (ad g 1) 1 = L := hI20184.2
                have b20190 := BT_get hI20184.1 1 1 2 (0) (0) (900) (by decide) 1 (by decide) (by decide)
                rw [e20189] at b20190
                obtain ⟨w20191, ew20191⟩ : ∃ w : Int32, I20184 (ad g 4) 0 = w := ⟨_, rfl⟩
                have bw20191 := BT_get hI20184.1 4 0 5 (0) (0) (1000) (by decide) 0 (by decide) (by decide)
                rw [ew20191] at bw20191
                rw [ew20191] at cv20186
                obtain ⟨w20192, ew20192⟩ : ∃ w : Int32, I20184 (ad g 4) 1 = w := ⟨_, rfl⟩
                have bw20192 := BT_get hI20184.1 4 0 5 (0) (0) (1000) (by decide) 1 (by decide) (by decide)
                rw [ew20192] at bw20192
                rw [ew20192] at cv20186
                obtain ⟨w20193, ew20193⟩ : ∃ w : Int32, I20184 (ad g 4) 2 = w := ⟨_, rfl⟩
                have bw20193 := BT_get hI20184.1 4 0 5 (0) (0) (1000) (by decide) 2 (by decide) (by decide)
                rw [ew20193] at bw20193
                rw [ew20193] at cv20186
                refine WP_istore (ls' := [(0, _), (1, _), (2, _), (3, _), (4, _)]) dX3_readTown_84 (by decide) rfl ?_
                refine WP_iload dX3_readTown_86 rfl ?_
                refine WQ_if_eq 99 dX3_readTown_88 rfl (fun c20193 => ?_) (fun c20193 => ?_)
                · refine WP_aload_n dX3_readTown_99 rfl ?_
                  refine WP_iload_n dX3_readTown_100 rfl ?_
                  refine WP_aload_n dX3_readTown_101 rfl ?_
                  refine WP_getr dX3_readTown_102 fX3_9 rfl (lyx_is hy 3 3 rfl) (rfx hr 3 3 4 (by decide)) ?_
                  refine WP_callV2 (k := 7) dX3_readTown_105 ⟨⟨⟨by decide, by decide⟩, zX7_tell⟩, lX3_58, by decide, rfl, vX7_tell.1, vX7_tell.2⟩ (lyx_is hy 6 7 rfl) (sx_tell_6_3 hy hr hI20184 v20022 (by omega) (by omega) (by rw [ew20191, ew20192, ew20193]; omega)) (Nat.le_of_ble_eq_true rfl) ?_
                  intro r I20195 J20196 Ra hq
                  obtain ⟨⟨hI20195, ec, fiI20195, fjI20195, pI20195⟩, rfl⟩ := hq
                  rw [ec]
                  clear ec Ra
                  have fr20197 : fz 74 g [1, 3, 4, 6, 7, 8, 9, 10, 11, 12, 13, 14, 15, 16, 17, 18, 19, 21] I I20195 := fz_tr fr20187 (fz_mono fiI20195 (by decide))
                  have fr20198 : fz 74 g [1, 20] J J20196 := fz_tr fr20188 (fz_mono fjI20195 (by decide))
                  have e20199 : I20195 (ad g 1) 1 = L := hI20195.2
                  have b20200 := BT_get hI20195.1 1 1 2 (0) (0) (900) (by decide) 1 (by decide) (by decide)
                  rw [e20199] at b20200
                  refine WP_iinc (ls' := [(0, _), (1, _), (2, _), (3, _), (4, _)]) dX3_readTown_108 rfl (by decide) rfl ?_
                  have hv20201 : (i20005 + Int32.ofInt (1)).toInt = i20005.toInt + (1) := ia_n rfl (by omega) (by omega)
                  generalize i20005 + Int32.ofInt (1) = v20201 at hv20201 ⊢
                  refine WP_goto 18 dX3_readTown_111 rfl ?_
                  exact WP_sub (fc rfl (fc rfl (fc rfl fn))) (ihlp18_20007 v20201 I20195 J20196 hI20195 fr20197 fr20198 (by omega) (by omega) (by omega))
                · refine WP_aload_n dX3_readTown_91 rfl ?_
                  refine WP_iload dX3_readTown_92 rfl ?_
                  refine WP_callV1 (k := 3) dX3_readTown_94 ⟨⟨⟨by decide, by decide⟩, zX3_note⟩, lX3_31, by decide, rfl, vX3_note.1, vX3_note.2⟩ (lyx_is hy 3 3 rfl) (sx_notef hy hr hI20184 v20186 ) (Nat.le_of_ble_eq_true rfl) ?_
                  intro r I20202 J20203 Ra hq
                  obtain ⟨⟨hI20202, ec, fiI20202, fjI20202⟩, rfl⟩ := hq
                  rw [ec]
                  clear ec Ra
                  have fr20204 : fz 74 g [1, 3, 4, 6, 7, 8, 9, 10, 11, 12, 13, 14, 15, 16, 17, 18, 19, 21] I I20202 := fz_tr fr20187 (fz_mono fiI20202 (by decide))
                  have fr20205 : fz 74 g [1, 20] J J20203 := fz_tr fr20188 (fz_mono fjI20202 (by decide))
                  have e20206 : I20202 (ad g 4) 0 = w20191 := by rw [fz_at fiI20202 4 (by decide) (by decide)]; exact ew20191
                  have e20207 : I20202 (ad g 4) 1 = w20192 := by rw [fz_at fiI20202 4 (by decide) (by decide)]; exact ew20192
                  have e20208 : I20202 (ad g 4) 2 = w20193 := by rw [fz_at fiI20202 4 (by decide) (by decide)]; exact ew20193
                  have e20209 : I20202 (ad g 1) 1 = L := hI20202.2
                  have b20210 := BT_get hI20202.1 1 1 2 (0) (0) (900) (by decide) 1 (by decide) (by decide)
                  rw [e20209] at b20210
                  refine WQ_iconst (0) (0) dX3_readTown_97 rfl rfl (fun v20211 hv20211 => ?_)
                  exact WP_zret dX3_readTown_98 rfl (nar_z (by omega)) ⟨⟨hI20202, rfl, fr20204, fr20205⟩, _, rfl, by omega, by omega⟩
            · refine WP_aload_n dX3_readTown_59 rfl ?_
              refine WP_iload_n dX3_readTown_60 rfl ?_
              refine WP_callV1 (k := 7) dX3_readTown_61 ⟨⟨⟨by decide, by decide⟩, zX7_faultAhead⟩, lX3_50, by decide, rfl, vX7_faultAhead.1, vX7_faultAhead.2⟩ (lyx_is hy 6 7 rfl) (sx_faultAhead_6_4 hy hr hI20014 v20022 (by omega) (by omega)) (Nat.le_of_ble_eq_true rfl) ?_
              intro r Ia Ja Ra hq
              obtain ⟨⟨ea, eb, ec⟩, v20212, rfl, av20212, bv20212⟩ := hq
              show WP _ _ _ _ (.int _ :: _) _ _ _ _
              rw [ea, eb, ec]
              clear ea eb ec Ia Ja Ra
              refine WP_istore (ls' := [(0, _), (1, _), (2, _), (3, _), (4, _)]) dX3_readTown_64 (by decide) rfl ?_
              refine WP_iload dX3_readTown_66 rfl ?_
              refine WQ_if_ne 86 dX3_readTown_68 rfl (fun c20212 => ?_) (fun c20212 => ?_)
              · refine WP_iload dX3_readTown_86 rfl ?_
                refine WQ_if_eq 99 dX3_readTown_88 rfl (fun c20213 => False.elim (by omega)) (fun c20213 => ?_)
                refine WP_aload_n dX3_readTown_91 rfl ?_
                refine WP_iload dX3_readTown_92 rfl ?_
                refine WP_callV1 (k := 3) dX3_readTown_94 ⟨⟨⟨by decide, by decide⟩, zX3_note⟩, lX3_31, by decide, rfl, vX3_note.1, vX3_note.2⟩ (lyx_is hy 3 3 rfl) (sx_notef hy hr hI20014 v20212 ) (Nat.le_of_ble_eq_true rfl) ?_
                intro r I20215 J20216 Ra hq
                obtain ⟨⟨hI20215, ec, fiI20215, fjI20215⟩, rfl⟩ := hq
                rw [ec]
                clear ec Ra
                have fr20217 : fz 74 g [1, 3, 4, 6, 7, 8, 9, 10, 11, 12, 13, 14, 15, 16, 17, 18, 19, 21] I I20215 := fz_tr fr20016 (fz_mono fiI20215 (by decide))
                have fr20218 : fz 74 g [1, 20] J J20216 := fz_tr fr20017 (fz_mono fjI20215 (by decide))
                have e20219 : I20215 (ad g 1) 2 = v20020 := by rw [fz_at fiI20215 1 (by decide) (by decide)]; exact ev20020
                have e20220 : I20215 (ad g 1) 1 = L := hI20215.2
                have b20221 := BT_get hI20215.1 1 1 2 (0) (0) (900) (by decide) 1 (by decide) (by decide)
                rw [e20220] at b20221
                refine WQ_iconst (0) (0) dX3_readTown_97 rfl rfl (fun v20222 hv20222 => ?_)
                exact WP_zret dX3_readTown_98 rfl (nar_z (by omega)) ⟨⟨hI20215, rfl, fr20217, fr20218⟩, _, rfl, by omega, by omega⟩
              · refine WP_aload_n dX3_readTown_71 rfl ?_
                refine WP_getr dX3_readTown_72 fX3_15 rfl (lyx_is hy 3 3 rfl) (rfx hr 3 2 1 (by decide)) ?_
                refine WP_callV0 (k := 5) dX3_readTown_75 ⟨⟨⟨by decide, by decide⟩, zX5_next⟩, lX3_40, by decide, rfl, vX5_next.1, vX5_next.2⟩ (lyx_is hy 1 5 rfl) (sx_nextf hy hr hI20014  ) (Nat.le_of_ble_eq_true rfl) ?_
                intro r I20223 J20224 Ra hq
                obtain ⟨⟨hI20223, ec, fiI20223, fjI20223⟩, rfl⟩ := hq
                rw [ec]
                clear ec Ra
                have fr20225 : fz 74 g [1, 3, 4, 6, 7, 8, 9, 10, 11, 12, 13, 14, 15, 16, 17, 18, 19, 21] I I20223 := fz_tr fr20016 (fz_mono fiI20223 (by decide))
                have fr20226 : fz 74 g [1, 20] J J20224 := fz_tr fr20017 (fz_mono fjI20223 (by decide))
                have e20227 : I20223 (ad g 1) 1 = L := hI20223.2
                have b20228 := BT_get hI20223.1 1 1 2 (0) (0) (900) (by decide) 1 (by decide) (by decide)
                rw [e20227] at b20228
                refine WP_aload_n dX3_readTown_78 rfl ?_
                refine WP_iload_n dX3_readTown_79 rfl ?_
                refine WP_aload_n dX3_readTown_80 rfl ?_
                refine WP_callV2 (k := 3) dX3_readTown_81 ⟨⟨⟨by decide, by decide⟩, zX3_faultInParts⟩, lX3_54, by decide, rfl, vX3_faultInParts.1, vX3_faultInParts.2⟩ (lyx_is hy 3 3 rfl) (sx_parts_6_4 hy hz hr hI20223 v20022 (by omega) (by omega)) (Nat.le_of_ble_eq_true rfl) ?_
                intro r I20229 J20230 Ra hq
                obtain ⟨⟨hI20229, ec, fiI20229, fjI20229, ⟨pI20229, sI20229_6_1, sI20229_6_2⟩⟩, v20231, rfl, av20231, bv20231, cv20231⟩ := hq
                show WP _ _ _ _ (.int _ :: _) _ _ _ _
                rw [ec]
                clear ec Ra
                have fr20232 : fz 74 g [1, 3, 4, 6, 7, 8, 9, 10, 11, 12, 13, 14, 15, 16, 17, 18, 19, 21] I I20229 := fz_tr fr20225 (fz_mono fiI20229 (by decide))
                have fr20233 : fz 74 g [1, 20] J J20230 := fz_tr fr20226 (fz_mono fjI20229 (by decide))
                have e20234 : I20229 (ad g 1) 1 = L := hI20229.2
                have b20235 := BT_get hI20229.1 1 1 2 (0) (0) (900) (by decide) 1 (by decide) (by decide)
                rw [e20234] at b20235
                obtain ⟨w20236, ew20236⟩ : ∃ w : Int32, I20229 (ad g 4) 0 = w := ⟨_, rfl⟩
                have bw20236 := BT_get hI20229.1 4 0 5 (0) (0) (1000) (by decide) 0 (by decide) (by decide)
                rw [ew20236] at bw20236
                rw [ew20236] at cv20231
                obtain ⟨w20237, ew20237⟩ : ∃ w : Int32, I20229 (ad g 4) 1 = w := ⟨_, rfl⟩
                have bw20237 := BT_get hI20229.1 4 0 5 (0) (0) (1000) (by decide) 1 (by decide) (by decide)
                rw [ew20237] at bw20237
                rw [ew20237] at cv20231
                obtain ⟨w20238, ew20238⟩ : ∃ w : Int32, I20229 (ad g 4) 2 = w := ⟨_, rfl⟩
                have bw20238 := BT_get hI20229.1 4 0 5 (0) (0) (1000) (by decide) 2 (by decide) (by decide)
                rw [ew20238] at bw20238
                rw [ew20238] at cv20231
                refine WP_istore (ls' := [(0, _), (1, _), (2, _), (3, _), (4, _)]) dX3_readTown_84 (by decide) rfl ?_
                refine WP_iload dX3_readTown_86 rfl ?_
                refine WQ_if_eq 99 dX3_readTown_88 rfl (fun c20238 => ?_) (fun c20238 => ?_)
                · refine WP_aload_n dX3_readTown_99 rfl ?_
                  refine WP_iload_n dX3_readTown_100 rfl ?_
                  refine WP_aload_n dX3_readTown_101 rfl ?_
                  refine WP_getr dX3_readTown_102 fX3_9 rfl (lyx_is hy 3 3 rfl) (rfx hr 3 3 4 (by decide)) ?_
                  refine WP_callV2 (k := 7) dX3_readTown_105 ⟨⟨⟨by decide, by decide⟩, zX7_tell⟩, lX3_58, by decide, rfl, vX7_tell.1, vX7_tell.2⟩ (lyx_is hy 6 7 rfl) (sx_tell_6_4 hy hr hI20229 v20022 (by omega) (by omega) (by rw [ew20236, ew20237, ew20238]; omega)) (Nat.le_of_ble_eq_true rfl) ?_
                  intro r I20240 J20241 Ra hq
                  obtain ⟨⟨hI20240, ec, fiI20240, fjI20240, pI20240⟩, rfl⟩ := hq
                  rw [ec]
                  clear ec Ra
                  have fr20242 : fz 74 g [1, 3, 4, 6, 7, 8, 9, 10, 11, 12, 13, 14, 15, 16, 17, 18, 19, 21] I I20240 := fz_tr fr20232 (fz_mono fiI20240 (by decide))
                  have fr20243 : fz 74 g [1, 20] J J20241 := fz_tr fr20233 (fz_mono fjI20240 (by decide))
                  have e20244 : I20240 (ad g 1) 1 = L := hI20240.2
                  have b20245 := BT_get hI20240.1 1 1 2 (0) (0) (900) (by decide) 1 (by decide) (by decide)
                  rw [e20244] at b20245
                  refine WP_iinc (ls' := [(0, _), (1, _), (2, _), (3, _), (4, _)]) dX3_readTown_108 rfl (by decide) rfl ?_
                  have hv20246 : (i20005 + Int32.ofInt (1)).toInt = i20005.toInt + (1) := ia_n rfl (by omega) (by omega)
                  generalize i20005 + Int32.ofInt (1) = v20246 at hv20246 ⊢
                  refine WP_goto 18 dX3_readTown_111 rfl ?_
                  exact WP_sub (fc rfl (fc rfl (fc rfl fn))) (ihlp18_20007 v20246 I20240 J20241 hI20240 fr20242 fr20243 (by omega) (by omega) (by omega))
                · refine WP_aload_n dX3_readTown_91 rfl ?_
                  refine WP_iload dX3_readTown_92 rfl ?_
                  refine WP_callV1 (k := 3) dX3_readTown_94 ⟨⟨⟨by decide, by decide⟩, zX3_note⟩, lX3_31, by decide, rfl, vX3_note.1, vX3_note.2⟩ (lyx_is hy 3 3 rfl) (sx_notef hy hr hI20229 v20231 ) (Nat.le_of_ble_eq_true rfl) ?_
                  intro r I20247 J20248 Ra hq
                  obtain ⟨⟨hI20247, ec, fiI20247, fjI20247⟩, rfl⟩ := hq
                  rw [ec]
                  clear ec Ra
                  have fr20249 : fz 74 g [1, 3, 4, 6, 7, 8, 9, 10, 11, 12, 13, 14, 15, 16, 17, 18, 19, 21] I I20247 := fz_tr fr20232 (fz_mono fiI20247 (by decide))
                  have fr20250 : fz 74 g [1, 20] J J20248 := fz_tr fr20233 (fz_mono fjI20247 (by decide))
                  have e20251 : I20247 (ad g 4) 0 = w20236 := by rw [fz_at fiI20247 4 (by decide) (by decide)]; exact ew20236
                  have e20252 : I20247 (ad g 4) 1 = w20237 := by rw [fz_at fiI20247 4 (by decide) (by decide)]; exact ew20237
                  have e20253 : I20247 (ad g 4) 2 = w20238 := by rw [fz_at fiI20247 4 (by decide) (by decide)]; exact ew20238
                  have e20254 : I20247 (ad g 1) 1 = L := hI20247.2
                  have b20255 := BT_get hI20247.1 1 1 2 (0) (0) (900) (by decide) 1 (by decide) (by decide)
                  rw [e20254] at b20255
                  refine WQ_iconst (0) (0) dX3_readTown_97 rfl rfl (fun v20256 hv20256 => ?_)
                  exact WP_zret dX3_readTown_98 rfl (nar_z (by omega)) ⟨⟨hI20247, rfl, fr20249, fr20250⟩, _, rfl, by omega, by omega⟩
            · refine WP_aload_n dX3_readTown_59 rfl ?_
              refine WP_iload_n dX3_readTown_60 rfl ?_
              refine WP_callV1 (k := 7) dX3_readTown_61 ⟨⟨⟨by decide, by decide⟩, zX7_faultAhead⟩, lX3_50, by decide, rfl, vX7_faultAhead.1, vX7_faultAhead.2⟩ (lyx_is hy 6 7 rfl) (sx_faultAhead_6_5 hy hr hI20014 v20022 (by omega) (by omega)) (Nat.le_of_ble_eq_true rfl) ?_
              intro r Ia Ja Ra hq
              obtain ⟨⟨ea, eb, ec⟩, v20257, rfl, av20257, bv20257⟩ := hq
              show WP _ _ _ _ (.int _ :: _) _ _ _ _
              rw [ea, eb, ec]
              clear ea eb ec Ia Ja Ra
              refine WP_istore (ls' := [(0, _), (1, _), (2, _), (3, _), (4, _)]) dX3_readTown_64 (by decide) rfl ?_
              refine WP_iload dX3_readTown_66 rfl ?_
              refine WQ_if_ne 86 dX3_readTown_68 rfl (fun c20257 => ?_) (fun c20257 => ?_)
              · refine WP_iload dX3_readTown_86 rfl ?_
                refine WQ_if_eq 99 dX3_readTown_88 rfl (fun c20258 => False.elim (by omega)) (fun c20258 => ?_)
                refine WP_aload_n dX3_readTown_91 rfl ?_
                refine WP_iload dX3_readTown_92 rfl ?_
                refine WP_callV1 (k := 3) dX3_readTown_94 ⟨⟨⟨by decide, by decide⟩, zX3_note⟩, lX3_31, by decide, rfl, vX3_note.1, vX3_note.2⟩ (lyx_is hy 3 3 rfl) (sx_notef hy hr hI20014 v20257 ) (Nat.le_of_ble_eq_true rfl) ?_
                intro r I20260 J20261 Ra hq
                obtain ⟨⟨hI20260, ec, fiI20260, fjI20260⟩, rfl⟩ := hq
                rw [ec]
                clear ec Ra
                have fr20262 : fz 74 g [1, 3, 4, 6, 7, 8, 9, 10, 11, 12, 13, 14, 15, 16, 17, 18, 19, 21] I I20260 := fz_tr fr20016 (fz_mono fiI20260 (by decide))
                have fr20263 : fz 74 g [1, 20] J J20261 := fz_tr fr20017 (fz_mono fjI20260 (by decide))
                have e20264 : I20260 (ad g 1) 2 = v20020 := by rw [fz_at fiI20260 1 (by decide) (by decide)]; exact ev20020
                have e20265 : I20260 (ad g 1) 1 = L := hI20260.2
                have b20266 := BT_get hI20260.1 1 1 2 (0) (0) (900) (by decide) 1 (by decide) (by decide)
                rw [e20265] at b20266
                refine WQ_iconst (0) (0) dX3_readTown_97 rfl rfl (fun v20267 hv20267 => ?_)
                exact WP_zret dX3_readTown_98 rfl (nar_z (by omega)) ⟨⟨hI20260, rfl, fr20262, fr20263⟩, _, rfl, by omega, by omega⟩
              · refine WP_aload_n dX3_readTown_71 rfl ?_
                refine WP_getr dX3_readTown_72 fX3_15 rfl (lyx_is hy 3 3 rfl) (rfx hr 3 2 1 (by decide)) ?_
                refine WP_callV0 (k := 5) dX3_readTown_75 ⟨⟨⟨by decide, by decide⟩, zX5_next⟩, lX3_40, by decide, rfl, vX5_next.1, vX5_next.2⟩ (lyx_is hy 1 5 rfl) (sx_nextf hy hr hI20014  ) (Nat.le_of_ble_eq_true rfl) ?_
                intro r I20268 J20269 Ra hq
                obtain ⟨⟨hI20268, ec, fiI20268, fjI20268⟩, rfl⟩ := hq
                rw [ec]
                clear ec Ra
                have fr20270 : fz 74 g [1, 3, 4, 6, 7, 8, 9, 10, 11, 12, 13, 14, 15, 16, 17, 18, 19, 21] I I20268 := fz_tr fr20016 (fz_mono fiI20268 (by decide))
                have fr20271 : fz 74 g [1, 20] J J20269 := fz_tr fr20017 (fz_mono fjI20268 (by decide))
                have e20272 : I20268 (ad g 1) 1 = L := hI20268.2
                have b20273 := BT_get hI20268.1 1 1 2 (0) (0) (900) (by decide) 1 (by decide) (by decide)
                rw [e20272] at b20273
                refine WP_aload_n dX3_readTown_78 rfl ?_
                refine WP_iload_n dX3_readTown_79 rfl ?_
                refine WP_aload_n dX3_readTown_80 rfl ?_
                refine WP_callV2 (k := 3) dX3_readTown_81 ⟨⟨⟨by decide, by decide⟩, zX3_faultInParts⟩, lX3_54, by decide, rfl, vX3_faultInParts.1, vX3_faultInParts.2⟩ (lyx_is hy 3 3 rfl) (sx_parts_6_5 hy hz hr hI20268 v20022 (by omega) (by omega)) (Nat.le_of_ble_eq_true rfl) ?_
                intro r I20274 J20275 Ra hq
                obtain ⟨⟨hI20274, ec, fiI20274, fjI20274, ⟨pI20274, sI20274_6_1, sI20274_6_2⟩⟩, v20276, rfl, av20276, bv20276, cv20276⟩ := hq
                show WP _ _ _ _ (.int _ :: _) _ _ _ _
                rw [ec]
                clear ec Ra
                have fr20277 : fz 74 g [1, 3, 4, 6, 7, 8, 9, 10, 11, 12, 13, 14, 15, 16, 17, 18, 19, 21] I I20274 := fz_tr fr20270 (fz_mono fiI20274 (by decide))
                have fr20278 : fz 74 g [1, 20] J J20275 := fz_tr fr20271 (fz_mono fjI20274 (by decide))
                have e20279 : I20274 (ad g 1) 1 = L := hI20274.2
                have b20280 := BT_get hI20274.1 1 1 2 (0) (0) (900) (by decide) 1 (by decide) (by decide)
                rw [e20279] at b20280
                obtain ⟨w20281, ew20281⟩ : ∃ w : Int32, I20274 (ad g 4) 0 = w := ⟨_, rfl⟩
                have bw20281 := BT_get hI20274.1 4 0 5 (0) (0) (1000) (by decide) 0 (by decide) (by decide)
                rw [ew20281] at bw20281
                rw [ew20281] at cv20276
                obtain ⟨w20282, ew20282⟩ : ∃ w : Int32, I20274 (ad g 4) 1 = w := ⟨_, rfl⟩
                have bw20282 := BT_get hI20274.1 4 0 5 (0) (0) (1000) (by decide) 1 (by decide) (by decide)
                rw [ew20282] at bw20282
                rw [ew20282] at cv20276
                obtain ⟨w20283, ew20283⟩ : ∃ w : Int32, I20274 (ad g 4) 2 = w := ⟨_, rfl⟩
                have bw20283 := BT_get hI20274.1 4 0 5 (0) (0) (1000) (by decide) 2 (by decide) (by decide)
                rw [ew20283] at bw20283
                rw [ew20283] at cv20276
                refine WP_istore (ls' := [(0, _), (1, _), (2, _), (3, _), (4, _)]) dX3_readTown_84 (by decide) rfl ?_
                refine WP_iload dX3_readTown_86 rfl ?_
                refine WQ_if_eq 99 dX3_readTown_88 rfl (fun c20283 => ?_) (fun c20283 => ?_)
                · refine WP_aload_n dX3_readTown_99 rfl ?_
                  refine WP_iload_n dX3_readTown_100 rfl ?_
                  refine WP_aload_n dX3_readTown_101 rfl ?_
                  refine WP_getr dX3_readTown_102 fX3_9 rfl (lyx_is hy 3 3 rfl) (rfx hr 3 3 4 (by decide)) ?_
                  refine WP_callV2 (k := 7) dX3_readTown_105 ⟨⟨⟨by decide, by decide⟩, zX7_tell⟩, lX3_58, by decide, rfl, vX7_tell.1, vX7_tell.2⟩ (lyx_is hy 6 7 rfl) (sx_tell_6_5 hy hr hI20274 v20022 (by omega) (by omega) (by rw [ew20281, ew20282, ew20283]; omega)) (Nat.le_of_ble_eq_true rfl) ?_
                  intro r I20285 J20286 Ra hq
                  obtain ⟨⟨hI20285, ec, fiI20285, fjI20285, pI20285⟩, rfl⟩ := hq
                  rw [ec]
                  clear ec Ra
                  have fr20287 : fz 74 g [1, 3, 4, 6, 7, 8, 9, 10, 11, 12, 13, 14, 15, 16, 17, 18, 19, 21] I I20285 := fz_tr fr20277 (fz_mono fiI20285 (by decide))
                  have fr20288 : fz 74 g [1, 20] J J20286 := fz_tr fr20278 (fz_mono fjI20285 (by decide))
                  have e20289 : I20285 (ad g 1) 1 = L := hI20285.2
                  have b20290 := BT_get hI20285.1 1 1 2 (0) (0) (900) (by decide) 1 (by decide) (by decide)
                  rw [e20289] at b20290
                  refine WP_iinc (ls' := [(0, _), (1, _), (2, _), (3, _), (4, _)]) dX3_readTown_108 rfl (by decide) rfl ?_
                  have hv20291 : (i20005 + Int32.ofInt (1)).toInt = i20005.toInt + (1) := ia_n rfl (by omega) (by omega)
                  generalize i20005 + Int32.ofInt (1) = v20291 at hv20291 ⊢
                  refine WP_goto 18 dX3_readTown_111 rfl ?_
                  exact WP_sub (fc rfl (fc rfl (fc rfl fn))) (ihlp18_20007 v20291 I20285 J20286 hI20285 fr20287 fr20288 (by omega) (by omega) (by omega))
                · refine WP_aload_n dX3_readTown_91 rfl ?_
                  refine WP_iload dX3_readTown_92 rfl ?_
                  refine WP_callV1 (k := 3) dX3_readTown_94 ⟨⟨⟨by decide, by decide⟩, zX3_note⟩, lX3_31, by decide, rfl, vX3_note.1, vX3_note.2⟩ (lyx_is hy 3 3 rfl) (sx_notef hy hr hI20274 v20276 ) (Nat.le_of_ble_eq_true rfl) ?_
                  intro r I20292 J20293 Ra hq
                  obtain ⟨⟨hI20292, ec, fiI20292, fjI20292⟩, rfl⟩ := hq
                  rw [ec]
                  clear ec Ra
                  have fr20294 : fz 74 g [1, 3, 4, 6, 7, 8, 9, 10, 11, 12, 13, 14, 15, 16, 17, 18, 19, 21] I I20292 := fz_tr fr20277 (fz_mono fiI20292 (by decide))
                  have fr20295 : fz 74 g [1, 20] J J20293 := fz_tr fr20278 (fz_mono fjI20292 (by decide))
                  have e20296 : I20292 (ad g 4) 0 = w20281 := by rw [fz_at fiI20292 4 (by decide) (by decide)]; exact ew20281
                  have e20297 : I20292 (ad g 4) 1 = w20282 := by rw [fz_at fiI20292 4 (by decide) (by decide)]; exact ew20282
                  have e20298 : I20292 (ad g 4) 2 = w20283 := by rw [fz_at fiI20292 4 (by decide) (by decide)]; exact ew20283
                  have e20299 : I20292 (ad g 1) 1 = L := hI20292.2
                  have b20300 := BT_get hI20292.1 1 1 2 (0) (0) (900) (by decide) 1 (by decide) (by decide)
                  rw [e20299] at b20300
                  refine WQ_iconst (0) (0) dX3_readTown_97 rfl rfl (fun v20301 hv20301 => ?_)
                  exact WP_zret dX3_readTown_98 rfl (nar_z (by omega)) ⟨⟨hI20292, rfl, fr20294, fr20295⟩, _, rfl, by omega, by omega⟩
            · refine WP_aload_n dX3_readTown_59 rfl ?_
              refine WP_iload_n dX3_readTown_60 rfl ?_
              refine WP_callV1 (k := 7) dX3_readTown_61 ⟨⟨⟨by decide, by decide⟩, zX7_faultAhead⟩, lX3_50, by decide, rfl, vX7_faultAhead.1, vX7_faultAhead.2⟩ (lyx_is hy 6 7 rfl) (sx_faultAhead_6_6 hy hr hI20014 v20022 (by omega) (by omega)) (Nat.le_of_ble_eq_true rfl) ?_
              intro r Ia Ja Ra hq
              obtain ⟨⟨ea, eb, ec⟩, v20302, rfl, av20302, bv20302⟩ := hq
              show WP _ _ _ _ (.int _ :: _) _ _ _ _
              rw [ea, eb, ec]
              clear ea eb ec Ia Ja Ra
              refine WP_istore (ls' := [(0, _), (1, _), (2, _), (3, _), (4, _)]) dX3_readTown_64 (by decide) rfl ?_
              refine WP_iload dX3_readTown_66 rfl ?_
              refine WQ_if_ne 86 dX3_readTown_68 rfl (fun c20302 => ?_) (fun c20302 => ?_)
              · refine WP_iload dX3_readTown_86 rfl ?_
                refine WQ_if_eq 99 dX3_readTown_88 rfl (fun c20303 => False.elim (by omega)) (fun c20303 => ?_)
                refine WP_aload_n dX3_readTown_91 rfl ?_
                refine WP_iload dX3_readTown_92 rfl ?_
                refine WP_callV1 (k := 3) dX3_readTown_94 ⟨⟨⟨by decide, by decide⟩, zX3_note⟩, lX3_31, by decide, rfl, vX3_note.1, vX3_note.2⟩ (lyx_is hy 3 3 rfl) (sx_notef hy hr hI20014 v20302 ) (Nat.le_of_ble_eq_true rfl) ?_
                intro r I20305 J20306 Ra hq
                obtain ⟨⟨hI20305, ec, fiI20305, fjI20305⟩, rfl⟩ := hq
                rw [ec]
                clear ec Ra
                have fr20307 : fz 74 g [1, 3, 4, 6, 7, 8, 9, 10, 11, 12, 13, 14, 15, 16, 17, 18, 19, 21] I I20305 := fz_tr fr20016 (fz_mono fiI20305 (by decide))
                have fr20308 : fz 74 g [1, 20] J J20306 := fz_tr fr20017 (fz_mono fjI20305 (by decide))
                have e20309 : I20305 (ad g 1) 2 = v20020 := by rw [fz_at fiI20305 1 (by decide) (by decide)]; exact ev20020
                have e20310 : I20305 (ad g 1) 1 = L := hI20305.2
                have b20311 := BT_get hI20305.1 1 1 2 (0) (0) (900) (by decide) 1 (by decide) (by decide)
                rw [e20310] at b20311
                refine WQ_iconst (0) (0) dX3_readTown_97 rfl rfl (fun v20312 hv20312 => ?_)
                exact WP_zret dX3_readTown_98 rfl (nar_z (by omega)) ⟨⟨hI20305, rfl, fr20307, fr20308⟩, _, rfl, by omega, by omega⟩
              · refine WP_aload_n dX3_readTown_71 rfl ?_
                refine WP_getr dX3_readTown_72 fX3_15 rfl (lyx_is hy 3 3 rfl) (rfx hr 3 2 1 (by decide)) ?_
                refine WP_callV0 (k := 5) dX3_readTown_75 ⟨⟨⟨by decide, by decide⟩, zX5_next⟩, lX3_40, by decide, rfl, vX5_next.1, vX5_next.2⟩ (lyx_is hy 1 5 rfl) (sx_nextf hy hr hI20014  ) (Nat.le_of_ble_eq_true rfl) ?_
                intro r I20313 J20314 Ra hq
                obtain ⟨⟨hI20313, ec, fiI20313, fjI20313⟩, rfl⟩ := hq
                rw [ec]
                clear ec Ra
                have fr20315 : fz 74 g [1, 3, 4, 6, 7, 8, 9, 10, 11, 12, 13, 14, 15, 16, 17, 18, 19, 21] I I20313 := fz_tr fr20016 (fz_mono fiI20313 (by decide))
                have fr20316 : fz 74 g [1, 20] J J20314 := fz_tr fr20017 (fz_mono fjI20313 (by decide))
                have e20317 : I20313 (ad g 1) 1 = L := hI20313.2
                have b20318 := BT_get hI20313.1 1 1 2 (0) (0) (900) (by decide) 1 (by decide) (by decide)
                rw [e20317] at b20318
                refine WP_aload_n dX3_readTown_78 rfl ?_
                refine WP_iload_n dX3_readTown_79 rfl ?_
                refine WP_aload_n dX3_readTown_80 rfl ?_
                refine WP_callV2 (k := 3) dX3_readTown_81 ⟨⟨⟨by decide, by decide⟩, zX3_faultInParts⟩, lX3_54, by decide, rfl, vX3_faultInParts.1, vX3_faultInParts.2⟩ (lyx_is hy 3 3 rfl) (sx_parts_6_6 hy hz hr hI20313 v20022 (by omega) (by omega)) (Nat.le_of_ble_eq_true rfl) ?_
                intro r I20319 J20320 Ra hq
                obtain ⟨⟨hI20319, ec, fiI20319, fjI20319, ⟨pI20319, sI20319_6_1, sI20319_6_2⟩⟩, v20321, rfl, av20321, bv20321, cv20321⟩ := hq
                show WP _ _ _ _ (.int _ :: _) _ _ _ _
                rw [ec]
                clear ec Ra
                have fr20322 : fz 74 g [1, 3, 4, 6, 7, 8, 9, 10, 11, 12, 13, 14, 15, 16, 17, 18, 19, 21] I I20319 := fz_tr fr20315 (fz_mono fiI20319 (by decide))
                have fr20323 : fz 74 g [1, 20] J J20320 := fz_tr fr20316 (fz_mono fjI20319 (by decide))
                have e20324 : I20319 (ad g 1) 1 = L := hI20319.2
                have b20325 := BT_get hI20319.1 1 1 2 (0) (0) (900) (by decide) 1 (by decide) (by decide)
                rw [e20324] at b20325
                obtain ⟨w20326, ew20326⟩ : ∃ w : Int32, I20319 (ad g 4) 0 = w := ⟨_, rfl⟩
                have bw20326 := BT_get hI20319.1 4 0 5 (0) (0) (1000) (by decide) 0 (by decide) (by decide)
                rw [ew20326] at bw20326
                rw [ew20326] at cv20321
                obtain ⟨w20327, ew20327⟩ : ∃ w : Int32, I20319 (ad g 4) 1 = w := ⟨_, rfl⟩
                have bw20327 := BT_get hI20319.1 4 0 5 (0) (0) (1000) (by decide) 1 (by decide) (by decide)
                rw [ew20327] at bw20327
                rw [ew20327] at cv20321
                obtain ⟨w20328, ew20328⟩ : ∃ w : Int32, I20319 (ad g 4) 2 = w := ⟨_, rfl⟩
                have bw20328 := BT_get hI20319.1 4 0 5 (0) (0) (1000) (by decide) 2 (by decide) (by decide)
                rw [ew20328] at bw20328
                rw [ew20328] at cv20321
                obtain ⟨w20329, ew20329⟩ : ∃ w : Int32, I20319 (ad g 4) 3 = w := ⟨_, rfl⟩
                have bw20329 := BT_get hI20319.1 4 0 5 (0) (0) (1000) (by decide) 3 (by decide) (by decide)
                rw [ew20329] at bw20329
                rw [ew20329] at cv20321
                obtain ⟨w20330, ew20330⟩ : ∃ w : Int32, I20319 (ad g 4) 4 = w := ⟨_, rfl⟩
                have bw20330 := BT_get hI20319.1 4 0 5 (0) (0) (1000) (by decide) 4 (by decide) (by decide)
                rw [ew20330] at bw20330
                rw [ew20330] at cv20321
                refine WP_istore (ls' := [(0, _), (1, _), (2, _), (3, _), (4, _)]) dX3_readTown_84 (by decide) rfl ?_
                refine WP_iload dX3_readTown_86 rfl ?_
                refine WQ_if_eq 99 dX3_readTown_88 rfl (fun c20330 => ?_) (fun c20330 => ?_)
                · refine WP_aload_n dX3_readTown_99 rfl ?_
                  refine WP_iload_n dX3_readTown_100 rfl ?_
                  refine WP_aload_n dX3_readTown_101 rfl ?_
                  refine WP_getr dX3_readTown_102 fX3_9 rfl (lyx_is hy 3 3 rfl) (rfx hr 3 3 4 (by decide)) ?_
                  refine WP_callV2 (k := 7) dX3_readTown_105 ⟨⟨⟨by decide, by decide⟩, zX7_tell⟩, lX3_58, by decide, rfl, vX7_tell.1, vX7_tell.2⟩ (lyx_is hy 6 7 rfl) (sx_tell_6_6 hy hr hI20319 v20022 (by omega) (by omega) (by rw [ew20326, ew20327, ew20328, ew20329, ew20330]; omega)) (Nat.le_of_ble_eq_true rfl) ?_
                  intro r I20332 J20333 Ra hq
                  obtain ⟨⟨hI20332, ec, fiI20332, fjI20332, pI20332⟩, rfl⟩ := hq
                  rw [ec]
                  clear ec Ra
                  have fr20334 : fz 74 g [1, 3, 4, 6, 7, 8, 9, 10, 11, 12, 13, 14, 15, 16, 17, 18, 19, 21] I I20332 := fz_tr fr20322 (fz_mono fiI20332 (by decide))
                  have fr20335 : fz 74 g [1, 20] J J20333 := fz_tr fr20323 (fz_mono fjI20332 (by decide))
                  have e20336 : I20332 (ad g 1) 1 = L := hI20332.2
                  have b20337 := BT_get hI20332.1 1 1 2 (0) (0) (900) (by decide) 1 (by decide) (by decide)
                  rw [e20336] at b20337
                  refine WP_iinc (ls' := [(0, _), (1, _), (2, _), (3, _), (4, _)]) dX3_readTown_108 rfl (by decide) rfl ?_
                  have hv20338 : (i20005 + Int32.ofInt (1)).toInt = i20005.toInt + (1) := ia_n rfl (by omega) (by omega)
                  generalize i20005 + Int32.ofInt (1) = v20338 at hv20338 ⊢
                  refine WP_goto 18 dX3_readTown_111 rfl ?_
                  exact WP_sub (fc rfl (fc rfl (fc rfl fn))) (ihlp18_20007 v20338 I20332 J20333 hI20332 fr20334 fr20335 (by omega) (by omega) (by omega))
                · refine WP_aload_n dX3_readTown_91 rfl ?_
                  refine WP_iload dX3_readTown_92 rfl ?_
                  refine WP_callV1 (k := 3) dX3_readTown_94 ⟨⟨⟨by decide, by decide⟩, zX3_note⟩, lX3_31, by decide, rfl, vX3_note.1, vX3_note.2⟩ (lyx_is hy 3 3 rfl) (sx_notef hy hr hI20319 v20321 ) (Nat.le_of_ble_eq_true rfl) ?_
                  intro r I20339 J20340 Ra hq
                  obtain ⟨⟨hI20339, ec, fiI20339, fjI20339⟩, rfl⟩ := hq
                  rw [ec]
                  clear ec Ra
                  have fr20341 : fz 74 g [1, 3, 4, 6, 7, 8, 9, 10, 11, 12, 13, 14, 15, 16, 17, 18, 19, 21] I I20339 := fz_tr fr20322 (fz_mono fiI20339 (by decide))
                  have fr20342 : fz 74 g [1, 20] J J20340 := fz_tr fr20323 (fz_mono fjI20339 (by decide))
                  have e20343 : I20339 (ad g 4) 0 = w20326 := by rw [fz_at fiI20339 4 (by decide) (by decide)]; exact ew20326
                  have e20344 : I20339 (ad g 4) 1 = w20327 := by rw [fz_at fiI20339 4 (by decide) (by decide)]; exact ew20327
                  have e20345 : I20339 (ad g 4) 2 = w20328 := by rw [fz_at fiI20339 4 (by decide) (by decide)]; exact ew20328
                  have e20346 : I20339 (ad g 4) 3 = w20329 := by rw [fz_at fiI20339 4 (by decide) (by decide)]; exact ew20329
                  have e20347 : I20339 (ad g 4) 4 = w20330 := by rw [fz_at fiI20339 4 (by decide) (by decide)]; exact ew20330
                  have e20348 : I20339 (ad g 1) 1 = L := hI20339.2
                  have b20349 := BT_get hI20339.1 1 1 2 (0) (0) (900) (by decide) 1 (by decide) (by decide)
                  rw [e20348] at b20349
                  refine WQ_iconst (0) (0) dX3_readTown_97 rfl rfl (fun v20350 hv20350 => ?_)
                  exact WP_zret dX3_readTown_98 rfl (nar_z (by omega)) ⟨⟨hI20339, rfl, fr20341, fr20342⟩, _, rfl, by omega, by omega⟩
            · refine WP_aload_n dX3_readTown_59 rfl ?_
              refine WP_iload_n dX3_readTown_60 rfl ?_
              refine WP_callV1 (k := 7) dX3_readTown_61 ⟨⟨⟨by decide, by decide⟩, zX7_faultAhead⟩, lX3_50, by decide, rfl, vX7_faultAhead.1, vX7_faultAhead.2⟩ (lyx_is hy 6 7 rfl) (sx_faultAhead_6_7 hy hr hI20014 v20022 (by omega) (by omega)) (Nat.le_of_ble_eq_true rfl) ?_
              intro r Ia Ja Ra hq
              obtain ⟨⟨ea, eb, ec⟩, v20351, rfl, av20351, bv20351⟩ := hq
              show WP _ _ _ _ (.int _ :: _) _ _ _ _
              rw [ea, eb, ec]
              clear ea eb ec Ia Ja Ra
              refine WP_istore (ls' := [(0, _), (1, _), (2, _), (3, _), (4, _)]) dX3_readTown_64 (by decide) rfl ?_
              refine WP_iload dX3_readTown_66 rfl ?_
              refine WQ_if_ne 86 dX3_readTown_68 rfl (fun c20351 => ?_) (fun c20351 => ?_)
              · refine WP_iload dX3_readTown_86 rfl ?_
                refine WQ_if_eq 99 dX3_readTown_88 rfl (fun c20352 => False.elim (by omega)) (fun c20352 => ?_)
                refine WP_aload_n dX3_readTown_91 rfl ?_
                refine WP_iload dX3_readTown_92 rfl ?_
                refine WP_callV1 (k := 3) dX3_readTown_94 ⟨⟨⟨by decide, by decide⟩, zX3_note⟩, lX3_31, by decide, rfl, vX3_note.1, vX3_note.2⟩ (lyx_is hy 3 3 rfl) (sx_notef hy hr hI20014 v20351 ) (Nat.le_of_ble_eq_true rfl) ?_
                intro r I20354 J20355 Ra hq
                obtain ⟨⟨hI20354, ec, fiI20354, fjI20354⟩, rfl⟩ := hq
                rw [ec]
                clear ec Ra
                have fr20356 : fz 74 g [1, 3, 4, 6, 7, 8, 9, 10, 11, 12, 13, 14, 15, 16, 17, 18, 19, 21] I I20354 := fz_tr fr20016 (fz_mono fiI20354 (by decide))
                have fr20357 : fz 74 g [1, 20] J J20355 := fz_tr fr20017 (fz_mono fjI20354 (by decide))
                have e20358 : I20354 (ad g 1) 2 = v20020 := by rw [fz_at fiI20354 1 (by decide) (by decide)]; exact ev20020
                have e20359 : I20354 (ad g 1) 1 = L := hI20354.2
                have b20360 := BT_get hI20354.1 1 1 2 (0) (0) (900) (by decide) 1 (by decide) (by decide)
                rw [e20359] at b20360
                refine WQ_iconst (0) (0) dX3_readTown_97 rfl rfl (fun v20361 hv20361 => ?_)
                exact WP_zret dX3_readTown_98 rfl (nar_z (by omega)) ⟨⟨hI20354, rfl, fr20356, fr20357⟩, _, rfl, by omega, by omega⟩
              · refine WP_aload_n dX3_readTown_71 rfl ?_
                refine WP_getr dX3_readTown_72 fX3_15 rfl (lyx_is hy 3 3 rfl) (rfx hr 3 2 1 (by decide)) ?_
                refine WP_callV0 (k := 5) dX3_readTown_75 ⟨⟨⟨by decide, by decide⟩, zX5_next⟩, lX3_40, by decide, rfl, vX5_next.1, vX5_next.2⟩ (lyx_is hy 1 5 rfl) (sx_nextf hy hr hI20014  ) (Nat.le_of_ble_eq_true rfl) ?_
                intro r I20362 J20363 Ra hq
                obtain ⟨⟨hI20362, ec, fiI20362, fjI20362⟩, rfl⟩ := hq
                rw [ec]
                clear ec Ra
                have fr20364 : fz 74 g [1, 3, 4, 6, 7, 8, 9, 10, 11, 12, 13, 14, 15, 16, 17, 18, 19, 21] I I20362 := fz_tr fr20016 (fz_mono fiI20362 (by decide))
                have fr20365 : fz 74 g [1, 20] J J20363 := fz_tr fr20017 (fz_mono fjI20362 (by decide))
                have e20366 : I20362 (ad g 1) 1 = L := hI20362.2
                have b20367 := BT_get hI20362.1 1 1 2 (0) (0) (900) (by decide) 1 (by decide) (by decide)
                rw [e20366] at b20367
                refine WP_aload_n dX3_readTown_78 rfl ?_
                refine WP_iload_n dX3_readTown_79 rfl ?_
                refine WP_aload_n dX3_readTown_80 rfl ?_
                refine WP_callV2 (k := 3) dX3_readTown_81 ⟨⟨⟨by decide, by decide⟩, zX3_faultInParts⟩, lX3_54, by decide, rfl, vX3_faultInParts.1, vX3_faultInParts.2⟩ (lyx_is hy 3 3 rfl) (sx_parts_6_7 hy hz hr hI20362 v20022 (by omega) (by omega)) (Nat.le_of_ble_eq_true rfl) ?_
                intro r I20368 J20369 Ra hq
                obtain ⟨⟨hI20368, ec, fiI20368, fjI20368, ⟨pI20368, sI20368_6_1, sI20368_6_2⟩⟩, v20370, rfl, av20370, bv20370, cv20370⟩ := hq
                show WP _ _ _ _ (.int _ :: _) _ _ _ _
                rw [ec]
                clear ec Ra
                have fr20371 : fz 74 g [1, 3, 4, 6, 7, 8, 9, 10, 11, 12, 13, 14, 15, 16, 17, 18, 19, 21] I I20368 := fz_tr fr20364 (fz_mono fiI20368 (by decide))
                have fr20372 : fz 74 g [1, 20] J J20369 := fz_tr fr20365 (fz_mono fjI20368 (by decide))
                have e20373 : I20368 (ad g 1) 1 = L := hI20368.2
                have b20374 := BT_get hI20368.1 1 1 2 (0) (0) (900) (by decide) 1 (by decide) (by decide)
                rw [e20373] at b20374
                obtain ⟨w20375, ew20375⟩ : ∃ w : Int32, I20368 (ad g 4) 0 = w := ⟨_, rfl⟩
                have bw20375 := BT_get hI20368.1 4 0 5 (0) (0) (1000) (by decide) 0 (by decide) (by decide)
                rw [ew20375] at bw20375
                rw [ew20375] at cv20370
                refine WP_istore (ls' := [(0, _), (1, _), (2, _), (3, _), (4, _)]) dX3_readTown_84 (by decide) rfl ?_
                refine WP_iload dX3_readTown_86 rfl ?_
                refine WQ_if_eq 99 dX3_readTown_88 rfl (fun c20375 => ?_) (fun c20375 => ?_)
                · refine WP_aload_n dX3_readTown_99 rfl ?_
                  refine WP_iload_n dX3_readTown_100 rfl ?_
                  refine WP_aload_n dX3_readTown_101 rfl ?_
                  refine WP_getr dX3_readTown_102 fX3_9 rfl (lyx_is hy 3 3 rfl) (rfx hr 3 3 4 (by decide)) ?_
                  refine WP_callV2 (k := 7) dX3_readTown_105 ⟨⟨⟨by decide, by decide⟩, zX7_tell⟩, lX3_58, by decide, rfl, vX7_tell.1, vX7_tell.2⟩ (lyx_is hy 6 7 rfl) (sx_tell_6_7 hy hr hI20368 v20022 (by omega) (by omega) (by rw [ew20375]; omega)) (Nat.le_of_ble_eq_true rfl) ?_
                  intro r I20377 J20378 Ra hq
                  obtain ⟨⟨hI20377, ec, fiI20377, fjI20377, pI20377⟩, rfl⟩ := hq
                  rw [ec]
                  clear ec Ra
                  have fr20379 : fz 74 g [1, 3, 4, 6, 7, 8, 9, 10, 11, 12, 13, 14, 15, 16, 17, 18, 19, 21] I I20377 := fz_tr fr20371 (fz_mono fiI20377 (by decide))
                  have fr20380 : fz 74 g [1, 20] J J20378 := fz_tr fr20372 (fz_mono fjI20377 (by decide))
                  have e20381 : I20377 (ad g 1) 1 = L := hI20377.2
                  have b20382 := BT_get hI20377.1 1 1 2 (0) (0) (900) (by decide) 1 (by decide) (by decide)
                  rw [e20381] at b20382
                  refine WP_iinc (ls' := [(0, _), (1, _), (2, _), (3, _), (4, _)]) dX3_readTown_108 rfl (by decide) rfl ?_
                  have hv20383 : (i20005 + Int32.ofInt (1)).toInt = i20005.toInt + (1) := ia_n rfl (by omega) (by omega)
                  generalize i20005 + Int32.ofInt (1) = v20383 at hv20383 ⊢
                  refine WP_goto 18 dX3_readTown_111 rfl ?_
                  exact WP_sub (fc rfl (fc rfl (fc rfl fn))) (ihlp18_20007 v20383 I20377 J20378 hI20377 fr20379 fr20380 (by omega) (by omega) (by omega))
                · refine WP_aload_n dX3_readTown_91 rfl ?_
                  refine WP_iload dX3_readTown_92 rfl ?_
                  refine WP_callV1 (k := 3) dX3_readTown_94 ⟨⟨⟨by decide, by decide⟩, zX3_note⟩, lX3_31, by decide, rfl, vX3_note.1, vX3_note.2⟩ (lyx_is hy 3 3 rfl) (sx_notef hy hr hI20368 v20370 ) (Nat.le_of_ble_eq_true rfl) ?_
                  intro r I20384 J20385 Ra hq
                  obtain ⟨⟨hI20384, ec, fiI20384, fjI20384⟩, rfl⟩ := hq
                  rw [ec]
                  clear ec Ra
                  have fr20386 : fz 74 g [1, 3, 4, 6, 7, 8, 9, 10, 11, 12, 13, 14, 15, 16, 17, 18, 19, 21] I I20384 := fz_tr fr20371 (fz_mono fiI20384 (by decide))
                  have fr20387 : fz 74 g [1, 20] J J20385 := fz_tr fr20372 (fz_mono fjI20384 (by decide))
                  have e20388 : I20384 (ad g 4) 0 = w20375 := by rw [fz_at fiI20384 4 (by decide) (by decide)]; exact ew20375
                  have e20389 : I20384 (ad g 1) 1 = L := hI20384.2
                  have b20390 := BT_get hI20384.1 1 1 2 (0) (0) (900) (by decide) 1 (by decide) (by decide)
                  rw [e20389] at b20390
                  refine WQ_iconst (0) (0) dX3_readTown_97 rfl rfl (fun v20391 hv20391 => ?_)
                  exact WP_zret dX3_readTown_98 rfl (nar_z (by omega)) ⟨⟨hI20384, rfl, fr20386, fr20387⟩, _, rfl, by omega, by omega⟩
            · refine WP_aload_n dX3_readTown_59 rfl ?_
              refine WP_iload_n dX3_readTown_60 rfl ?_
              refine WP_callV1 (k := 7) dX3_readTown_61 ⟨⟨⟨by decide, by decide⟩, zX7_faultAhead⟩, lX3_50, by decide, rfl, vX7_faultAhead.1, vX7_faultAhead.2⟩ (lyx_is hy 6 7 rfl) (sx_faultAhead_6_8 hy hr hI20014 v20022 (by omega) (by omega)) (Nat.le_of_ble_eq_true rfl) ?_
              intro r Ia Ja Ra hq
              obtain ⟨⟨ea, eb, ec⟩, v20392, rfl, av20392, bv20392⟩ := hq
              show WP _ _ _ _ (.int _ :: _) _ _ _ _
              rw [ea, eb, ec]
              clear ea eb ec Ia Ja Ra
              refine WP_istore (ls' := [(0, _), (1, _), (2, _), (3, _), (4, _)]) dX3_readTown_64 (by decide) rfl ?_
              refine WP_iload dX3_readTown_66 rfl ?_
              refine WQ_if_ne 86 dX3_readTown_68 rfl (fun c20392 => ?_) (fun c20392 => ?_)
              · refine WP_iload dX3_readTown_86 rfl ?_
                refine WQ_if_eq 99 dX3_readTown_88 rfl (fun c20393 => False.elim (by omega)) (fun c20393 => ?_)
                refine WP_aload_n dX3_readTown_91 rfl ?_
                refine WP_iload dX3_readTown_92 rfl ?_
                refine WP_callV1 (k := 3) dX3_readTown_94 ⟨⟨⟨by decide, by decide⟩, zX3_note⟩, lX3_31, by decide, rfl, vX3_note.1, vX3_note.2⟩ (lyx_is hy 3 3 rfl) (sx_notef hy hr hI20014 v20392 ) (Nat.le_of_ble_eq_true rfl) ?_
                intro r I20395 J20396 Ra hq
                obtain ⟨⟨hI20395, ec, fiI20395, fjI20395⟩, rfl⟩ := hq
                rw [ec]
                clear ec Ra
                have fr20397 : fz 74 g [1, 3, 4, 6, 7, 8, 9, 10, 11, 12, 13, 14, 15, 16, 17, 18, 19, 21] I I20395 := fz_tr fr20016 (fz_mono fiI20395 (by decide))
                have fr20398 : fz 74 g [1, 20] J J20396 := fz_tr fr20017 (fz_mono fjI20395 (by decide))
                have e20399 : I20395 (ad g 1) 2 = v20020 := by rw [fz_at fiI20395 1 (by decide) (by decide)]; exact ev20020
                have e20400 : I20395 (ad g 1) 1 = L := hI20395.2
                have b20401 := BT_get hI20395.1 1 1 2 (0) (0) (900) (by decide) 1 (by decide) (by decide)
                rw [e20400] at b20401
                refine WQ_iconst (0) (0) dX3_readTown_97 rfl rfl (fun v20402 hv20402 => ?_)
                exact WP_zret dX3_readTown_98 rfl (nar_z (by omega)) ⟨⟨hI20395, rfl, fr20397, fr20398⟩, _, rfl, by omega, by omega⟩
              · refine WP_aload_n dX3_readTown_71 rfl ?_
                refine WP_getr dX3_readTown_72 fX3_15 rfl (lyx_is hy 3 3 rfl) (rfx hr 3 2 1 (by decide)) ?_
                refine WP_callV0 (k := 5) dX3_readTown_75 ⟨⟨⟨by decide, by decide⟩, zX5_next⟩, lX3_40, by decide, rfl, vX5_next.1, vX5_next.2⟩ (lyx_is hy 1 5 rfl) (sx_nextf hy hr hI20014  ) (Nat.le_of_ble_eq_true rfl) ?_
                intro r I20403 J20404 Ra hq
                obtain ⟨⟨hI20403, ec, fiI20403, fjI20403⟩, rfl⟩ := hq
                rw [ec]
                clear ec Ra
                have fr20405 : fz 74 g [1, 3, 4, 6, 7, 8, 9, 10, 11, 12, 13, 14, 15, 16, 17, 18, 19, 21] I I20403 := fz_tr fr20016 (fz_mono fiI20403 (by decide))
                have fr20406 : fz 74 g [1, 20] J J20404 := fz_tr fr20017 (fz_mono fjI20403 (by decide))
                have e20407 : I20403 (ad g 1) 1 = L := hI20403.2
                have b20408 := BT_get hI20403.1 1 1 2 (0) (0) (900) (by decide) 1 (by decide) (by decide)
                rw [e20407] at b20408
                refine WP_aload_n dX3_readTown_78 rfl ?_
                refine WP_iload_n dX3_readTown_79 rfl ?_
                refine WP_aload_n dX3_readTown_80 rfl ?_
                refine WP_callV2 (k := 3) dX3_readTown_81 ⟨⟨⟨by decide, by decide⟩, zX3_faultInParts⟩, lX3_54, by decide, rfl, vX3_faultInParts.1, vX3_faultInParts.2⟩ (lyx_is hy 3 3 rfl) (sx_parts_6_8 hy hz hr hI20403 v20022 (by omega) (by omega)) (Nat.le_of_ble_eq_true rfl) ?_
                intro r I20409 J20410 Ra hq
                obtain ⟨⟨hI20409, ec, fiI20409, fjI20409, ⟨pI20409, sI20409_6_1, sI20409_6_2⟩⟩, v20411, rfl, av20411, bv20411, cv20411⟩ := hq
                show WP _ _ _ _ (.int _ :: _) _ _ _ _
                rw [ec]
                clear ec Ra
                have fr20412 : fz 74 g [1, 3, 4, 6, 7, 8, 9, 10, 11, 12, 13, 14, 15, 16, 17, 18, 19, 21] I I20409 := fz_tr fr20405 (fz_mono fiI20409 (by decide))
                have fr20413 : fz 74 g [1, 20] J J20410 := fz_tr fr20406 (fz_mono fjI20409 (by decide))
                have e20414 : I20409 (ad g 1) 1 = L := hI20409.2
                have b20415 := BT_get hI20409.1 1 1 2 (0) (0) (900) (by decide) 1 (by decide) (by decide)
                rw [e20414] at b20415
                obtain ⟨w20416, ew20416⟩ : ∃ w : Int32, I20409 (ad g 4) 0 = w := ⟨_, rfl⟩
                have bw20416 := BT_get hI20409.1 4 0 5 (0) (0) (1000) (by decide) 0 (by decide) (by decide)
                rw [ew20416] at bw20416
                rw [ew20416] at cv20411
                refine WP_istore (ls' := [(0, _), (1, _), (2, _), (3, _), (4, _)]) dX3_readTown_84 (by decide) rfl ?_
                refine WP_iload dX3_readTown_86 rfl ?_
                refine WQ_if_eq 99 dX3_readTown_88 rfl (fun c20416 => ?_) (fun c20416 => ?_)
                · refine WP_aload_n dX3_readTown_99 rfl ?_
                  refine WP_iload_n dX3_readTown_100 rfl ?_
                  refine WP_aload_n dX3_readTown_101 rfl ?_
                  refine WP_getr dX3_readTown_102 fX3_9 rfl (lyx_is hy 3 3 rfl) (rfx hr 3 3 4 (by decide)) ?_
                  refine WP_callV2 (k := 7) dX3_readTown_105 ⟨⟨⟨by decide, by decide⟩, zX7_tell⟩, lX3_58, by decide, rfl, vX7_tell.1, vX7_tell.2⟩ (lyx_is hy 6 7 rfl) (sx_tell_6_8 hy hr hI20409 v20022 (by omega) (by omega) (by rw [ew20416]; omega)) (Nat.le_of_ble_eq_true rfl) ?_
                  intro r I20418 J20419 Ra hq
                  obtain ⟨⟨hI20418, ec, fiI20418, fjI20418, pI20418⟩, rfl⟩ := hq
                  rw [ec]
                  clear ec Ra
                  have fr20420 : fz 74 g [1, 3, 4, 6, 7, 8, 9, 10, 11, 12, 13, 14, 15, 16, 17, 18, 19, 21] I I20418 := fz_tr fr20412 (fz_mono fiI20418 (by decide))
                  have fr20421 : fz 74 g [1, 20] J J20419 := fz_tr fr20413 (fz_mono fjI20418 (by decide))
                  have e20422 : I20418 (ad g 1) 1 = L := hI20418.2
                  have b20423 := BT_get hI20418.1 1 1 2 (0) (0) (900) (by decide) 1 (by decide) (by decide)
                  rw [e20422] at b20423
                  refine WP_iinc (ls' := [(0, _), (1, _), (2, _), (3, _), (4, _)]) dX3_readTown_108 rfl (by decide) rfl ?_
                  have hv20424 : (i20005 + Int32.ofInt (1)).toInt = i20005.toInt + (1) := ia_n rfl (by omega) (by omega)
                  generalize i20005 + Int32.ofInt (1) = v20424 at hv20424 ⊢
                  refine WP_goto 18 dX3_readTown_111 rfl ?_
                  exact WP_sub (fc rfl (fc rfl (fc rfl fn))) (ihlp18_20007 v20424 I20418 J20419 hI20418 fr20420 fr20421 (by omega) (by omega) (by omega))
                · refine WP_aload_n dX3_readTown_91 rfl ?_
                  refine WP_iload dX3_readTown_92 rfl ?_
                  refine WP_callV1 (k := 3) dX3_readTown_94 ⟨⟨⟨by decide, by decide⟩, zX3_note⟩, lX3_31, by decide, rfl, vX3_note.1, vX3_note.2⟩ (lyx_is hy 3 3 rfl) (sx_notef hy hr hI20409 v20411 ) (Nat.le_of_ble_eq_true rfl) ?_
                  intro r I20425 J20426 Ra hq
                  obtain ⟨⟨hI20425, ec, fiI20425, fjI20425⟩, rfl⟩ := hq
                  rw [ec]
                  clear ec Ra
                  have fr20427 : fz 74 g [1, 3, 4, 6, 7, 8, 9, 10, 11, 12, 13, 14, 15, 16, 17, 18, 19, 21] I I20425 := fz_tr fr20412 (fz_mono fiI20425 (by decide))
                  have fr20428 : fz 74 g [1, 20] J J20426 := fz_tr fr20413 (fz_mono fjI20425 (by decide))
                  have e20429 : I20425 (ad g 4) 0 = w20416 := by rw [fz_at fiI20425 4 (by decide) (by decide)]; exact ew20416
                  have e20430 : I20425 (ad g 1) 1 = L := hI20425.2
                  have b20431 := BT_get hI20425.1 1 1 2 (0) (0) (900) (by decide) 1 (by decide) (by decide)
                  rw [e20430] at b20431
                  refine WQ_iconst (0) (0) dX3_readTown_97 rfl rfl (fun v20432 hv20432 => ?_)
                  exact WP_zret dX3_readTown_98 rfl (nar_z (by omega)) ⟨⟨hI20425, rfl, fr20427, fr20428⟩, _, rfl, by omega, by omega⟩
            · refine WP_aload_n dX3_readTown_59 rfl ?_
              refine WP_iload_n dX3_readTown_60 rfl ?_
              refine WP_callV1 (k := 7) dX3_readTown_61 ⟨⟨⟨by decide, by decide⟩, zX7_faultAhead⟩, lX3_50, by decide, rfl, vX7_faultAhead.1, vX7_faultAhead.2⟩ (lyx_is hy 6 7 rfl) (sx_faultAhead_6_9 hy hr hI20014 v20022 (by omega) (by omega)) (Nat.le_of_ble_eq_true rfl) ?_
              intro r Ia Ja Ra hq
              obtain ⟨⟨ea, eb, ec⟩, v20433, rfl, av20433, bv20433⟩ := hq
              show WP _ _ _ _ (.int _ :: _) _ _ _ _
              rw [ea, eb, ec]
              clear ea eb ec Ia Ja Ra
              refine WP_istore (ls' := [(0, _), (1, _), (2, _), (3, _), (4, _)]) dX3_readTown_64 (by decide) rfl ?_
              refine WP_iload dX3_readTown_66 rfl ?_
              refine WQ_if_ne 86 dX3_readTown_68 rfl (fun c20433 => ?_) (fun c20433 => ?_)
              · refine WP_iload dX3_readTown_86 rfl ?_
                refine WQ_if_eq 99 dX3_readTown_88 rfl (fun c20434 => False.elim (by omega)) (fun c20434 => ?_)
                refine WP_aload_n dX3_readTown_91 rfl ?_
                refine WP_iload dX3_readTown_92 rfl ?_
                refine WP_callV1 (k := 3) dX3_readTown_94 ⟨⟨⟨by decide, by decide⟩, zX3_note⟩, lX3_31, by decide, rfl, vX3_note.1, vX3_note.2⟩ (lyx_is hy 3 3 rfl) (sx_notef hy hr hI20014 v20433 ) (Nat.le_of_ble_eq_true rfl) ?_
                intro r I20436 J20437 Ra hq
                obtain ⟨⟨hI20436, ec, fiI20436, fjI20436⟩, rfl⟩ := hq
                rw [ec]
                clear ec Ra
                have fr20438 : fz 74 g [1, 3, 4, 6, 7, 8, 9, 10, 11, 12, 13, 14, 15, 16, 17, 18, 19, 21] I I20436 := fz_tr fr20016 (fz_mono fiI20436 (by decide))
                have fr20439 : fz 74 g [1, 20] J J20437 := fz_tr fr20017 (fz_mono fjI20436 (by decide))
                have e20440 : I20436 (ad g 1) 2 = v20020 := by rw [fz_at fiI20436 1 (by decide) (by decide)]; exact ev20020
                have e20441 : I20436 (ad g 1) 1 = L := hI20436.2
                have b20442 := BT_get hI20436.1 1 1 2 (0) (0) (900) (by decide) 1 (by decide) (by decide)
                rw [e20441] at b20442
                refine WQ_iconst (0) (0) dX3_readTown_97 rfl rfl (fun v20443 hv20443 => ?_)
                exact WP_zret dX3_readTown_98 rfl (nar_z (by omega)) ⟨⟨hI20436, rfl, fr20438, fr20439⟩, _, rfl, by omega, by omega⟩
              · refine WP_aload_n dX3_readTown_71 rfl ?_
                refine WP_getr dX3_readTown_72 fX3_15 rfl (lyx_is hy 3 3 rfl) (rfx hr 3 2 1 (by decide)) ?_
                refine WP_callV0 (k := 5) dX3_readTown_75 ⟨⟨⟨by decide, by decide⟩, zX5_next⟩, lX3_40, by decide, rfl, vX5_next.1, vX5_next.2⟩ (lyx_is hy 1 5 rfl) (sx_nextf hy hr hI20014  ) (Nat.le_of_ble_eq_true rfl) ?_
                intro r I20444 J20445 Ra hq
                obtain ⟨⟨hI20444, ec, fiI20444, fjI20444⟩, rfl⟩ := hq
                rw [ec]
                clear ec Ra
                have fr20446 : fz 74 g [1, 3, 4, 6, 7, 8, 9, 10, 11, 12, 13, 14, 15, 16, 17, 18, 19, 21] I I20444 := fz_tr fr20016 (fz_mono fiI20444 (by decide))
                have fr20447 : fz 74 g [1, 20] J J20445 := fz_tr fr20017 (fz_mono fjI20444 (by decide))
                have e20448 : I20444 (ad g 1) 1 = L := hI20444.2
                have b20449 := BT_get hI20444.1 1 1 2 (0) (0) (900) (by decide) 1 (by decide) (by decide)
                rw [e20448] at b20449
                refine WP_aload_n dX3_readTown_78 rfl ?_
                refine WP_iload_n dX3_readTown_79 rfl ?_
                refine WP_aload_n dX3_readTown_80 rfl ?_
                refine WP_callV2 (k := 3) dX3_readTown_81 ⟨⟨⟨by decide, by decide⟩, zX3_faultInParts⟩, lX3_54, by decide, rfl, vX3_faultInParts.1, vX3_faultInParts.2⟩ (lyx_is hy 3 3 rfl) (sx_parts_6_9 hy hz hr hI20444 v20022 (by omega) (by omega)) (Nat.le_of_ble_eq_true rfl) ?_
                intro r I20450 J20451 Ra hq
                obtain ⟨⟨hI20450, ec, fiI20450, fjI20450, ⟨pI20450, sI20450_6_1, sI20450_6_2⟩⟩, v20452, rfl, av20452, bv20452, cv20452⟩ := hq
                show WP _ _ _ _ (.int _ :: _) _ _ _ _
                rw [ec]
                clear ec Ra
                have fr20453 : fz 74 g [1, 3, 4, 6, 7, 8, 9, 10, 11, 12, 13, 14, 15, 16, 17, 18, 19, 21] I I20450 := fz_tr fr20446 (fz_mono fiI20450 (by decide))
                have fr20454 : fz 74 g [1, 20] J J20451 := fz_tr fr20447 (fz_mono fjI20450 (by decide))
                have e20455 : I20450 (ad g 1) 1 = L := hI20450.2
                have b20456 := BT_get hI20450.1 1 1 2 (0) (0) (900) (by decide) 1 (by decide) (by decide)
                rw [e20455] at b20456
                obtain ⟨w20457, ew20457⟩ : ∃ w : Int32, I20450 (ad g 4) 0 = w := ⟨_, rfl⟩
                have bw20457 := BT_get hI20450.1 4 0 5 (0) (0) (1000) (by decide) 0 (by decide) (by decide)
                rw [ew20457] at bw20457
                rw [ew20457] at cv20452
                refine WP_istore (ls' := [(0, _), (1, _), (2, _), (3, _), (4, _)]) dX3_readTown_84 (by decide) rfl ?_
                refine WP_iload dX3_readTown_86 rfl ?_
                refine WQ_if_eq 99 dX3_readTown_88 rfl (fun c20457 => ?_) (fun c20457 => ?_)
                · refine WP_aload_n dX3_readTown_99 rfl ?_
                  refine WP_iload_n dX3_readTown_100 rfl ?_
                  refine WP_aload_n dX3_readTown_101 rfl ?_
                  refine WP_getr dX3_readTown_102 fX3_9 rfl (lyx_is hy 3 3 rfl) (rfx hr 3 3 4 (by decide)) ?_
                  refine WP_callV2 (k := 7) dX3_readTown_105 ⟨⟨⟨by decide, by decide⟩, zX7_tell⟩, lX3_58, by decide, rfl, vX7_tell.1, vX7_tell.2⟩ (lyx_is hy 6 7 rfl) (sx_tell_6_9 hy hr hI20450 v20022 (by omega) (by omega) (by rw [ew20457]; omega)) (Nat.le_of_ble_eq_true rfl) ?_
                  intro r I20459 J20460 Ra hq
                  obtain ⟨⟨hI20459, ec, fiI20459, fjI20459, pI20459⟩, rfl⟩ := hq
                  rw [ec]
                  clear ec Ra
                  have fr20461 : fz 74 g [1, 3, 4, 6, 7, 8, 9, 10, 11, 12, 13, 14, 15, 16, 17, 18, 19, 21] I I20459 := fz_tr fr20453 (fz_mono fiI20459 (by decide))
                  have fr20462 : fz 74 g [1, 20] J J20460 := fz_tr fr20454 (fz_mono fjI20459 (by decide))
                  have e20463 : I20459 (ad g 1) 1 = L := hI20459.2
                  have b20464 := BT_get hI20459.1 1 1 2 (0) (0) (900) (by decide) 1 (by decide) (by decide)
                  rw [e20463] at b20464
                  refine WP_iinc (ls' := [(0, _), (1, _), (2, _), (3, _), (4, _)]) dX3_readTown_108 rfl (by decide) rfl ?_
                  have hv20465 : (i20005 + Int32.ofInt (1)).toInt = i20005.toInt + (1) := ia_n rfl (by omega) (by omega)
                  generalize i20005 + Int32.ofInt (1) = v20465 at hv20465 ⊢
                  refine WP_goto 18 dX3_readTown_111 rfl ?_
                  exact WP_sub (fc rfl (fc rfl (fc rfl fn))) (ihlp18_20007 v20465 I20459 J20460 hI20459 fr20461 fr20462 (by omega) (by omega) (by omega))
                · refine WP_aload_n dX3_readTown_91 rfl ?_
                  refine WP_iload dX3_readTown_92 rfl ?_
                  refine WP_callV1 (k := 3) dX3_readTown_94 ⟨⟨⟨by decide, by decide⟩, zX3_note⟩, lX3_31, by decide, rfl, vX3_note.1, vX3_note.2⟩ (lyx_is hy 3 3 rfl) (sx_notef hy hr hI20450 v20452 ) (Nat.le_of_ble_eq_true rfl) ?_
                  intro r I20466 J20467 Ra hq
                  obtain ⟨⟨hI20466, ec, fiI20466, fjI20466⟩, rfl⟩ := hq
                  rw [ec]
                  clear ec Ra
                  have fr20468 : fz 74 g [1, 3, 4, 6, 7, 8, 9, 10, 11, 12, 13, 14, 15, 16, 17, 18, 19, 21] I I20466 := fz_tr fr20453 (fz_mono fiI20466 (by decide))
                  have fr20469 : fz 74 g [1, 20] J J20467 := fz_tr fr20454 (fz_mono fjI20466 (by decide))
                  have e20470 : I20466 (ad g 4) 0 = w20457 := by rw [fz_at fiI20466 4 (by decide) (by decide)]; exact ew20457
                  have e20471 : I20466 (ad g 1) 1 = L := hI20466.2
                  have b20472 := BT_get hI20466.1 1 1 2 (0) (0) (900) (by decide) 1 (by decide) (by decide)
                  rw [e20471] at b20472
                  refine WQ_iconst (0) (0) dX3_readTown_97 rfl rfl (fun v20473 hv20473 => ?_)
                  exact WP_zret dX3_readTown_98 rfl (nar_z (by omega)) ⟨⟨hI20466, rfl, fr20468, fr20469⟩, _, rfl, by omega, by omega⟩
          · refine WQ_iconst (1) (1) dX3_readTown_55 rfl rfl (fun v20474 hv20474 => ?_)
            refine WP_goto 64 dX3_readTown_56 rfl ?_
            refine WP_istore (ls' := [(0, _), (1, _), (2, _), (3, _), (4, _)]) dX3_readTown_64 (by decide) rfl ?_
            refine WP_iload dX3_readTown_66 rfl ?_
            refine WQ_if_ne 86 dX3_readTown_68 rfl (fun c20474 => ?_) (fun c20474 => False.elim (by omega))
            refine WP_iload dX3_readTown_86 rfl ?_
            refine WQ_if_eq 99 dX3_readTown_88 rfl (fun c20475 => False.elim (by omega)) (fun c20475 => ?_)
            refine WP_aload_n dX3_readTown_91 rfl ?_
            refine WP_iload dX3_readTown_92 rfl ?_
            refine WP_callV1 (k := 3) dX3_readTown_94 ⟨⟨⟨by decide, by decide⟩, zX3_note⟩, lX3_31, by decide, rfl, vX3_note.1, vX3_note.2⟩ (lyx_is hy 3 3 rfl) (sx_notef hy hr hI20014 v20474 ) (Nat.le_of_ble_eq_true rfl) ?_
            intro r I20477 J20478 Ra hq
            obtain ⟨⟨hI20477, ec, fiI20477, fjI20477⟩, rfl⟩ := hq
            rw [ec]
            clear ec Ra
            have fr20479 : fz 74 g [1, 3, 4, 6, 7, 8, 9, 10, 11, 12, 13, 14, 15, 16, 17, 18, 19, 21] I I20477 := fz_tr fr20016 (fz_mono fiI20477 (by decide))
            have fr20480 : fz 74 g [1, 20] J J20478 := fz_tr fr20017 (fz_mono fjI20477 (by decide))
            have e20481 : I20477 (ad g 1) 2 = v20020 := by rw [fz_at fiI20477 1 (by decide) (by decide)]; exact ev20020
            have e20482 : I20477 (ad g 1) 1 = L := hI20477.2
            have b20483 := BT_get hI20477.1 1 1 2 (0) (0) (900) (by decide) 1 (by decide) (by decide)
            rw [e20482] at b20483
            refine WQ_iconst (0) (0) dX3_readTown_97 rfl rfl (fun v20484 hv20484 => ?_)
            exact WP_zret dX3_readTown_98 rfl (nar_z (by omega)) ⟨⟨hI20477, rfl, fr20479, fr20480⟩, _, rfl, by omega, by omega⟩
        · refine WP_goto 114 dX3_readTown_42 rfl ?_
          refine WQ_iconst (1) (1) dX3_readTown_114 rfl rfl (fun v20485 hv20485 => ?_)
          exact WP_zret dX3_readTown_115 rfl (nar_z (by omega)) ⟨⟨hI20014, rfl, fr20016, fr20017⟩, _, rfl, by omega, by omega⟩
  exact WP_sub (fc rfl (fc rfl (fc rfl fn))) (lp18_20007 _ v20004 I19998 J19999 hI19998 fr20000 fr20001 (by omega) (by omega) (Nat.lt_succ_self _))
set_option maxHeartbeats 4000000 in
set_option maxRecDepth 100000 in
theorem sx_readBook_6 {g : GG} {n : Int} {L : Int32} (hy : LyX g) {aK aV : Nat → Nat} {fo : Option Nat} (hz : HZ g aK aV fo)  {I : pI} {J : pJ} {R : pR} (hr : RfX g R) (hI : XI g n L I)   : SP g mX3_readBook [.ref (ad g 3), .ref (ad g 6)] I J R (fun r I' J' R' => (XI g n L I' ∧ R' = R ∧ fz 74 g [1, 3, 4] I I' ∧ fz 74 g [1] J J') ∧ ∃ v : Int32, r = some (.int v)) := by
  refine SP_of ⟨by decide, rfl⟩ (Nat.le_of_ble_eq_true rfl) ?_
  have e20486 : I (ad g 1) 1 = L := hI.2
  have b20487 := BT_get hI.1 1 1 2 (0) (0) (900) (by decide) 1 (by decide) (by decide)
  rw [e20486] at b20487
  have fr0 : fz 74 g [1, 3, 4] I I := fz_rf
  have frj0 : fz 74 g [1] J J := fz_rf
  refine WQ_bipush (-3) (-3) dX3_readBook_0 rfl rfl (fun v20488 hv20488 => ?_)
  refine WP_istore_n (ls' := [(0, _), (1, _), (2, _)]) dX3_readBook_2 (by decide) rfl ?_
  refine WP_aload_n dX3_readBook_3 rfl ?_
  refine WQ_iconst (0) (0) dX3_readBook_4 rfl rfl (fun v20489 hv20489 => ?_)
  refine WP_callV1 (k := 3) dX3_readBook_5 ⟨⟨⟨by decide, by decide⟩, zX3_note⟩, lX3_31, by decide, rfl, vX3_note.1, vX3_note.2⟩ (lyx_is hy 3 3 rfl) (sx_notef hy hr hI v20489 ) (Nat.le_of_ble_eq_true rfl) ?_
  intro r I20490 J20491 Ra hq
  obtain ⟨⟨hI20490, ec, fiI20490, fjI20490⟩, rfl⟩ := hq
  rw [ec]
  clear ec Ra
  have fr20492 : fz 74 g [1, 3, 4] I I20490 := fz_tr fr0 (fz_mono fiI20490 (by decide))
  have fr20493 : fz 74 g [1] J J20491 := fz_tr frj0 (fz_mono fjI20490 (by decide))
  have e20494 : I20490 (ad g 1) 1 = L := hI20490.2
  have b20495 := BT_get hI20490.1 1 1 2 (0) (0) (900) (by decide) 1 (by decide) (by decide)
  rw [e20494] at b20495
  refine WP_aload_n dX3_readBook_8 rfl ?_
  refine WP_getr dX3_readBook_9 fX3_15 rfl (lyx_is hy 3 3 rfl) (rfx hr 3 2 1 (by decide)) ?_
  refine WP_callV0 (k := 5) dX3_readBook_12 ⟨⟨⟨by decide, by decide⟩, zX5_rewind⟩, lX3_35, by decide, rfl, vX5_rewind.1, vX5_rewind.2⟩ (lyx_is hy 1 5 rfl) (sx_rewindf hy hr hI20490  ) (Nat.le_of_ble_eq_true rfl) ?_
  intro r I20496 J20497 Ra hq
  obtain ⟨⟨hI20496, ec, fiI20496, fjI20496⟩, rfl⟩ := hq
  rw [ec]
  clear ec Ra
  have fr20498 : fz 74 g [1, 3, 4] I I20496 := fz_tr fr20492 (fz_mono fiI20496 (by decide))
  have fr20499 : fz 74 g [1] J J20497 := fz_tr fr20493 (fz_mono fjI20496 (by decide))
  have e20500 : I20496 (ad g 1) 1 = L := hI20496.2
  have b20501 := BT_get hI20496.1 1 1 2 (0) (0) (900) (by decide) 1 (by decide) (by decide)
  rw [e20500] at b20501
  refine WQ_iconst (0) (0) dX3_readBook_15 rfl rfl (fun v20502 hv20502 => ?_)
  refine WP_istore_n (ls' := [(0, _), (1, _), (2, _), (3, _)]) dX3_readBook_16 (by decide) rfl ?_
  have lp17_20506 : ∀ (mz : Nat) (i20503 : Int32) (i20504 : Int32) (I20505 : pI) (J20506 : pJ), XI g n L I20505 → fz 74 g [1, 3, 4] I I20505 → fz 74 g [1] J J20506 → 0 ≤ i20504.toInt → i20504.toInt ≤ 901 → (902 - i20504.toInt).toNat < mz → WP g mX3_readBook 17 [(0, .ref (ad g 3)), (1, .ref (ad g 6)), (2, .int i20503), (3, .int i20504)] [] I20505 J20506 R (fun r I' J' R' => (XI g n L I' ∧ R' = R ∧ fz 74 g [1, 3, 4] I I' ∧ fz 74 g [1] J J') ∧ ∃ v : Int32, r = some (.int v)) := by
    intro mz
    induction mz with
    | zero =>
      intro i20503 i20504 I20505 J20506 hI20505 fiI20505 fjJ20506 ai20504 bi20504 hmlp17_20506
      exact absurd hmlp17_20506 (Nat.not_lt_zero _)
    | succ mz ihlp17_20506 =>
      intro i20503 i20504 I20505 J20506 hI20505 fiI20505 fjJ20506 ai20504 bi20504 hmlp17_20506
      have e20508 : I20505 (ad g 1) 1 = L := hI20505.2
      have b20509 := BT_get hI20505.1 1 1 2 (0) (0) (900) (by decide) 1 (by decide) (by decide)
      rw [e20508] at b20509
      refine WP_iload_n dX3_readBook_17 rfl ?_
      refine WQ_sipush (900) (900) dX3_readBook_18 rfl rfl (fun v20510 hv20510 => ?_)
      refine WQ_icmp_gt 91 dX3_readBook_21 rfl (fun c20510 => ?_) (fun c20510 => ?_)
      · refine WP_iload_n dX3_readBook_91 rfl ?_
        exact WP_iret dX3_readBook_92 rfl ⟨⟨hI20505, rfl, fiI20505, fjJ20506⟩, _, rfl⟩
      · refine WP_aload_n dX3_readBook_24 rfl ?_
        refine WP_getr dX3_readBook_25 fX3_15 rfl (lyx_is hy 3 3 rfl) (rfx hr 3 2 1 (by decide)) ?_
        refine WP_callV0 (k := 5) dX3_readBook_28 ⟨⟨⟨by decide, by decide⟩, zX5_next⟩, lX3_40, by decide, rfl, vX5_next.1, vX5_next.2⟩ (lyx_is hy 1 5 rfl) (sx_nextf hy hr hI20505  ) (Nat.le_of_ble_eq_true rfl) ?_
        intro r I20512 J20513 Ra hq
        obtain ⟨⟨hI20512, ec, fiI20512, fjI20512⟩, rfl⟩ := hq
        rw [ec]
        clear ec Ra
        have fr20514 : fz 74 g [1, 3, 4] I I20512 := fz_tr fiI20505 (fz_mono fiI20512 (by decide))
        have fr20515 : fz 74 g [1] J J20513 := fz_tr fjJ20506 (fz_mono fjI20512 (by decide))
        have e20516 : I20512 (ad g 1) 1 = L := hI20512.2
        have b20517 := BT_get hI20512.1 1 1 2 (0) (0) (900) (by decide) 1 (by decide) (by decide)
        rw [e20516] at b20517
        refine WP_aload_n dX3_readBook_31 rfl ?_
        refine WP_getr dX3_readBook_32 fX3_15 rfl (lyx_is hy 3 3 rfl) (rfx hr 3 2 1 (by decide)) ?_
        refine WQ_geti dX3_readBook_35 fX3_43 rfl (lyx_is hy 1 5 rfl) (BT_get hI20512.1 1 2 3 (0) (0) (4) (by decide) 2 (by decide) (by decide)) (fun v20518 ev20518 av20518 bv20518 => ?_)
        refine WQ_if_ne 44 dX3_readBook_38 rfl (fun c20518 => ?_) (fun c20518 => ?_)
        · refine WP_aload_n dX3_readBook_44 rfl ?_
          refine WQ_bipush (10) (10) dX3_readBook_45 rfl rfl (fun v20520 hv20520 => ?_)
          refine WP_aload_n dX3_readBook_47 rfl ?_
          refine WP_callV2 (k := 3) dX3_readBook_48 ⟨⟨⟨by decide, by decide⟩, zX3_faultInParts⟩, lX3_54, by decide, rfl, vX3_faultInParts.1, vX3_faultInParts.2⟩ (lyx_is hy 3 3 rfl) (sx_parts_6_10 hy hz hr hI20512 v20520 (by omega) (by omega)) (Nat.le_of_ble_eq_true rfl) ?_
          intro r I20521 J20522 Ra hq
          obtain ⟨⟨hI20521, ec, fiI20521, fjI20521, ⟨pI20521, sI20521_6_1, sI20521_6_2⟩⟩, v20523, rfl, av20523, bv20523, cv20523⟩ := hq
          show WP _ _ _ _ (.int _ :: _) _ _ _ _
          rw [ec]
          clear ec Ra
          have fr20524 : fz 74 g [1, 3, 4] I I20521 := fz_tr fr20514 (fz_mono fiI20521 (by decide))
          have fr20525 : fz 74 g [1] J J20522 := fz_tr fr20515 (fz_mono fjI20521 (by decide))
          have e20526 : I20521 (ad g 1) 1 = L := hI20521.2
          have b20527 := BT_get hI20521.1 1 1 2 (0) (0) (900) (by decide) 1 (by decide) (by decide)
          rw [e20526] at b20527
          obtain ⟨w20528, ew20528⟩ : ∃ w : Int32, I20521 (ad g 4) 0 = w := ⟨_, rfl⟩
          have bw20528 := BT_get hI20521.1 4 0 5 (0) (0) (1000) (by decide) 0 (by decide) (by decide)
          rw [ew20528] at bw20528
          rw [ew20528] at cv20523
          obtain ⟨w20529, ew20529⟩ : ∃ w : Int32, I20521 (ad g 4) 1 = w := ⟨_, rfl⟩
          have bw20529 := BT_get hI20521.1 4 0 5 (0) (0) (1000) (by decide) 1 (by decide) (by decide)
          rw [ew20529] at bw20529
          rw [ew20529] at cv20523
          obtain ⟨w20530, ew20530⟩ : ∃ w : Int32, I20521 (ad g 4) 2 = w := ⟨_, rfl⟩
          have bw20530 := BT_get hI20521.1 4 0 5 (0) (0) (1000) (by decide) 2 (by decide) (by decide)
          rw [ew20530] at bw20530
          rw [ew20530] at cv20523
          obtain ⟨w20531, ew20531⟩ : ∃ w : Int32, I20521 (ad g 4) 3 = w := ⟨_, rfl⟩
          have bw20531 := BT_get hI20521.1 4 0 5 (0) (0) (1000) (by decide) 3 (by decide) (by decide)
          rw [ew20531] at bw20531
          rw [ew20531] at cv20523
          obtain ⟨w20532, ew20532⟩ : ∃ w : Int32, I20521 (ad g 4) 4 = w := ⟨_, rfl⟩
          have bw20532 := BT_get hI20521.1 4 0 5 (0) (0) (1000) (by decide) 4 (by decide) (by decide)
          rw [ew20532] at bw20532
          rw [ew20532] at cv20523
          refine WP_istore (ls' := [(0, _), (1, _), (2, _), (3, _), (4, _)]) dX3_readBook_51 (by decide) rfl ?_
          refine WP_iload dX3_readBook_53 rfl ?_
          refine WQ_if_eq 66 dX3_readBook_55 rfl (fun c20532 => ?_) (fun c20532 => ?_)
          · refine WP_iload_n dX3_readBook_66 rfl ?_
            refine WQ_bipush (-3) (-3) dX3_readBook_67 rfl rfl (fun v20534 hv20534 => ?_)
            refine WQ_icmp_ne 85 dX3_readBook_69 rfl (fun c20534 => ?_) (fun c20534 => ?_)
            · refine WP_iinc (ls' := [(0, _), (1, _), (2, _), (3, _), (4, _)]) dX3_readBook_85 rfl (by decide) rfl ?_
              have hv20536 : (i20504 + Int32.ofInt (1)).toInt = i20504.toInt + (1) := ia_n rfl (by omega) (by omega)
              generalize i20504 + Int32.ofInt (1) = v20536 at hv20536 ⊢
              refine WP_goto 17 dX3_readBook_88 rfl ?_
              exact WP_sub (fc rfl (fc rfl (fc rfl (fc rfl fn)))) (ihlp17_20506 i20503 v20536 I20521 J20522 hI20521 fr20524 fr20525 (by omega) (by omega) (by omega))
            · refine WP_aload_n dX3_readBook_72 rfl ?_
              refine WP_aload_n dX3_readBook_73 rfl ?_
              refine WP_getr dX3_readBook_74 fX3_9 rfl (lyx_is hy 3 3 rfl) (rfx hr 3 3 4 (by decide)) ?_
              refine WP_callV1 (k := 7) dX3_readBook_77 ⟨⟨⟨by decide, by decide⟩, zX7_isLoss⟩, lX3_62, by decide, rfl, vX7_isLoss.1, vX7_isLoss.2⟩ (lyx_is hy 6 7 rfl) (sx_isLoss_6 hy hr hI20521   (by rw [ew20528, ew20530]; omega)) (Nat.le_of_ble_eq_true rfl) ?_
              intro r Ia Ja Ra hq
              obtain ⟨⟨ea, eb, ec⟩, v20537, rfl, av20537, bv20537⟩ := hq
              show WP _ _ _ _ (.int _ :: _) _ _ _ _
              rw [ea, eb, ec]
              clear ea eb ec Ia Ja Ra
              refine WQ_if_eq 85 dX3_readBook_80 rfl (fun c20537 => ?_) (fun c20537 => ?_)
              · refine WP_iinc (ls' := [(0, _), (1, _), (2, _), (3, _), (4, _)]) dX3_readBook_85 rfl (by decide) rfl ?_
                have hv20539 : (i20504 + Int32.ofInt (1)).toInt = i20504.toInt + (1) := ia_n rfl (by omega) (by omega)
                generalize i20504 + Int32.ofInt (1) = v20539 at hv20539 ⊢
                refine WP_goto 17 dX3_readBook_88 rfl ?_
                exact WP_sub (fc rfl (fc rfl (fc rfl (fc rfl fn)))) (ihlp17_20506 i20503 v20539 I20521 J20522 hI20521 fr20524 fr20525 (by omega) (by omega) (by omega))
              · refine WP_iload_n dX3_readBook_83 rfl ?_
                refine WP_istore_n (ls' := [(0, _), (1, _), (2, _), (3, _), (4, _)]) dX3_readBook_84 (by decide) rfl ?_
                refine WP_iinc (ls' := [(0, _), (1, _), (2, _), (3, _), (4, _)]) dX3_readBook_85 rfl (by decide) rfl ?_
                have hv20540 : (i20504 + Int32.ofInt (1)).toInt = i20504.toInt + (1) := ia_n rfl (by omega) (by omega)
                generalize i20504 + Int32.ofInt (1) = v20540 at hv20540 ⊢
                refine WP_goto 17 dX3_readBook_88 rfl ?_
                exact WP_sub (fc rfl (fc rfl (fc rfl (fc rfl fn)))) (ihlp17_20506 i20504 v20540 I20521 J20522 hI20521 fr20524 fr20525 (by omega) (by omega) (by omega))
          · refine WP_aload_n dX3_readBook_58 rfl ?_
            refine WP_iload dX3_readBook_59 rfl ?_
            refine WP_callV1 (k := 3) dX3_readBook_61 ⟨⟨⟨by decide, by decide⟩, zX3_note⟩, lX3_31, by decide, rfl, vX3_note.1, vX3_note.2⟩ (lyx_is hy 3 3 rfl) (sx_notef hy hr hI20521 v20523 ) (Nat.le_of_ble_eq_true rfl) ?_
            intro r I20541 J20542 Ra hq
            obtain ⟨⟨hI20541, ec, fiI20541, fjI20541⟩, rfl⟩ := hq
            rw [ec]
            clear ec Ra
            have fr20543 : fz 74 g [1, 3, 4] I I20541 := fz_tr fr20524 (fz_mono fiI20541 (by decide))
            have fr20544 : fz 74 g [1] J J20542 := fz_tr fr20525 (fz_mono fjI20541 (by decide))
            have e20545 : I20541 (ad g 4) 0 = w20528 := by rw [fz_at fiI20541 4 (by decide) (by decide)]; exact ew20528
            have e20546 : I20541 (ad g 4) 1 = w20529 := by rw [fz_at fiI20541 4 (by decide) (by decide)]; exact ew20529
            have e20547 : I20541 (ad g 4) 2 = w20530 := by rw [fz_at fiI20541 4 (by decide) (by decide)]; exact ew20530
            have e20548 : I20541 (ad g 4) 3 = w20531 := by rw [fz_at fiI20541 4 (by decide) (by decide)]; exact ew20531
            have e20549 : I20541 (ad g 4) 4 = w20532 := by rw [fz_at fiI20541 4 (by decide) (by decide)]; exact ew20532
            have e20550 : I20541 (ad g 1) 1 = L := hI20541.2
            have b20551 := BT_get hI20541.1 1 1 2 (0) (0) (900) (by decide) 1 (by decide) (by decide)
            rw [e20550] at b20551
            refine WQ_iconst (-1) (-1) dX3_readBook_64 rfl rfl (fun v20552 hv20552 => ?_)
            exact WP_iret dX3_readBook_65 rfl ⟨⟨hI20541, rfl, fr20543, fr20544⟩, _, rfl⟩
        · refine WP_goto 91 dX3_readBook_41 rfl ?_
          refine WP_iload_n dX3_readBook_91 rfl ?_
          exact WP_iret dX3_readBook_92 rfl ⟨⟨hI20512, rfl, fr20514, fr20515⟩, _, rfl⟩
  exact WP_sub (fc rfl (fc rfl (fc rfl (fc rfl fn)))) (lp17_20506 _ v20488 v20502 I20496 J20497 hI20496 fr20498 fr20499 (by omega) (by omega) (Nat.lt_succ_self _))
set_option maxHeartbeats 4000000 in
set_option maxRecDepth 100000 in
theorem sx_readValues_6 {g : GG} {n : Int} {L : Int32} (hy : LyX g) {aK aV : Nat → Nat} {fo : Option Nat} (hz : HZ g aK aV fo)  {I : pI} {J : pJ} {R : pR} (hr : RfX g R) (hI : XI g n L I)   : SP g mX3_readValues [.ref (ad g 3), .ref (ad g 6), .ref (ad g 72)] I J R (fun r I' J' R' => (XI g n L I' ∧ R' = R ∧ fz 74 g [1, 4, 72] I I' ∧ fz 74 g [1] J J') ∧ ∃ v : Int32, r = some (.int v) ∧ 0 ≤ v.toInt ∧ v.toInt ≤ 1) := by
  refine SP_of ⟨by decide, rfl⟩ (Nat.le_of_ble_eq_true rfl) ?_
  have e20553 : I (ad g 1) 1 = L := hI.2
  have b20554 := BT_get hI.1 1 1 2 (0) (0) (900) (by decide) 1 (by decide) (by decide)
  rw [e20553] at b20554
  have fr0 : fz 74 g [1, 4, 72] I I := fz_rf
  have frj0 : fz 74 g [1] J J := fz_rf
  refine WP_aload_n dX3_readValues_0 rfl ?_
  refine WP_getr dX3_readValues_1 fX3_15 rfl (lyx_is hy 3 3 rfl) (rfx hr 3 2 1 (by decide)) ?_
  refine WP_callV0 (k := 5) dX3_readValues_4 ⟨⟨⟨by decide, by decide⟩, zX5_rewind⟩, lX3_35, by decide, rfl, vX5_rewind.1, vX5_rewind.2⟩ (lyx_is hy 1 5 rfl) (sx_rewindf hy hr hI  ) (Nat.le_of_ble_eq_true rfl) ?_
  intro r I20555 J20556 Ra hq
  obtain ⟨⟨hI20555, ec, fiI20555, fjI20555⟩, rfl⟩ := hq
  rw [ec]
  clear ec Ra
  have fr20557 : fz 74 g [1, 4, 72] I I20555 := fz_tr fr0 (fz_mono fiI20555 (by decide))
  have fr20558 : fz 74 g [1] J J20556 := fz_tr frj0 (fz_mono fjI20555 (by decide))
  have e20559 : I20555 (ad g 1) 1 = L := hI20555.2
  have b20560 := BT_get hI20555.1 1 1 2 (0) (0) (900) (by decide) 1 (by decide) (by decide)
  rw [e20559] at b20560
  refine WQ_iconst (0) (0) dX3_readValues_7 rfl rfl (fun v20561 hv20561 => ?_)
  refine WP_istore_n (ls' := [(0, _), (1, _), (2, _), (3, _)]) dX3_readValues_8 (by decide) rfl ?_
  have lp9_20564 : ∀ (mz : Nat) (i20562 : Int32) (I20563 : pI) (J20564 : pJ), XI g n L I20563 → fz 74 g [1, 4, 72] I I20563 → fz 74 g [1] J J20564 → 0 ≤ i20562.toInt → i20562.toInt ≤ 4 → (5 - i20562.toInt).toNat < mz → WP g mX3_readValues 9 [(0, .ref (ad g 3)), (1, .ref (ad g 6)), (2, .ref (ad g 72)), (3, .int i20562)] [] I20563 J20564 R (fun r I' J' R' => (XI g n L I' ∧ R' = R ∧ fz 74 g [1, 4, 72] I I' ∧ fz 74 g [1] J J') ∧ ∃ v : Int32, r = some (.int v) ∧ 0 ≤ v.toInt ∧ v.toInt ≤ 1) := by
    intro mz
    induction mz with
    | zero =>
      intro i20562 I20563 J20564 hI20563 fiI20563 fjJ20564 ai20562 bi20562 hmlp9_20564
      exact absurd hmlp9_20564 (Nat.not_lt_zero _)
    | succ mz ihlp9_20564 =>
      intro i20562 I20563 J20564 hI20563 fiI20563 fjJ20564 ai20562 bi20562 hmlp9_20564
      have e20566 : I20563 (ad g 1) 1 = L := hI20563.2
      have b20567 := BT_get hI20563.1 1 1 2 (0) (0) (900) (by decide) 1 (by decide) (by decide)
      rw [e20566] at b20567
      refine WP_iload_n dX3_readValues_9 rfl ?_
      refine WP_aload_n dX3_readValues_10 rfl ?_
      refine WQ_geti dX3_readValues_11 fX3_66 rfl (lyx_is hy 6 7 rfl) (BT_get hI20563.1 6 1 2 (0) (0) (4) (by decide) 1 (by decide) (by decide)) (fun v20568 ev20568 av20568 bv20568 => ?_)
      refine WQ_icmp_ge 76 dX3_readValues_14 rfl (fun c20568 => ?_) (fun c20568 => ?_)
      · refine WP_aload_n dX3_readValues_76 rfl ?_
        refine WP_getr dX3_readValues_77 fX3_15 rfl (lyx_is hy 3 3 rfl) (rfx hr 3 2 1 (by decide)) ?_
        refine WP_callV0 (k := 5) dX3_readValues_80 ⟨⟨⟨by decide, by decide⟩, zX5_next⟩, lX3_40, by decide, rfl, vX5_next.1, vX5_next.2⟩ (lyx_is hy 1 5 rfl) (sx_nextf hy hr hI20563  ) (Nat.le_of_ble_eq_true rfl) ?_
        intro r I20570 J20571 Ra hq
        obtain ⟨⟨hI20570, ec, fiI20570, fjI20570⟩, rfl⟩ := hq
        rw [ec]
        clear ec Ra
        have fr20572 : fz 74 g [1, 4, 72] I I20570 := fz_tr fiI20563 (fz_mono fiI20570 (by decide))
        have fr20573 : fz 74 g [1] J J20571 := fz_tr fjJ20564 (fz_mono fjI20570 (by decide))
        have e20574 : I20570 (ad g 6) 1 = v20568 := by rw [fz_at fiI20570 6 (by decide) (by decide)]; exact ev20568
        have e20575 : I20570 (ad g 1) 1 = L := hI20570.2
        have b20576 := BT_get hI20570.1 1 1 2 (0) (0) (900) (by decide) 1 (by decide) (by decide)
        rw [e20575] at b20576
        refine WP_aload_n dX3_readValues_83 rfl ?_
        refine WP_getr dX3_readValues_84 fX3_15 rfl (lyx_is hy 3 3 rfl) (rfx hr 3 2 1 (by decide)) ?_
        refine WQ_geti dX3_readValues_87 fX3_43 rfl (lyx_is hy 1 5 rfl) (BT_get hI20570.1 1 2 3 (0) (0) (4) (by decide) 2 (by decide) (by decide)) (fun v20577 ev20577 av20577 bv20577 => ?_)
        refine WQ_if_ne 97 dX3_readValues_90 rfl (fun c20577 => ?_) (fun c20577 => ?_)
        · refine WQ_iconst (0) (0) dX3_readValues_97 rfl rfl (fun v20579 hv20579 => ?_)
          exact WP_zret dX3_readValues_98 rfl (nar_z (by omega)) ⟨⟨hI20570, rfl, fr20572, fr20573⟩, _, rfl, by omega, by omega⟩
        · refine WQ_iconst (1) (1) dX3_readValues_93 rfl rfl (fun v20580 hv20580 => ?_)
          refine WP_goto 98 dX3_readValues_94 rfl ?_
          exact WP_zret dX3_readValues_98 rfl (nar_z (by omega)) ⟨⟨hI20570, rfl, fr20572, fr20573⟩, _, rfl, by omega, by omega⟩
      · refine WP_aload_n dX3_readValues_17 rfl ?_
        refine WP_getr dX3_readValues_18 fX3_15 rfl (lyx_is hy 3 3 rfl) (rfx hr 3 2 1 (by decide)) ?_
        refine WP_callV0 (k := 5) dX3_readValues_21 ⟨⟨⟨by decide, by decide⟩, zX5_next⟩, lX3_40, by decide, rfl, vX5_next.1, vX5_next.2⟩ (lyx_is hy 1 5 rfl) (sx_nextf hy hr hI20563  ) (Nat.le_of_ble_eq_true rfl) ?_
        intro r I20581 J20582 Ra hq
        obtain ⟨⟨hI20581, ec, fiI20581, fjI20581⟩, rfl⟩ := hq
        rw [ec]
        clear ec Ra
        have fr20583 : fz 74 g [1, 4, 72] I I20581 := fz_tr fiI20563 (fz_mono fiI20581 (by decide))
        have fr20584 : fz 74 g [1] J J20582 := fz_tr fjJ20564 (fz_mono fjI20581 (by decide))
        have e20585 : I20581 (ad g 6) 1 = v20568 := by rw [fz_at fiI20581 6 (by decide) (by decide)]; exact ev20568
        have e20586 : I20581 (ad g 1) 1 = L := hI20581.2
        have b20587 := BT_get hI20581.1 1 1 2 (0) (0) (900) (by decide) 1 (by decide) (by decide)
        rw [e20586] at b20587
        refine WP_aload_n dX3_readValues_24 rfl ?_
        refine WQ_bipush (11) (11) dX3_readValues_25 rfl rfl (fun v20588 hv20588 => ?_)
        refine WP_aload_n dX3_readValues_27 rfl ?_
        refine WP_callV2 (k := 3) dX3_readValues_28 ⟨⟨⟨by decide, by decide⟩, zX3_faultInParts⟩, lX3_54, by decide, rfl, vX3_faultInParts.1, vX3_faultInParts.2⟩ (lyx_is hy 3 3 rfl) (sx_parts_6_11 hy hz hr hI20581 v20588 (by omega) (by omega)) (Nat.le_of_ble_eq_true rfl) ?_
        intro r I20589 J20590 Ra hq
        obtain ⟨⟨hI20589, ec, fiI20589, fjI20589, ⟨pI20589, sI20589_6_1, sI20589_6_2⟩⟩, v20591, rfl, av20591, bv20591, cv20591⟩ := hq
        show WP _ _ _ _ (.int _ :: _) _ _ _ _
        rw [ec]
        clear ec Ra
        have fr20592 : fz 74 g [1, 4, 72] I I20589 := fz_tr fr20583 (fz_mono fiI20589 (by decide))
        have fr20593 : fz 74 g [1] J J20590 := fz_tr fr20584 (fz_mono fjI20589 (by decide))
        have e20594 : I20589 (ad g 6) 1 = v20568 := by rw [sI20589_6_1]; exact e20585
        have e20595 : I20589 (ad g 1) 1 = L := hI20589.2
        have b20596 := BT_get hI20589.1 1 1 2 (0) (0) (900) (by decide) 1 (by decide) (by decide)
        rw [e20595] at b20596
        obtain ⟨w20597, ew20597⟩ : ∃ w : Int32, I20589 (ad g 4) 0 = w := ⟨_, rfl⟩
        have bw20597 := BT_get hI20589.1 4 0 5 (0) (0) (1000) (by decide) 0 (by decide) (by decide)
        rw [ew20597] at bw20597
        rw [ew20597] at cv20591
        obtain ⟨w20598, ew20598⟩ : ∃ w : Int32, I20589 (ad g 4) 1 = w := ⟨_, rfl⟩
        have bw20598 := BT_get hI20589.1 4 0 5 (0) (0) (1000) (by decide) 1 (by decide) (by decide)
        rw [ew20598] at bw20598
        rw [ew20598] at cv20591
        refine WQ_if_ne 44 dX3_readValues_31 rfl (fun c20598 => ?_) (fun c20598 => ?_)
        · refine WQ_iconst (0) (0) dX3_readValues_44 rfl rfl (fun v20600 hv20600 => ?_)
          exact WP_zret dX3_readValues_45 rfl (nar_z (by omega)) ⟨⟨hI20589, rfl, fr20592, fr20593⟩, _, rfl, by omega, by omega⟩
        · refine WQ_iconst (2) (2) dX3_readValues_34 rfl rfl (fun v20601 hv20601 => ?_)
          refine WP_iload_n dX3_readValues_35 rfl ?_
          refine WQ_imulK (2) dX3_readValues_36 hv20601 (by omega) (by omega) (fun v20602 hv20602 => ?_)
          refine WQ_iconst (1) (1) dX3_readValues_37 rfl rfl (fun v20603 hv20603 => ?_)
          refine WQ_iadd dX3_readValues_38 (by omega) (by omega) (fun v20604 hv20604 => ?_)
          refine WP_aload_n dX3_readValues_39 rfl ?_
          refine WP_alen dX3_readValues_40 (lyx_is hy 72 13 rfl) (by decide) ?_
          rw [(lyx_n hy 72 8 rfl)]
          obtain ⟨v20605, hv20605, ev20605⟩ : ∃ v : Int32, v.toInt = 8 ∧ nI 8 = v := ⟨_, nI_toInt (by decide), rfl⟩
          rw [ev20605]; clear ev20605
          refine WQ_icmp_lt 46 dX3_readValues_41 rfl (fun c20605 => ?_) (fun c20605 => False.elim (by omega))
          refine WP_aload_n dX3_readValues_46 rfl ?_
          refine WQ_iconst (2) (2) dX3_readValues_47 rfl rfl (fun v20607 hv20607 => ?_)
          refine WP_iload_n dX3_readValues_48 rfl ?_
          refine WQ_imulK (2) dX3_readValues_49 hv20607 (by omega) (by omega) (fun v20608 hv20608 => ?_)
          refine WP_aload_n dX3_readValues_50 rfl ?_
          refine WP_getr dX3_readValues_51 fX3_9 rfl (lyx_is hy 3 3 rfl) (rfx hr 3 3 4 (by decide)) ?_
          refine WQ_iconst (0) (0) dX3_readValues_54 rfl rfl (fun v20609 hv20609 => ?_)
          refine WQ_ialdm (z := 0) dX3_readValues_55 (lyx_is hy 4 13 rfl) (lyx_n hy 4 5 rfl) hv20609 (by decide) ew20597 ?_
          refine WQ_iast dX3_readValues_56 (lyx_is hy 72 13 rfl) (lyx_n hy 72 8 rfl) (by omega) (by omega) (fun I20611 eI20611 => ?_)
          have hI20611 : XI g n L I20611 := by rw [eI20611]; exact (xi_r0 hy hI20589 (c := 72) (by decide) (Or.inl (by decide)) (by decide))
          have e20612 : I20611 (ad g 6) 1 = v20568 := by rw [eI20611, pp_ne _ _ (Or.inl (lyx_ne hy (by decide) (by decide) (by decide)))]; exact e20594
          have e20613 : I20611 (ad g 1) 1 = L := by rw [eI20611, pp_ne _ _ (Or.inl (lyx_ne hy (by decide) (by decide) (by decide)))]; exact e20595
          have e20614 : I20611 (ad g 4) 0 = w20597 := by rw [eI20611, pp_ne _ _ (Or.inl (lyx_ne hy (by decide) (by decide) (by decide)))]; exact ew20597
          have e20615 : I20611 (ad g 4) 1 = w20598 := by rw [eI20611, pp_ne _ _ (Or.inl (lyx_ne hy (by decide) (by decide) (by decide)))]; exact ew20598
          have fr20616 : fz 74 g [1, 4, 72] I I20611 := by rw [eI20611]; exact fzx_pp hy fr20592 (by decide) (by decide)
          clear eI20611
          refine WP_aload_n dX3_readValues_57 rfl ?_
          refine WQ_iconst (2) (2) dX3_readValues_58 rfl rfl (fun v20617 hv20617 => ?_)
          refine WP_iload_n dX3_readValues_59 rfl ?_
          refine WQ_imulK (2) dX3_readValues_60 hv20617 (by omega) (by omega) (fun v20618 hv20618 => ?_)
          refine WQ_iconst (1) (1) dX3_readValues_61 rfl rfl (fun v20619 hv20619 => ?_)
          refine WQ_iadd dX3_readValues_62 (by omega) (by omega) (fun v20620 hv20620 => ?_)
          refine WP_aload_n dX3_readValues_63 rfl ?_
          refine WP_getr dX3_readValues_64 fX3_9 rfl (lyx_is hy 3 3 rfl) (rfx hr 3 3 4 (by decide)) ?_
          refine WQ_iconst (1) (1) dX3_readValues_67 rfl rfl (fun v20621 hv20621 => ?_)
          refine WQ_ialdm (z := 1) dX3_readValues_68 (lyx_is hy 4 13 rfl) (lyx_n hy 4 5 rfl) hv20621 (by decide) e20615 ?_
          refine WQ_iast dX3_readValues_69 (lyx_is hy 72 13 rfl) (lyx_n hy 72 8 rfl) (by omega) (by omega) (fun I20623 eI20623 => ?_)
          have hI20623 : XI g n L I20623 := by rw [eI20623]; exact (xi_r0 hy hI20611 (c := 72) (by decide) (Or.inl (by decide)) (by decide))
          have e20624 : I20623 (ad g 6) 1 = v20568 := by rw [eI20623, pp_ne _ _ (Or.inl (lyx_ne hy (by decide) (by decide) (by decide)))]; exact e20612
          have e20625 : I20623 (ad g 1) 1 = L := by rw [eI20623, pp_ne _ _ (Or.inl (lyx_ne hy (by decide) (by decide) (by decide)))]; exact e20613
          have e20626 : I20623 (ad g 4) 0 = w20597 := by rw [eI20623, pp_ne _ _ (Or.inl (lyx_ne hy (by decide) (by decide) (by decide)))]; exact e20614
          have e20627 : I20623 (ad g 4) 1 = w20598 := by rw [eI20623, pp_ne _ _ (Or.inl (lyx_ne hy (by decide) (by decide) (by decide)))]; exact e20615
          have fr20628 : fz 74 g [1, 4, 72] I I20623 := by rw [eI20623]; exact fzx_pp hy fr20616 (by decide) (by decide)
          clear eI20623
          refine WP_iinc (ls' := [(0, _), (1, _), (2, _), (3, _)]) dX3_readValues_70 rfl (by decide) rfl ?_
          have hv20629 : (i20562 + Int32.ofInt (1)).toInt = i20562.toInt + (1) := ia_n rfl (by omega) (by omega)
          generalize i20562 + Int32.ofInt (1) = v20629 at hv20629 ⊢
          refine WP_goto 9 dX3_readValues_73 rfl ?_
          exact WP_sub (fc rfl (fc rfl (fc rfl (fc rfl fn)))) (ihlp9_20564 v20629 I20623 J20590 hI20623 fr20628 fr20593 (by omega) (by omega) (by omega))
  exact WP_sub (fc rfl (fc rfl (fc rfl (fc rfl fn)))) (lp9_20564 _ v20561 I20555 J20556 hI20555 fr20557 fr20558 (by omega) (by omega) (Nat.lt_succ_self _))
set_option maxHeartbeats 4000000 in
set_option maxRecDepth 100000 in
theorem sx_forget_27 {g : GG} {n : Int} {L : Int32} (hy : LyX g)  {I : pI} {J : pJ} {R : pR} (hr : RfX g R) (hI : XI g n L I)   : SP g mX7_forget [.ref (ad g 27)] I J R (fun r I' J' R' => (XI g n L I' ∧ R' = R ∧ fz 74 g [27, 28, 32, 33, 34, 35, 36, 39, 40, 42] I I' ∧ fz 74 g [] J J') ∧ r = none) := by
  refine SP_of ⟨by decide, rfl⟩ (Nat.le_of_ble_eq_true rfl) ?_
  have e20630 : I (ad g 1) 1 = L := hI.2
  have b20631 := BT_get hI.1 1 1 2 (0) (0) (900) (by decide) 1 (by decide) (by decide)
  rw [e20630] at b20631
  have fr0 : fz 74 g [27, 28, 32, 33, 34, 35, 36, 39, 40, 42] I I := fz_rf
  have frj0 : fz 74 g [] J J := fz_rf
  refine WP_aload_n dX7_forget_0 rfl ?_
  refine WQ_iconst (0) (0) dX7_forget_1 rfl rfl (fun v20632 hv20632 => ?_)
  refine WQ_puti dX7_forget_2 fX7_61 rfl rfl (lyx_is hy 27 7 rfl) (fun I20633 eI20633 => ?_)
  have hI20633 : XI g n L I20633 := by rw [eI20633]; exact (xi_f0 hy hI (c := 27) (by decide) (Or.inl (by decide)) (by decide))
  have e20634 : I20633 (ad g 1) 1 = L := by rw [eI20633, pp_ne _ _ (Or.inl (lyx_ne hy (by decide) (by decide) (by decide)))]; exact e20630
  have e20635 : I20633 (ad g 27) 0 = v20632 := by rw [eI20633, pp_self]
  have fr20636 : fz 74 g [27, 28, 32, 33, 34, 35, 36, 39, 40, 42] I I20633 := by rw [eI20633]; exact fzx_pp hy fr0 (by decide) (by decide)
  clear eI20633
  refine WP_aload_n dX7_forget_5 rfl ?_
  refine WQ_iconst (0) (0) dX7_forget_6 rfl rfl (fun v20637 hv20637 => ?_)
  refine WQ_puti dX7_forget_7 fX7_65 rfl rfl (lyx_is hy 27 7 rfl) (fun I20638 eI20638 => ?_)
  have hI20638 : XI g n L I20638 := by rw [eI20638]; exact (xi_f hy hI20633 (c := 27) (0) (0) (4) (by decide) (Or.inl (by decide)) (by decide) (by omega) (by omega))
  have e20639 : I20638 (ad g 1) 1 = L := by rw [eI20638, pp_ne _ _ (Or.inl (lyx_ne hy (by decide) (by decide) (by decide)))]; exact e20634
  have e20640 : I20638 (ad g 27) 0 = v20632 := by rw [eI20638, pp_ne _ _ (Or.inr (by decide))]; exact e20635
  have e20641 : I20638 (ad g 27) 1 = v20637 := by rw [eI20638, pp_self]
  have fr20642 : fz 74 g [27, 28, 32, 33, 34, 35, 36, 39, 40, 42] I I20638 := by rw [eI20638]; exact fzx_pp hy fr20636 (by decide) (by decide)
  clear eI20638
  refine WP_aload_n dX7_forget_10 rfl ?_
  refine WQ_iconst (0) (0) dX7_forget_11 rfl rfl (fun v20643 hv20643 => ?_)
  refine WQ_puti dX7_forget_12 fX7_68 rfl rfl (lyx_is hy 27 7 rfl) (fun I20644 eI20644 => ?_)
  have hI20644 : XI g n L I20644 := by rw [eI20644]; exact (xi_f hy hI20638 (c := 27) (0) (0) (3) (by decide) (Or.inl (by decide)) (by decide) (by omega) (by omega))
  have e20645 : I20644 (ad g 1) 1 = L := by rw [eI20644, pp_ne _ _ (Or.inl (lyx_ne hy (by decide) (by decide) (by decide)))]; exact e20639
  have e20646 : I20644 (ad g 27) 0 = v20632 := by rw [eI20644, pp_ne _ _ (Or.inr (by decide))]; exact e20640
  have e20647 : I20644 (ad g 27) 1 = v20637 := by rw [eI20644, pp_ne _ _ (Or.inr (by decide))]; exact e20641
  have e20648 : I20644 (ad g 27) 2 = v20643 := by rw [eI20644, pp_self]
  have fr20649 : fz 74 g [27, 28, 32, 33, 34, 35, 36, 39, 40, 42] I I20644 := by rw [eI20644]; exact fzx_pp hy fr20642 (by decide) (by decide)
  clear eI20644
  refine WP_aload_n dX7_forget_15 rfl ?_
  refine WQ_iconst (-1) (-1) dX7_forget_16 rfl rfl (fun v20650 hv20650 => ?_)
  refine WQ_puti dX7_forget_17 fX7_71 rfl rfl (lyx_is hy 27 7 rfl) (fun I20651 eI20651 => ?_)
  have hI20651 : XI g n L I20651 := by rw [eI20651]; exact (xi_f hy hI20644 (c := 27) (-1) (0) (3) (by decide) (Or.inl (by decide)) (by decide) (by omega) (by omega))
  have e20652 : I20651 (ad g 1) 1 = L := by rw [eI20651, pp_ne _ _ (Or.inl (lyx_ne hy (by decide) (by decide) (by decide)))]; exact e20645
  have e20653 : I20651 (ad g 27) 0 = v20632 := by rw [eI20651, pp_ne _ _ (Or.inr (by decide))]; exact e20646
  have e20654 : I20651 (ad g 27) 1 = v20637 := by rw [eI20651, pp_ne _ _ (Or.inr (by decide))]; exact e20647
  have e20655 : I20651 (ad g 27) 2 = v20643 := by rw [eI20651, pp_ne _ _ (Or.inr (by decide))]; exact e20648
  have e20656 : I20651 (ad g 27) 3 = v20650 := by rw [eI20651, pp_self]
  have fr20657 : fz 74 g [27, 28, 32, 33, 34, 35, 36, 39, 40, 42] I I20651 := by rw [eI20651]; exact fzx_pp hy fr20649 (by decide) (by decide)
  clear eI20651
  refine WP_aload_n dX7_forget_20 rfl ?_
  refine WQ_iconst (-1) (-1) dX7_forget_21 rfl rfl (fun v20658 hv20658 => ?_)
  refine WQ_puti dX7_forget_22 fX7_74 rfl rfl (lyx_is hy 27 7 rfl) (fun I20659 eI20659 => ?_)
  have hI20659 : XI g n L I20659 := by rw [eI20659]; exact (xi_f hy hI20651 (c := 27) (-1) (0) (2) (by decide) (Or.inl (by decide)) (by decide) (by omega) (by omega))
  have e20660 : I20659 (ad g 1) 1 = L := by rw [eI20659, pp_ne _ _ (Or.inl (lyx_ne hy (by decide) (by decide) (by decide)))]; exact e20652
  have e20661 : I20659 (ad g 27) 0 = v20632 := by rw [eI20659, pp_ne _ _ (Or.inr (by decide))]; exact e20653
  have e20662 : I20659 (ad g 27) 1 = v20637 := by rw [eI20659, pp_ne _ _ (Or.inr (by decide))]; exact e20654
  have e20663 : I20659 (ad g 27) 2 = v20643 := by rw [eI20659, pp_ne _ _ (Or.inr (by decide))]; exact e20655
  have e20664 : I20659 (ad g 27) 3 = v20650 := by rw [eI20659, pp_ne _ _ (Or.inr (by decide))]; exact e20656
  have e20665 : I20659 (ad g 27) 4 = v20658 := by rw [eI20659, pp_self]
  have fr20666 : fz 74 g [27, 28, 32, 33, 34, 35, 36, 39, 40, 42] I I20659 := by rw [eI20659]; exact fzx_pp hy fr20657 (by decide) (by decide)
  clear eI20659
  refine WP_aload_n dX7_forget_25 rfl ?_
  refine WP_getr dX7_forget_26 fX7_9 rfl (lyx_is hy 27 7 rfl) (rfx hr 27 5 28 (by decide)) ?_
  refine WQ_iconst (0) (0) dX7_forget_29 rfl rfl (fun v20667 hv20667 => ?_)
  refine WP_callS2u dX7_forget_30 ⟨⟨⟨by decide, by decide⟩, zJ7_fill_53178⟩, lX7_77, tJ7_fill_53178⟩ (s_fill hy hr 28 7 rfl rfl (by decide) v20667) (Nat.le_of_ble_eq_true rfl) ?_
  obtain ⟨I20668, eI20668⟩ : ∃ I9 : pI, I9 = fi I20659 (ad g 28) 7 v20667 := ⟨_, rfl⟩
  rw [← eI20668]
  have hI20668 : XI g n L I20668 := by rw [eI20668]; exact (xi_fill hy hI20659 28 7 v20667 (0) (0) (900) (by decide) (by decide) (by omega) (by omega))
  have e20669 : I20668 (ad g 1) 1 = L := by rw [eI20668, fi_off (lyx_ne hy (by decide) (by decide) (by decide))]; exact e20660
  have e20670 : I20668 (ad g 27) 0 = v20632 := by rw [eI20668, fi_off (lyx_ne hy (by decide) (by decide) (by decide))]; exact e20661
  have e20671 : I20668 (ad g 27) 1 = v20637 := by rw [eI20668, fi_off (lyx_ne hy (by decide) (by decide) (by decide))]; exact e20662
  have e20672 : I20668 (ad g 27) 2 = v20643 := by rw [eI20668, fi_off (lyx_ne hy (by decide) (by decide) (by decide))]; exact e20663
  have e20673 : I20668 (ad g 27) 3 = v20650 := by rw [eI20668, fi_off (lyx_ne hy (by decide) (by decide) (by decide))]; exact e20664
  have e20674 : I20668 (ad g 27) 4 = v20658 := by rw [eI20668, fi_off (lyx_ne hy (by decide) (by decide) (by decide))]; exact e20665
  have fr20675 : fz 74 g [27, 28, 32, 33, 34, 35, 36, 39, 40, 42] I I20668 := by rw [eI20668]; exact fzx_fi hy fr20666 (by decide) (by decide)
  clear eI20668
  refine WP_aload_n dX7_forget_33 rfl ?_
  refine WP_getr dX7_forget_34 fX7_24 rfl (lyx_is hy 27 7 rfl) (rfx hr 27 9 32 (by decide)) ?_
  refine WQ_iconst (0) (0) dX7_forget_37 rfl rfl (fun v20676 hv20676 => ?_)
  refine WP_callS2u dX7_forget_38 ⟨⟨⟨by decide, by decide⟩, zJ7_fill_53178⟩, lX7_77, tJ7_fill_53178⟩ (s_fill hy hr 32 4 rfl rfl (by decide) v20676) (Nat.le_of_ble_eq_true rfl) ?_
  obtain ⟨I20677, eI20677⟩ : ∃ I9 : pI, I9 = fi I20668 (ad g 32) 4 v20676 := ⟨_, rfl⟩
  rw [← eI20677]
  have hI20677 : XI g n L I20677 := by rw [eI20677]; exact (xi_fill0 hy hI20668 32 4 v20676 (by decide) (by decide))
  have e20678 : I20677 (ad g 1) 1 = L := by rw [eI20677, fi_off (lyx_ne hy (by decide) (by decide) (by decide))]; exact e20669
  have e20679 : I20677 (ad g 27) 0 = v20632 := by rw [eI20677, fi_off (lyx_ne hy (by decide) (by decide) (by decide))]; exact e20670
  have e20680 : I20677 (ad g 27) 1 = v20637 := by rw [eI20677, fi_off (lyx_ne hy (by decide) (by decide) (by decide))]; exact e20671
  have e20681 : I20677 (ad g 27) 2 = v20643 := by rw [eI20677, fi_off (lyx_ne hy (by decide) (by decide) (by decide))]; exact e20672
  have e20682 : I20677 (ad g 27) 3 = v20650 := by rw [eI20677, fi_off (lyx_ne hy (by decide) (by decide) (by decide))]; exact e20673
  have e20683 : I20677 (ad g 27) 4 = v20658 := by rw [eI20677, fi_off (lyx_ne hy (by decide) (by decide) (by decide))]; exact e20674
  have fr20684 : fz 74 g [27, 28, 32, 33, 34, 35, 36, 39, 40, 42] I I20677 := by rw [eI20677]; exact fzx_fi hy fr20675 (by decide) (by decide)
  clear eI20677
  refine WP_aload_n dX7_forget_41 rfl ?_
  refine WP_getr dX7_forget_42 fX7_27 rfl (lyx_is hy 27 7 rfl) (rfx hr 27 10 33 (by decide)) ?_
  refine WQ_iconst (0) (0) dX7_forget_45 rfl rfl (fun v20685 hv20685 => ?_)
  refine WP_callS2u dX7_forget_46 ⟨⟨⟨by decide, by decide⟩, zJ7_fill_53178⟩, lX7_77, tJ7_fill_53178⟩ (s_fill hy hr 33 28 rfl rfl (by decide) v20685) (Nat.le_of_ble_eq_true rfl) ?_
  obtain ⟨I20686, eI20686⟩ : ∃ I9 : pI, I9 = fi I20677 (ad g 33) 28 v20685 := ⟨_, rfl⟩
  rw [← eI20686]
  have hI20686 : XI g n L I20686 := by rw [eI20686]; exact (xi_fill hy hI20677 33 28 v20685 (0) (0) (20) (by decide) (by decide) (by omega) (by omega))
  have e20687 : I20686 (ad g 1) 1 = L := by rw [eI20686, fi_off (lyx_ne hy (by decide) (by decide) (by decide))]; exact e20678
  have e20688 : I20686 (ad g 27) 0 = v20632 := by rw [eI20686, fi_off (lyx_ne hy (by decide) (by decide) (by decide))]; exact e20679
  have e20689 : I20686 (ad g 27) 1 = v20637 := by rw [eI20686, fi_off (lyx_ne hy (by decide) (by decide) (by decide))]; exact e20680
  have e20690 : I20686 (ad g 27) 2 = v20643 := by rw [eI20686, fi_off (lyx_ne hy (by decide) (by decide) (by decide))]; exact e20681
  have e20691 : I20686 (ad g 27) 3 = v20650 := by rw [eI20686, fi_off (lyx_ne hy (by decide) (by decide) (by decide))]; exact e20682
  have e20692 : I20686 (ad g 27) 4 = v20658 := by rw [eI20686, fi_off (lyx_ne hy (by decide) (by decide) (by decide))]; exact e20683
  have fr20693 : fz 74 g [27, 28, 32, 33, 34, 35, 36, 39, 40, 42] I I20686 := by rw [eI20686]; exact fzx_fi hy fr20684 (by decide) (by decide)
  clear eI20686
  refine WP_aload_n dX7_forget_49 rfl ?_
  refine WP_getr dX7_forget_50 fX7_30 rfl (lyx_is hy 27 7 rfl) (rfx hr 27 11 34 (by decide)) ?_
  refine WQ_iconst (-1) (-1) dX7_forget_53 rfl rfl (fun v20694 hv20694 => ?_)
  refine WP_callS2u dX7_forget_54 ⟨⟨⟨by decide, by decide⟩, zJ7_fill_53178⟩, lX7_77, tJ7_fill_53178⟩ (s_fill hy hr 34 28 rfl rfl (by decide) v20694) (Nat.le_of_ble_eq_true rfl) ?_
  obtain ⟨I20695, eI20695⟩ : ∃ I9 : pI, I9 = fi I20686 (ad g 34) 28 v20694 := ⟨_, rfl⟩
  rw [← eI20695]
  have hI20695 : XI g n L I20695 := by rw [eI20695]; exact (xi_fill hy hI20686 34 28 v20694 (-1) (0) (2) (by decide) (by decide) (by omega) (by omega))
  have e20696 : I20695 (ad g 1) 1 = L := by rw [eI20695, fi_off (lyx_ne hy (by decide) (by decide) (by decide))]; exact e20687
  have e20697 : I20695 (ad g 27) 0 = v20632 := by rw [eI20695, fi_off (lyx_ne hy (by decide) (by decide) (by decide))]; exact e20688
  have e20698 : I20695 (ad g 27) 1 = v20637 := by rw [eI20695, fi_off (lyx_ne hy (by decide) (by decide) (by decide))]; exact e20689
  have e20699 : I20695 (ad g 27) 2 = v20643 := by rw [eI20695, fi_off (lyx_ne hy (by decide) (by decide) (by decide))]; exact e20690
  have e20700 : I20695 (ad g 27) 3 = v20650 := by rw [eI20695, fi_off (lyx_ne hy (by decide) (by decide) (by decide))]; exact e20691
  have e20701 : I20695 (ad g 27) 4 = v20658 := by rw [eI20695, fi_off (lyx_ne hy (by decide) (by decide) (by decide))]; exact e20692
  have fr20702 : fz 74 g [27, 28, 32, 33, 34, 35, 36, 39, 40, 42] I I20695 := by rw [eI20695]; exact fzx_fi hy fr20693 (by decide) (by decide)
  clear eI20695
  refine WP_aload_n dX7_forget_57 rfl ?_
  refine WP_getr dX7_forget_58 fX7_33 rfl (lyx_is hy 27 7 rfl) (rfx hr 27 12 35 (by decide)) ?_
  refine WQ_iconst (0) (0) dX7_forget_61 rfl rfl (fun v20703 hv20703 => ?_)
  refine WP_callS2u dX7_forget_62 ⟨⟨⟨by decide, by decide⟩, zJ7_fill_53178⟩, lX7_77, tJ7_fill_53178⟩ (s_fill hy hr 35 28 rfl rfl (by decide) v20703) (Nat.le_of_ble_eq_true rfl) ?_
  obtain ⟨I20704, eI20704⟩ : ∃ I9 : pI, I9 = fi I20695 (ad g 35) 28 v20703 := ⟨_, rfl⟩
  rw [← eI20704]
  have hI20704 : XI g n L I20704 := by rw [eI20704]; exact (xi_fill hy hI20695 35 28 v20703 (0) (0) (3) (by decide) (by decide) (by omega) (by omega))
  have e20705 : I20704 (ad g 1) 1 = L := by rw [eI20704, fi_off (lyx_ne hy (by decide) (by decide) (by decide))]; exact e20696
  have e20706 : I20704 (ad g 27) 0 = v20632 := by rw [eI20704, fi_off (lyx_ne hy (by decide) (by decide) (by decide))]; exact e20697
  have e20707 : I20704 (ad g 27) 1 = v20637 := by rw [eI20704, fi_off (lyx_ne hy (by decide) (by decide) (by decide))]; exact e20698
  have e20708 : I20704 (ad g 27) 2 = v20643 := by rw [eI20704, fi_off (lyx_ne hy (by decide) (by decide) (by decide))]; exact e20699
  have e20709 : I20704 (ad g 27) 3 = v20650 := by rw [eI20704, fi_off (lyx_ne hy (by decide) (by decide) (by decide))]; exact e20700
  have e20710 : I20704 (ad g 27) 4 = v20658 := by rw [eI20704, fi_off (lyx_ne hy (by decide) (by decide) (by decide))]; exact e20701
  have fr20711 : fz 74 g [27, 28, 32, 33, 34, 35, 36, 39, 40, 42] I I20704 := by rw [eI20704]; exact fzx_fi hy fr20702 (by decide) (by decide)
  clear eI20704
  refine WP_aload_n dX7_forget_65 rfl ?_
  refine WP_getr dX7_forget_66 fX7_36 rfl (lyx_is hy 27 7 rfl) (rfx hr 27 13 36 (by decide)) ?_
  refine WQ_iconst (0) (0) dX7_forget_69 rfl rfl (fun v20712 hv20712 => ?_)
  refine WP_callS2u dX7_forget_70 ⟨⟨⟨by decide, by decide⟩, zJ7_fill_53178⟩, lX7_77, tJ7_fill_53178⟩ (s_fill hy hr 36 28 rfl rfl (by decide) v20712) (Nat.le_of_ble_eq_true rfl) ?_
  obtain ⟨I20713, eI20713⟩ : ∃ I9 : pI, I9 = fi I20704 (ad g 36) 28 v20712 := ⟨_, rfl⟩
  rw [← eI20713]
  have hI20713 : XI g n L I20713 := by rw [eI20713]; exact (xi_fill hy hI20704 36 28 v20712 (0) (0) (99) (by decide) (by decide) (by omega) (by omega))
  have e20714 : I20713 (ad g 1) 1 = L := by rw [eI20713, fi_off (lyx_ne hy (by decide) (by decide) (by decide))]; exact e20705
  have e20715 : I20713 (ad g 27) 0 = v20632 := by rw [eI20713, fi_off (lyx_ne hy (by decide) (by decide) (by decide))]; exact e20706
  have e20716 : I20713 (ad g 27) 1 = v20637 := by rw [eI20713, fi_off (lyx_ne hy (by decide) (by decide) (by decide))]; exact e20707
  have e20717 : I20713 (ad g 27) 2 = v20643 := by rw [eI20713, fi_off (lyx_ne hy (by decide) (by decide) (by decide))]; exact e20708
  have e20718 : I20713 (ad g 27) 3 = v20650 := by rw [eI20713, fi_off (lyx_ne hy (by decide) (by decide) (by decide))]; exact e20709
  have e20719 : I20713 (ad g 27) 4 = v20658 := by rw [eI20713, fi_off (lyx_ne hy (by decide) (by decide) (by decide))]; exact e20710
  have fr20720 : fz 74 g [27, 28, 32, 33, 34, 35, 36, 39, 40, 42] I I20713 := by rw [eI20713]; exact fzx_fi hy fr20711 (by decide) (by decide)
  clear eI20713
  refine WP_aload_n dX7_forget_73 rfl ?_
  refine WP_getr dX7_forget_74 fX7_45 rfl (lyx_is hy 27 7 rfl) (rfx hr 27 16 39 (by decide)) ?_
  refine WQ_iconst (5) (5) dX7_forget_77 rfl rfl (fun v20721 hv20721 => ?_)
  refine WP_callS2u dX7_forget_78 ⟨⟨⟨by decide, by decide⟩, zJ7_fill_53178⟩, lX7_77, tJ7_fill_53178⟩ (s_fill hy hr 39 21 rfl rfl (by decide) v20721) (Nat.le_of_ble_eq_true rfl) ?_
  obtain ⟨I20722, eI20722⟩ : ∃ I9 : pI, I9 = fi I20713 (ad g 39) 21 v20721 := ⟨_, rfl⟩
  rw [← eI20722]
  have hI20722 : XI g n L I20722 := by rw [eI20722]; exact (xi_fill hy hI20713 39 21 v20721 (0) (0) (20) (by decide) (by decide) (by omega) (by omega))
  have e20723 : I20722 (ad g 1) 1 = L := by rw [eI20722, fi_off (lyx_ne hy (by decide) (by decide) (by decide))]; exact e20714
  have e20724 : I20722 (ad g 27) 0 = v20632 := by rw [eI20722, fi_off (lyx_ne hy (by decide) (by decide) (by decide))]; exact e20715
  have e20725 : I20722 (ad g 27) 1 = v20637 := by rw [eI20722, fi_off (lyx_ne hy (by decide) (by decide) (by decide))]; exact e20716
  have e20726 : I20722 (ad g 27) 2 = v20643 := by rw [eI20722, fi_off (lyx_ne hy (by decide) (by decide) (by decide))]; exact e20717
  have e20727 : I20722 (ad g 27) 3 = v20650 := by rw [eI20722, fi_off (lyx_ne hy (by decide) (by decide) (by decide))]; exact e20718
  have e20728 : I20722 (ad g 27) 4 = v20658 := by rw [eI20722, fi_off (lyx_ne hy (by decide) (by decide) (by decide))]; exact e20719
  have fr20729 : fz 74 g [27, 28, 32, 33, 34, 35, 36, 39, 40, 42] I I20722 := by rw [eI20722]; exact fzx_fi hy fr20720 (by decide) (by decide)
  clear eI20722
  refine WP_aload_n dX7_forget_81 rfl ?_
  refine WP_getr dX7_forget_82 fX7_48 rfl (lyx_is hy 27 7 rfl) (rfx hr 27 17 40 (by decide)) ?_
  refine WQ_iconst (-1) (-1) dX7_forget_85 rfl rfl (fun v20730 hv20730 => ?_)
  refine WP_callS2u dX7_forget_86 ⟨⟨⟨by decide, by decide⟩, zJ7_fill_53178⟩, lX7_77, tJ7_fill_53178⟩ (s_fill hy hr 40 21 rfl rfl (by decide) v20730) (Nat.le_of_ble_eq_true rfl) ?_
  obtain ⟨I20731, eI20731⟩ : ∃ I9 : pI, I9 = fi I20722 (ad g 40) 21 v20730 := ⟨_, rfl⟩
  rw [← eI20731]
  have hI20731 : XI g n L I20731 := by rw [eI20731]; exact (xi_fill hy hI20722 40 21 v20730 (-1) (0) (999) (by decide) (by decide) (by omega) (by omega))
  have e20732 : I20731 (ad g 1) 1 = L := by rw [eI20731, fi_off (lyx_ne hy (by decide) (by decide) (by decide))]; exact e20723
  have e20733 : I20731 (ad g 27) 0 = v20632 := by rw [eI20731, fi_off (lyx_ne hy (by decide) (by decide) (by decide))]; exact e20724
  have e20734 : I20731 (ad g 27) 1 = v20637 := by rw [eI20731, fi_off (lyx_ne hy (by decide) (by decide) (by decide))]; exact e20725
  have e20735 : I20731 (ad g 27) 2 = v20643 := by rw [eI20731, fi_off (lyx_ne hy (by decide) (by decide) (by decide))]; exact e20726
  have e20736 : I20731 (ad g 27) 3 = v20650 := by rw [eI20731, fi_off (lyx_ne hy (by decide) (by decide) (by decide))]; exact e20727
  have e20737 : I20731 (ad g 27) 4 = v20658 := by rw [eI20731, fi_off (lyx_ne hy (by decide) (by decide) (by decide))]; exact e20728
  have fr20738 : fz 74 g [27, 28, 32, 33, 34, 35, 36, 39, 40, 42] I I20731 := by rw [eI20731]; exact fzx_fi hy fr20729 (by decide) (by decide)
  clear eI20731
  refine WP_aload_n dX7_forget_89 rfl ?_
  refine WP_getr dX7_forget_90 fX7_55 rfl (lyx_is hy 27 7 rfl) (rfx hr 27 19 42 (by decide)) ?_
  refine WQ_iconst (0) (0) dX7_forget_93 rfl rfl (fun v20739 hv20739 => ?_)
  refine WP_callS2u dX7_forget_94 ⟨⟨⟨by decide, by decide⟩, zJ7_fill_53178⟩, lX7_77, tJ7_fill_53178⟩ (s_fill hy hr 42 48 rfl rfl (by decide) v20739) (Nat.le_of_ble_eq_true rfl) ?_
  obtain ⟨I20740, eI20740⟩ : ∃ I9 : pI, I9 = fi I20731 (ad g 42) 48 v20739 := ⟨_, rfl⟩
  rw [← eI20740]
  have hI20740 : XI g n L I20740 := by rw [eI20740]; exact (xi_fill0 hy hI20731 42 48 v20739 (by decide) (by decide))
  have e20741 : I20740 (ad g 1) 1 = L := by rw [eI20740, fi_off (lyx_ne hy (by decide) (by decide) (by decide))]; exact e20732
  have e20742 : I20740 (ad g 27) 0 = v20632 := by rw [eI20740, fi_off (lyx_ne hy (by decide) (by decide) (by decide))]; exact e20733
  have e20743 : I20740 (ad g 27) 1 = v20637 := by rw [eI20740, fi_off (lyx_ne hy (by decide) (by decide) (by decide))]; exact e20734
  have e20744 : I20740 (ad g 27) 2 = v20643 := by rw [eI20740, fi_off (lyx_ne hy (by decide) (by decide) (by decide))]; exact e20735
  have e20745 : I20740 (ad g 27) 3 = v20650 := by rw [eI20740, fi_off (lyx_ne hy (by decide) (by decide) (by decide))]; exact e20736
  have e20746 : I20740 (ad g 27) 4 = v20658 := by rw [eI20740, fi_off (lyx_ne hy (by decide) (by decide) (by decide))]; exact e20737
  have fr20747 : fz 74 g [27, 28, 32, 33, 34, 35, 36, 39, 40, 42] I I20740 := by rw [eI20740]; exact fzx_fi hy fr20738 (by decide) (by decide)
  clear eI20740
  exact WP_vret dX7_forget_97 rfl ⟨⟨hI20740, rfl, fr20747, frj0⟩, rfl⟩
set_option maxHeartbeats 4000000 in
set_option maxRecDepth 100000 in
theorem sx_readTown_27 {g : GG} {n : Int} {L : Int32} (hy : LyX g) {aK aV : Nat → Nat} {fo : Option Nat} (hz : HZ g aK aV fo)  {I : pI} {J : pJ} {R : pR} (hr : RfX g R) (hI : XI g n L I)   : SP g mX3_readTown [.ref (ad g 3), .ref (ad g 27)] I J R (fun r I' J' R' => (XI g n L I' ∧ R' = R ∧ fz 74 g [1, 3, 4, 27, 28, 29, 30, 31, 32, 33, 34, 35, 36, 37, 38, 39, 40, 42] I I' ∧ fz 74 g [1, 41] J J') ∧ ∃ v : Int32, r = some (.int v) ∧ 0 ≤ v.toInt ∧ v.toInt ≤ 1) := by
  refine SP_of ⟨by decide, rfl⟩ (Nat.le_of_ble_eq_true rfl) ?_
  have e20748 : I (ad g 1) 1 = L := hI.2
  have b20749 := BT_get hI.1 1 1 2 (0) (0) (900) (by decide) 1 (by decide) (by decide)
  rw [e20748] at b20749
  have fr0 : fz 74 g [1, 3, 4, 27, 28, 29, 30, 31, 32, 33, 34, 35, 36, 37, 38, 39, 40, 42] I I := fz_rf
  have frj0 : fz 74 g [1, 41] J J := fz_rf
  refine WP_aload_n dX3_readTown_0 rfl ?_
  refine WP_callV0 (k := 7) dX3_readTown_1 ⟨⟨⟨by decide, by decide⟩, zX7_forget⟩, lX3_26, by decide, rfl, vX7_forget.1, vX7_forget.2⟩ (lyx_is hy 27 7 rfl) (sx_forget_27 hy hr hI  ) (Nat.le_of_ble_eq_true rfl) ?_
  intro r I20750 J20751 Ra hq
  obtain ⟨⟨hI20750, ec, fiI20750, fjI20750⟩, rfl⟩ := hq
  rw [ec]
  clear ec Ra
  have fr20752 : fz 74 g [1, 3, 4, 27, 28, 29, 30, 31, 32, 33, 34, 35, 36, 37, 38, 39, 40, 42] I I20750 := fz_tr fr0 (fz_mono fiI20750 (by decide))
  have fr20753 : fz 74 g [1, 41] J J20751 := fz_tr frj0 (fz_mono fjI20750 (by decide))
  have e20754 : I20750 (ad g 1) 1 = L := hI20750.2
  have b20755 := BT_get hI20750.1 1 1 2 (0) (0) (900) (by decide) 1 (by decide) (by decide)
  rw [e20754] at b20755
  refine WP_aload_n dX3_readTown_4 rfl ?_
  refine WQ_iconst (0) (0) dX3_readTown_5 rfl rfl (fun v20756 hv20756 => ?_)
  refine WP_callV1 (k := 3) dX3_readTown_6 ⟨⟨⟨by decide, by decide⟩, zX3_note⟩, lX3_31, by decide, rfl, vX3_note.1, vX3_note.2⟩ (lyx_is hy 3 3 rfl) (sx_notef hy hr hI20750 v20756 ) (Nat.le_of_ble_eq_true rfl) ?_
  intro r I20757 J20758 Ra hq
  obtain ⟨⟨hI20757, ec, fiI20757, fjI20757⟩, rfl⟩ := hq
  rw [ec]
  clear ec Ra
  have fr20759 : fz 74 g [1, 3, 4, 27, 28, 29, 30, 31, 32, 33, 34, 35, 36, 37, 38, 39, 40, 42] I I20757 := fz_tr fr20752 (fz_mono fiI20757 (by decide))
  have fr20760 : fz 74 g [1, 41] J J20758 := fz_tr fr20753 (fz_mono fjI20757 (by decide))
  have e20761 : I20757 (ad g 1) 1 = L := hI20757.2
  have b20762 := BT_get hI20757.1 1 1 2 (0) (0) (900) (by decide) 1 (by decide) (by decide)
  rw [e20761] at b20762
  refine WP_aload_n dX3_readTown_9 rfl ?_
  refine WP_getr dX3_readTown_10 fX3_15 rfl (lyx_is hy 3 3 rfl) (rfx hr 3 2 1 (by decide)) ?_
  refine WP_callV0 (k := 5) dX3_readTown_13 ⟨⟨⟨by decide, by decide⟩, zX5_rewind⟩, lX3_35, by decide, rfl, vX5_rewind.1, vX5_rewind.2⟩ (lyx_is hy 1 5 rfl) (sx_rewindf hy hr hI20757  ) (Nat.le_of_ble_eq_true rfl) ?_
  intro r I20763 J20764 Ra hq
  obtain ⟨⟨hI20763, ec, fiI20763, fjI20763⟩, rfl⟩ := hq
  rw [ec]
  clear ec Ra
  have fr20765 : fz 74 g [1, 3, 4, 27, 28, 29, 30, 31, 32, 33, 34, 35, 36, 37, 38, 39, 40, 42] I I20763 := fz_tr fr20759 (fz_mono fiI20763 (by decide))
  have fr20766 : fz 74 g [1, 41] J J20764 := fz_tr fr20760 (fz_mono fjI20763 (by decide))
  have e20767 : I20763 (ad g 1) 1 = L := hI20763.2
  have b20768 := BT_get hI20763.1 1 1 2 (0) (0) (900) (by decide) 1 (by decide) (by decide)
  rw [e20767] at b20768
  refine WQ_iconst (0) (0) dX3_readTown_16 rfl rfl (fun v20769 hv20769 => ?_)
  refine WP_istore_n (ls' := [(0, _), (1, _), (2, _)]) dX3_readTown_17 (by decide) rfl ?_
  have lp18_20772 : ∀ (mz : Nat) (i20770 : Int32) (I20771 : pI) (J20772 : pJ), XI g n L I20771 → fz 74 g [1, 3, 4, 27, 28, 29, 30, 31, 32, 33, 34, 35, 36, 37, 38, 39, 40, 42] I I20771 → fz 74 g [1, 41] J J20772 → 0 ≤ i20770.toInt → i20770.toInt ≤ 901 → (902 - i20770.toInt).toNat < mz → WP g mX3_readTown 18 [(0, .ref (ad g 3)), (1, .ref (ad g 27)), (2, .int i20770)] [] I20771 J20772 R (fun r I' J' R' => (XI g n L I' ∧ R' = R ∧ fz 74 g [1, 3, 4, 27, 28, 29, 30, 31, 32, 33, 34, 35, 36, 37, 38, 39, 40, 42] I I' ∧ fz 74 g [1, 41] J J') ∧ ∃ v : Int32, r = some (.int v) ∧ 0 ≤ v.toInt ∧ v.toInt ≤ 1) := by
    intro mz
    induction mz with
    | zero =>
      intro i20770 I20771 J20772 hI20771 fiI20771 fjJ20772 ai20770 bi20770 hmlp18_20772
      exact absurd hmlp18_20772 (Nat.not_lt_zero _)
    | succ mz ihlp18_20772 =>
      intro i20770 I20771 J20772 hI20771 fiI20771 fjJ20772 ai20770 bi20770 hmlp18_20772
      have e20774 : I20771 (ad g 1) 1 = L := hI20771.2
      have b20775 := BT_get hI20771.1 1 1 2 (0) (0) (900) (by decide) 1 (by decide) (by decide)
      rw [e20774] at b20775
      refine WP_iload_n dX3_readTown_18 rfl ?_
      refine WQ_sipush (900) (900) dX3_readTown_19 rfl rfl (fun v20776 hv20776 => ?_)
      refine WQ_icmp_gt 114 dX3_readTown_22 rfl (fun c20776 => ?_) (fun c20776 => ?_)
      · refine WQ_iconst (1) (1) dX3_readTown_114 rfl rfl (fun v20778 hv20778 => ?_)
        exact WP_zret dX3_readTown_115 rfl (nar_z (by omega)) ⟨⟨hI20771, rfl, fiI20771, fjJ20772⟩, _, rfl, by omega, by omega⟩
      · refine WP_aload_n dX3_readTown_25 rfl ?_
        refine WP_getr dX3_readTown_26 fX3_15 rfl (lyx_is hy 3 3 rfl) (rfx hr 3 2 1 (by decide)) ?_
        refine WP_callV0 (k := 5) dX3_readTown_29 ⟨⟨⟨by decide, by decide⟩, zX5_next⟩, lX3_40, by decide, rfl, vX5_next.1, vX5_next.2⟩ (lyx_is hy 1 5 rfl) (sx_nextf hy hr hI20771  ) (Nat.le_of_ble_eq_true rfl) ?_
        intro r I20779 J20780 Ra hq
        obtain ⟨⟨hI20779, ec, fiI20779, fjI20779⟩, rfl⟩ := hq
        rw [ec]
        clear ec Ra
        have fr20781 : fz 74 g [1, 3, 4, 27, 28, 29, 30, 31, 32, 33, 34, 35, 36, 37, 38, 39, 40, 42] I I20779 := fz_tr fiI20771 (fz_mono fiI20779 (by decide))
        have fr20782 : fz 74 g [1, 41] J J20780 := fz_tr fjJ20772 (fz_mono fjI20779 (by decide))
        have e20783 : I20779 (ad g 1) 1 = L := hI20779.2
        have b20784 := BT_get hI20779.1 1 1 2 (0) (0) (900) (by decide) 1 (by decide) (by decide)
        rw [e20783] at b20784
        refine WP_aload_n dX3_readTown_32 rfl ?_
        refine WP_getr dX3_readTown_33 fX3_15 rfl (lyx_is hy 3 3 rfl) (rfx hr 3 2 1 (by decide)) ?_
        refine WQ_geti dX3_readTown_36 fX3_43 rfl (lyx_is hy 1 5 rfl) (BT_get hI20779.1 1 2 3 (0) (0) (4) (by decide) 2 (by decide) (by decide)) (fun v20785 ev20785 av20785 bv20785 => ?_)
        refine WQ_if_ne 45 dX3_readTown_39 rfl (fun c20785 => ?_) (fun c20785 => ?_)
        · refine WP_aload_n dX3_readTown_45 rfl ?_
          refine WP_callV0 (k := 3) dX3_readTown_46 ⟨⟨⟨by decide, by decide⟩, zX3_clauseAtHand⟩, lX3_46, by decide, rfl, vX3_clauseAtHand.1, vX3_clauseAtHand.2⟩ (lyx_is hy 3 3 rfl) (sx_clauseAtHand hy hz hr hI20779  ) (Nat.le_of_ble_eq_true rfl) ?_
          intro r Ia Ja Ra hq
          obtain ⟨⟨ea, eb, ec⟩, v20787, rfl, av20787, bv20787⟩ := hq
          show WP _ _ _ _ (.int _ :: _) _ _ _ _
          rw [ea, eb, ec]
          clear ea eb ec Ia Ja Ra
          refine WP_istore_n (ls' := [(0, _), (1, _), (2, _), (3, _)]) dX3_readTown_49 (by decide) rfl ?_
          refine WP_iload_n dX3_readTown_50 rfl ?_
          refine WQ_iconst (-1) (-1) dX3_readTown_51 rfl rfl (fun v20788 hv20788 => ?_)
          refine WQ_icmp_ne 59 dX3_readTown_52 rfl (fun c20788 => ?_) (fun c20788 => ?_)
          · rcases (show (0 ≤ v20787.toInt ∧ v20787.toInt ≤ 0) ∨ (1 ≤ v20787.toInt ∧ v20787.toInt ≤ 1) ∨ (2 ≤ v20787.toInt ∧ v20787.toInt ≤ 2) ∨ (3 ≤ v20787.toInt ∧ v20787.toInt ≤ 3) ∨ (4 ≤ v20787.toInt ∧ v20787.toInt ≤ 4) ∨ (5 ≤ v20787.toInt ∧ v20787.toInt ≤ 5) ∨ (6 ≤ v20787.toInt ∧ v20787.toInt ≤ 6) ∨ (7 ≤ v20787.toInt ∧ v20787.toInt ≤ 7) ∨ (8 ≤ v20787.toInt ∧ v20787.toInt ≤ 8) ∨ (9 ≤ v20787.toInt ∧ v20787.toInt ≤ 9) by omega) with ⟨k20790_0, k20790_1⟩ | ⟨k20790_2, k20790_3⟩ | ⟨k20790_4, k20790_5⟩ | ⟨k20790_6, k20790_7⟩ | ⟨k20790_8, k20790_9⟩ | ⟨k20790_10, k20790_11⟩ | ⟨k20790_12, k20790_13⟩ | ⟨k20790_14, k20790_15⟩ | ⟨k20790_16, k20790_17⟩ | ⟨k20790_18, k20790_19⟩
            · refine WP_aload_n dX3_readTown_59 rfl ?_
              refine WP_iload_n dX3_readTown_60 rfl ?_
              refine WP_callV1 (k := 7) dX3_readTown_61 ⟨⟨⟨by decide, by decide⟩, zX7_faultAhead⟩, lX3_50, by decide, rfl, vX7_faultAhead.1, vX7_faultAhead.2⟩ (lyx_is hy 27 7 rfl) (sx_faultAhead_27_0 hy hr hI20779 v20787 (by omega) (by omega)) (Nat.le_of_ble_eq_true rfl) ?_
              intro r Ia Ja Ra hq
              obtain ⟨⟨ea, eb, ec⟩, v20791, rfl, av20791, bv20791⟩ := hq
              show WP _ _ _ _ (.int _ :: _) _ _ _ _
              rw [ea, eb, ec]
              clear ea eb ec Ia Ja Ra
              refine WP_istore (ls' := [(0, _), (1, _), (2, _), (3, _), (4, _)]) dX3_readTown_64 (by decide) rfl ?_
              refine WP_iload dX3_readTown_66 rfl ?_
              refine WQ_if_ne 86 dX3_readTown_68 rfl (fun c20791 => ?_) (fun c20791 => ?_)
              · refine WP_iload dX3_readTown_86 rfl ?_
                refine WQ_if_eq 99 dX3_readTown_88 rfl (fun c20792 => False.elim (by omega)) (fun c20792 => ?_)
                refine WP_aload_n dX3_readTown_91 rfl ?_
                refine WP_iload dX3_readTown_92 rfl ?_
                refine WP_callV1 (k := 3) dX3_readTown_94 ⟨⟨⟨by decide, by decide⟩, zX3_note⟩, lX3_31, by decide, rfl, vX3_note.1, vX3_note.2⟩ (lyx_is hy 3 3 rfl) (sx_notef hy hr hI20779 v20791 ) (Nat.le_of_ble_eq_true rfl) ?_
                intro r I20794 J20795 Ra hq
                obtain ⟨⟨hI20794, ec, fiI20794, fjI20794⟩, rfl⟩ := hq
                rw [ec]
                clear ec Ra
                have fr20796 : fz 74 g [1, 3, 4, 27, 28, 29, 30, 31, 32, 33, 34, 35, 36, 37, 38, 39, 40, 42] I I20794 := fz_tr fr20781 (fz_mono fiI20794 (by decide))
                have fr20797 : fz 74 g [1, 41] J J20795 := fz_tr fr20782 (fz_mono fjI20794 (by decide))
                have e20798 : I20794 (ad g 1) 2 = v20785 := by rw [fz_at fiI20794 1 (by decide) (by decide)]; exact ev20785
                have e20799 : I20794 (ad g 1) 1 = L := hI20794.2
                have b20800 := BT_get hI20794.1 1 1 2 (0) (0) (900) (by decide) 1 (by decide) (by decide)
                rw [e20799] at b20800
                refine WQ_iconst (0) (0) dX3_readTown_97 rfl rfl (fun v20801 hv20801 => ?_)
                exact WP_zret dX3_readTown_98 rfl (nar_z (by omega)) ⟨⟨hI20794, rfl, fr20796, fr20797⟩, _, rfl, by omega, by omega⟩
              · refine WP_aload_n dX3_readTown_71 rfl ?_
                refine WP_getr dX3_readTown_72 fX3_15 rfl (lyx_is hy 3 3 rfl) (rfx hr 3 2 1 (by decide)) ?_
                refine WP_callV0 (k := 5) dX3_readTown_75 ⟨⟨⟨by decide, by decide⟩, zX5_next⟩, lX3_40, by decide, rfl, vX5_next.1, vX5_next.2⟩ (lyx_is hy 1 5 rfl) (sx_nextf hy hr hI20779  ) (Nat.le_of_ble_eq_true rfl) ?_
                intro r I20802 J20803 Ra hq
                obtain ⟨⟨hI20802, ec, fiI20802, fjI20802⟩, rfl⟩ := hq
                rw [ec]
                clear ec Ra
                have fr20804 : fz 74 g [1, 3, 4, 27, 28, 29, 30, 31, 32, 33, 34, 35, 36, 37, 38, 39, 40, 42] I I20802 := fz_tr fr20781 (fz_mono fiI20802 (by decide))
                have fr20805 : fz 74 g [1, 41] J J20803 := fz_tr fr20782 (fz_mono fjI20802 (by decide))
                have e20806 : I20802 (ad g 1) 1 = L := hI20802.2
                have b20807 := BT_get hI20802.1 1 1 2 (0) (0) (900) (by decide) 1 (by decide) (by decide)
                rw [e20806] at b20807
                refine WP_aload_n dX3_readTown_78 rfl ?_
                refine WP_iload_n dX3_readTown_79 rfl ?_
                refine WP_aload_n dX3_readTown_80 rfl ?_
                refine WP_callV2 (k := 3) dX3_readTown_81 ⟨⟨⟨by decide, by decide⟩, zX3_faultInParts⟩, lX3_54, by decide, rfl, vX3_faultInParts.1, vX3_faultInParts.2⟩ (lyx_is hy 3 3 rfl) (sx_parts_27_0 hy hz hr hI20802 v20787 (by omega) (by omega)) (Nat.le_of_ble_eq_true rfl) ?_
                intro r I20808 J20809 Ra hq
                obtain ⟨⟨hI20808, ec, fiI20808, fjI20808, ⟨pI20808, sI20808_27_1, sI20808_27_2⟩⟩, v20810, rfl, av20810, bv20810, cv20810⟩ := hq
                show WP _ _ _ _ (.int _ :: _) _ _ _ _
                rw [ec]
                clear ec Ra
                have fr20811 : fz 74 g [1, 3, 4, 27, 28, 29, 30, 31, 32, 33, 34, 35, 36, 37, 38, 39, 40, 42] I I20808 := fz_tr fr20804 (fz_mono fiI20808 (by decide))
                have fr20812 : fz 74 g [1, 41] J J20809 := fz_tr fr20805 (fz_mono fjI20808 (by decide))
                have e20813 : I20808 (ad g 1) 1 = L := hI20808.2
                have b20814 := BT_get hI20808.1 1 1 2 (0) (0) (900) (by decide) 1 (by decide) (by decide)
                rw [e20813] at b20814
                obtain ⟨w20815, ew20815⟩ : ∃ w : Int32, I20808 (ad g 4) 0 = w := ⟨_, rfl⟩
                have bw20815 := BT_get hI20808.1 4 0 5 (0) (0) (1000) (by decide) 0 (by decide) (by decide)
                rw [ew20815] at bw20815
                rw [ew20815] at cv20810
                obtain ⟨w20816, ew20816⟩ : ∃ w : Int32, I20808 (ad g 4) 1 = w := ⟨_, rfl⟩
                have bw20816 := BT_get hI20808.1 4 0 5 (0) (0) (1000) (by decide) 1 (by decide) (by decide)
                rw [ew20816] at bw20816
                rw [ew20816] at cv20810
                refine WP_istore (ls' := [(0, _), (1, _), (2, _), (3, _), (4, _)]) dX3_readTown_84 (by decide) rfl ?_
                refine WP_iload dX3_readTown_86 rfl ?_
                refine WQ_if_eq 99 dX3_readTown_88 rfl (fun c20816 => ?_) (fun c20816 => ?_)
                · refine WP_aload_n dX3_readTown_99 rfl ?_
                  refine WP_iload_n dX3_readTown_100 rfl ?_
                  refine WP_aload_n dX3_readTown_101 rfl ?_
                  refine WP_getr dX3_readTown_102 fX3_9 rfl (lyx_is hy 3 3 rfl) (rfx hr 3 3 4 (by decide)) ?_
                  refine WP_callV2 (k := 7) dX3_readTown_105 ⟨⟨⟨by decide, by decide⟩, zX7_tell⟩, lX3_58, by decide, rfl, vX7_tell.1, vX7_tell.2⟩ (lyx_is hy 27 7 rfl) (sx_tell_27_0 hy hr hI20808 v20787 (by omega) (by omega) (by rw [ew20815, ew20816]; omega)) (Nat.le_of_ble_eq_true rfl) ?_
                  intro r I20818 J20819 Ra hq
                  obtain ⟨⟨hI20818, ec, fiI20818, fjI20818, pI20818⟩, rfl⟩ := hq
                  rw [ec]
                  clear ec Ra
                  have fr20820 : fz 74 g [1, 3, 4, 27, 28, 29, 30, 31, 32, 33, 34, 35, 36, 37, 38, 39, 40, 42] I I20818 := fz_tr fr20811 (fz_mono fiI20818 (by decide))
                  have fr20821 : fz 74 g [1, 41] J J20819 := fz_tr fr20812 (fz_mono fjI20818 (by decide))
                  have e20822 : I20818 (ad g 1) 1 = L := hI20818.2
                  have b20823 := BT_get hI20818.1 1 1 2 (0) (0) (900) (by decide) 1 (by decide) (by decide)
                  rw [e20822] at b20823
                  refine WP_iinc (ls' := [(0, _), (1, _), (2, _), (3, _), (4, _)]) dX3_readTown_108 rfl (by decide) rfl ?_
                  have hv20824 : (i20770 + Int32.ofInt (1)).toInt = i20770.toInt + (1) := ia_n rfl (by omega) (by omega)
                  generalize i20770 + Int32.ofInt (1) = v20824 at hv20824 ⊢
                  refine WP_goto 18 dX3_readTown_111 rfl ?_
                  exact WP_sub (fc rfl (fc rfl (fc rfl fn))) (ihlp18_20772 v20824 I20818 J20819 hI20818 fr20820 fr20821 (by omega) (by omega) (by omega))
                · refine WP_aload_n dX3_readTown_91 rfl ?_
                  refine WP_iload dX3_readTown_92 rfl ?_
                  refine WP_callV1 (k := 3) dX3_readTown_94 ⟨⟨⟨by decide, by decide⟩, zX3_note⟩, lX3_31, by decide, rfl, vX3_note.1, vX3_note.2⟩ (lyx_is hy 3 3 rfl) (sx_notef hy hr hI20808 v20810 ) (Nat.le_of_ble_eq_true rfl) ?_
                  intro r I20825 J20826 Ra hq
                  obtain ⟨⟨hI20825, ec, fiI20825, fjI20825⟩, rfl⟩ := hq
                  rw [ec]
                  clear ec Ra
                  have fr20827 : fz 74 g [1, 3, 4, 27, 28, 29, 30, 31, 32, 33, 34, 35, 36, 37, 38, 39, 40, 42] I I20825 := fz_tr fr20811 (fz_mono fiI20825 (by decide))
                  have fr20828 : fz 74 g [1, 41] J J20826 := fz_tr fr20812 (fz_mono fjI20825 (by decide))
                  have e20829 : I20825 (ad g 4) 0 = w20815 := by rw [fz_at fiI20825 4 (by decide) (by decide)]; exact ew20815
                  have e20830 : I20825 (ad g 4) 1 = w20816 := by rw [fz_at fiI20825 4 (by decide) (by decide)]; exact ew20816
                  have e20831 : I20825 (ad g 1) 1 = L := hI20825.2
                  have b20832 := BT_get hI20825.1 1 1 2 (0) (0) (900) (by decide) 1 (by decide) (by decide)
                  rw [e20831] at b20832
                  refine WQ_iconst (0) (0) dX3_readTown_97 rfl rfl (fun v20833 hv20833 => ?_)
                  exact WP_zret dX3_readTown_98 rfl (nar_z (by omega)) ⟨⟨hI20825, rfl, fr20827, fr20828⟩, _, rfl, by omega, by omega⟩
            · refine WP_aload_n dX3_readTown_59 rfl ?_
              refine WP_iload_n dX3_readTown_60 rfl ?_
              refine WP_callV1 (k := 7) dX3_readTown_61 ⟨⟨⟨by decide, by decide⟩, zX7_faultAhead⟩, lX3_50, by decide, rfl, vX7_faultAhead.1, vX7_faultAhead.2⟩ (lyx_is hy 27 7 rfl) (sx_faultAhead_27_1 hy hr hI20779 v20787 (by omega) (by omega)) (Nat.le_of_ble_eq_true rfl) ?_
              intro r Ia Ja Ra hq
              obtain ⟨⟨ea, eb, ec⟩, v20834, rfl, av20834, bv20834, cv20834⟩ := hq
              show WP _ _ _ _ (.int _ :: _) _ _ _ _
              rw [ea, eb, ec]
              clear ea eb ec Ia Ja Ra
              obtain ⟨w20835, ew20835⟩ : ∃ w : Int32, I20779 (ad g 27) 1 = w := ⟨_, rfl⟩
              have bw20835 := BT_get hI20779.1 27 1 2 (0) (0) (4) (by decide) 1 (by decide) (by decide)
              rw [ew20835] at bw20835
              rw [ew20835] at cv20834
              refine WP_istore (ls' := [(0, _), (1, _), (2, _), (3, _), (4, _)]) dX3_readTown_64 (by decide) rfl ?_
              refine WP_iload dX3_readTown_66 rfl ?_
              refine WQ_if_ne 86 dX3_readTown_68 rfl (fun c20835 => ?_) (fun c20835 => ?_)
              · refine WP_iload dX3_readTown_86 rfl ?_
                refine WQ_if_eq 99 dX3_readTown_88 rfl (fun c20836 => False.elim (by omega)) (fun c20836 => ?_)
                refine WP_aload_n dX3_readTown_91 rfl ?_
                refine WP_iload dX3_readTown_92 rfl ?_
                refine WP_callV1 (k := 3) dX3_readTown_94 ⟨⟨⟨by decide, by decide⟩, zX3_note⟩, lX3_31, by decide, rfl, vX3_note.1, vX3_note.2⟩ (lyx_is hy 3 3 rfl) (sx_notef hy hr hI20779 v20834 ) (Nat.le_of_ble_eq_true rfl) ?_
                intro r I20838 J20839 Ra hq
                obtain ⟨⟨hI20838, ec, fiI20838, fjI20838⟩, rfl⟩ := hq
                rw [ec]
                clear ec Ra
                have fr20840 : fz 74 g [1, 3, 4, 27, 28, 29, 30, 31, 32, 33, 34, 35, 36, 37, 38, 39, 40, 42] I I20838 := fz_tr fr20781 (fz_mono fiI20838 (by decide))
                have fr20841 : fz 74 g [1, 41] J J20839 := fz_tr fr20782 (fz_mono fjI20838 (by decide))
                have e20842 : I20838 (ad g 1) 2 = v20785 := by rw [fz_at fiI20838 1 (by decide) (by decide)]; exact ev20785
                have e20843 : I20838 (ad g 27) 1 = w20835 := by rw [fz_at fiI20838 27 (by decide) (by decide)]; exact ew20835
                have e20844 : I20838 (ad g 1) 1 = L := hI20838.2
                have b20845 := BT_get hI20838.1 1 1 2 (0) (0) (900) (by decide) 1 (by decide) (by decide)
                rw [e20844] at b20845
                refine WQ_iconst (0) (0) dX3_readTown_97 rfl rfl (fun v20846 hv20846 => ?_)
                exact WP_zret dX3_readTown_98 rfl (nar_z (by omega)) ⟨⟨hI20838, rfl, fr20840, fr20841⟩, _, rfl, by omega, by omega⟩
              · refine WP_aload_n dX3_readTown_71 rfl ?_
                refine WP_getr dX3_readTown_72 fX3_15 rfl (lyx_is hy 3 3 rfl) (rfx hr 3 2 1 (by decide)) ?_
                refine WP_callV0 (k := 5) dX3_readTown_75 ⟨⟨⟨by decide, by decide⟩, zX5_next⟩, lX3_40, by decide, rfl, vX5_next.1, vX5_next.2⟩ (lyx_is hy 1 5 rfl) (sx_nextf hy hr hI20779  ) (Nat.le_of_ble_eq_true rfl) ?_
                intro r I20847 J20848 Ra hq
                obtain ⟨⟨hI20847, ec, fiI20847, fjI20847⟩, rfl⟩ := hq
                rw [ec]
                clear ec Ra
                have fr20849 : fz 74 g [1, 3, 4, 27, 28, 29, 30, 31, 32, 33, 34, 35, 36, 37, 38, 39, 40, 42] I I20847 := fz_tr fr20781 (fz_mono fiI20847 (by decide))
                have fr20850 : fz 74 g [1, 41] J J20848 := fz_tr fr20782 (fz_mono fjI20847 (by decide))
                have e20851 : I20847 (ad g 27) 1 = w20835 := by rw [fz_at fiI20847 27 (by decide) (by decide)]; exact ew20835
                have e20852 : I20847 (ad g 1) 1 = L := hI20847.2
                have b20853 := BT_get hI20847.1 1 1 2 (0) (0) (900) (by decide) 1 (by decide) (by decide)
                rw [e20852] at b20853
                refine WP_aload_n dX3_readTown_78 rfl ?_
                refine WP_iload_n dX3_readTown_79 rfl ?_
                refine WP_aload_n dX3_readTown_80 rfl ?_
                refine WP_callV2 (k := 3) dX3_readTown_81 ⟨⟨⟨by decide, by decide⟩, zX3_faultInParts⟩, lX3_54, by decide, rfl, vX3_faultInParts.1, vX3_faultInParts.2⟩ (lyx_is hy 3 3 rfl) (sx_parts_27_1 hy hz hr hI20847 v20787 (by omega) (by omega) (by rw [e20851]; omega)) (Nat.le_of_ble_eq_true rfl) ?_
                intro r I20854 J20855 Ra hq
                obtain ⟨⟨hI20854, ec, fiI20854, fjI20854, ⟨pI20854, sI20854_27_1, sI20854_27_2⟩⟩, v20856, rfl, av20856, bv20856, cv20856⟩ := hq
                show WP _ _ _ _ (.int _ :: _) _ _ _ _
                rw [ec]
                clear ec Ra
                have fr20857 : fz 74 g [1, 3, 4, 27, 28, 29, 30, 31, 32, 33, 34, 35, 36, 37, 38, 39, 40, 42] I I20854 := fz_tr fr20849 (fz_mono fiI20854 (by decide))
                have fr20858 : fz 74 g [1, 41] J J20855 := fz_tr fr20850 (fz_mono fjI20854 (by decide))
                have e20859 : I20854 (ad g 27) 1 = w20835 := by rw [sI20854_27_1]; exact e20851
                have e20860 : I20854 (ad g 1) 1 = L := hI20854.2
                have b20861 := BT_get hI20854.1 1 1 2 (0) (0) (900) (by decide) 1 (by decide) (by decide)
                rw [e20860] at b20861
                obtain ⟨w20862, ew20862⟩ : ∃ w : Int32, I20854 (ad g 4) 1 = w := ⟨_, rfl⟩
                have bw20862 := BT_get hI20854.1 4 0 5 (0) (0) (1000) (by decide) 1 (by decide) (by decide)
                rw [ew20862] at bw20862
                rw [ew20862] at cv20856
                obtain ⟨w20863, ew20863⟩ : ∃ w : Int32, I20854 (ad g 4) 2 = w := ⟨_, rfl⟩
                have bw20863 := BT_get hI20854.1 4 0 5 (0) (0) (1000) (by decide) 2 (by decide) (by decide)
                rw [ew20863] at bw20863
                rw [ew20863] at cv20856
                obtain ⟨w20864, ew20864⟩ : ∃ w : Int32, I20854 (ad g 4) 3 = w := ⟨_, rfl⟩
                have bw20864 := BT_get hI20854.1 4 0 5 (0) (0) (1000) (by decide) 3 (by decide) (by decide)
                rw [ew20864] at bw20864
                rw [ew20864] at cv20856
                refine WP_istore (ls' := [(0, _), (1, _), (2, _), (3, _), (4, _)]) dX3_readTown_84 (by decide) rfl ?_
                refine WP_iload dX3_readTown_86 rfl ?_
                refine WQ_if_eq 99 dX3_readTown_88 rfl (fun c20864 => ?_) (fun c20864 => ?_)
                · refine WP_aload_n dX3_readTown_99 rfl ?_
                  refine WP_iload_n dX3_readTown_100 rfl ?_
                  refine WP_aload_n dX3_readTown_101 rfl ?_
                  refine WP_getr dX3_readTown_102 fX3_9 rfl (lyx_is hy 3 3 rfl) (rfx hr 3 3 4 (by decide)) ?_
                  refine WP_callV2 (k := 7) dX3_readTown_105 ⟨⟨⟨by decide, by decide⟩, zX7_tell⟩, lX3_58, by decide, rfl, vX7_tell.1, vX7_tell.2⟩ (lyx_is hy 27 7 rfl) (sx_tell_27_1 hy hr hI20854 v20787 (by omega) (by omega) (by rw [ew20862, ew20863, ew20864, e20859]; omega)) (Nat.le_of_ble_eq_true rfl) ?_
                  intro r I20866 J20867 Ra hq
                  obtain ⟨⟨hI20866, ec, fiI20866, fjI20866, pI20866⟩, rfl⟩ := hq
                  rw [ec]
                  clear ec Ra
                  have fr20868 : fz 74 g [1, 3, 4, 27, 28, 29, 30, 31, 32, 33, 34, 35, 36, 37, 38, 39, 40, 42] I I20866 := fz_tr fr20857 (fz_mono fiI20866 (by decide))
                  have fr20869 : fz 74 g [1, 41] J J20867 := fz_tr fr20858 (fz_mono fjI20866 (by decide))
                  have e20870 : I20866 (ad g 1) 1 = L := hI20866.2
                  have b20871 := BT_get hI20866.1 1 1 2 (0) (0) (900) (by decide) 1 (by decide) (by decide)
                  rw [e20870] at b20871
                  refine WP_iinc (ls' := [(0, _), (1, _), (2, _), (3, _), (4, _)]) dX3_readTown_108 rfl (by decide) rfl ?_
                  have hv20872 : (i20770 + Int32.ofInt (1)).toInt = i20770.toInt + (1) := ia_n rfl (by omega) (by omega)
                  generalize i20770 + Int32.ofInt (1) = v20872 at hv20872 ⊢
                  refine WP_goto 18 dX3_readTown_111 rfl ?_
                  exact WP_sub (fc rfl (fc rfl (fc rfl fn))) (ihlp18_20772 v20872 I20866 J20867 hI20866 fr20868 fr20869 (by omega) (by omega) (by omega))
                · refine WP_aload_n dX3_readTown_91 rfl ?_
                  refine WP_iload dX3_readTown_92 rfl ?_
                  refine WP_callV1 (k := 3) dX3_readTown_94 ⟨⟨⟨by decide, by decide⟩, zX3_note⟩, lX3_31, by decide, rfl, vX3_note.1, vX3_note.2⟩ (lyx_is hy 3 3 rfl) (sx_notef hy hr hI20854 v20856 ) (Nat.le_of_ble_eq_true rfl) ?_
                  intro r I20873 J20874 Ra hq
                  obtain ⟨⟨hI20873, ec, fiI20873, fjI20873⟩, rfl⟩ := hq
                  rw [ec]
                  clear ec Ra
                  have fr20875 : fz 74 g [1, 3, 4, 27, 28, 29, 30, 31, 32, 33, 34, 35, 36, 37, 38, 39, 40, 42] I I20873 := fz_tr fr20857 (fz_mono fiI20873 (by decide))
                  have fr20876 : fz 74 g [1, 41] J J20874 := fz_tr fr20858 (fz_mono fjI20873 (by decide))
                  have e20877 : I20873 (ad g 27) 1 = w20835 := by rw [fz_at fiI20873 27 (by decide) (by decide)]; exact e20859
                  have e20878 : I20873 (ad g 4) 1 = w20862 := by rw [fz_at fiI20873 4 (by decide) (by decide)]; exact ew20862
                  have e20879 : I20873 (ad g 4) 2 = w20863 := by rw [fz_at fiI20873 4 (by decide) (by decide)]; exact ew20863
                  have e20880 : I20873 (ad g 4) 3 = w20864 := by rw [fz_at fiI20873 4 (by decide) (by decide)]; exact ew20864
                  have e20881 : I20873 (ad g 1) 1 = L := hI20873.2
                  have b20882 := BT_get hI20873.1 1 1 2 (0) (0) (900) (by decide) 1 (by decide) (by decide)
                  rw [e20881] at b20882
                  refine WQ_iconst (0) (0) dX3_readTown_97 rfl rfl (fun v20883 hv20883 => ?_)
                  exact WP_zret dX3_readTown_98 rfl (nar_z (by omega)) ⟨⟨hI20873, rfl, fr20875, fr20876⟩, _, rfl, by omega, by omega⟩
            · refine WP_aload_n dX3_readTown_59 rfl ?_
              refine WP_iload_n dX3_readTown_60 rfl ?_
              refine WP_callV1 (k := 7) dX3_readTown_61 ⟨⟨⟨by decide, by decide⟩, zX7_faultAhead⟩, lX3_50, by decide, rfl, vX7_faultAhead.1, vX7_faultAhead.2⟩ (lyx_is hy 27 7 rfl) (sx_faultAhead_27_2 hy hr hI20779 v20787 (by omega) (by omega)) (Nat.le_of_ble_eq_true rfl) ?_
              intro r Ia Ja Ra hq
              obtain ⟨⟨ea, eb, ec⟩, v20884, rfl, av20884, bv20884, cv20884⟩ := hq
              show WP _ _ _ _ (.int _ :: _) _ _ _ _
              rw [ea, eb, ec]
              clear ea eb ec Ia Ja Ra
              obtain ⟨w20885, ew20885⟩ : ∃ w : Int32, I20779 (ad g 27) 2 = w := ⟨_, rfl⟩
              have bw20885 := BT_get hI20779.1 27 2 3 (0) (0) (3) (by decide) 2 (by decide) (by decide)
              rw [ew20885] at bw20885
              rw [ew20885] at cv20884
              refine WP_istore (ls' := [(0, _), (1, _), (2, _), (3, _), (4, _)]) dX3_readTown_64 (by decide) rfl ?_
              refine WP_iload dX3_readTown_66 rfl ?_
              refine WQ_if_ne 86 dX3_readTown_68 rfl (fun c20885 => ?_) (fun c20885 => ?_)
              · refine WP_iload dX3_readTown_86 rfl ?_
                refine WQ_if_eq 99 dX3_readTown_88 rfl (fun c20886 => False.elim (by omega)) (fun c20886 => ?_)
                refine WP_aload_n dX3_readTown_91 rfl ?_
                refine WP_iload dX3_readTown_92 rfl ?_
                refine WP_callV1 (k := 3) dX3_readTown_94 ⟨⟨⟨by decide, by decide⟩, zX3_note⟩, lX3_31, by decide, rfl, vX3_note.1, vX3_note.2⟩ (lyx_is hy 3 3 rfl) (sx_notef hy hr hI20779 v20884 ) (Nat.le_of_ble_eq_true rfl) ?_
                intro r I20888 J20889 Ra hq
                obtain ⟨⟨hI20888, ec, fiI20888, fjI20888⟩, rfl⟩ := hq
                rw [ec]
                clear ec Ra
                have fr20890 : fz 74 g [1, 3, 4, 27, 28, 29, 30, 31, 32, 33, 34, 35, 36, 37, 38, 39, 40, 42] I I20888 := fz_tr fr20781 (fz_mono fiI20888 (by decide))
                have fr20891 : fz 74 g [1, 41] J J20889 := fz_tr fr20782 (fz_mono fjI20888 (by decide))
                have e20892 : I20888 (ad g 1) 2 = v20785 := by rw [fz_at fiI20888 1 (by decide) (by decide)]; exact ev20785
                have e20893 : I20888 (ad g 27) 2 = w20885 := by rw [fz_at fiI20888 27 (by decide) (by decide)]; exact ew20885
                have e20894 : I20888 (ad g 1) 1 = L := hI20888.2
                have b20895 := BT_get hI20888.1 1 1 2 (0) (0) (900) (by decide) 1 (by decide) (by decide)
                rw [e20894] at b20895
                refine WQ_iconst (0) (0) dX3_readTown_97 rfl rfl (fun v20896 hv20896 => ?_)
                exact WP_zret dX3_readTown_98 rfl (nar_z (by omega)) ⟨⟨hI20888, rfl, fr20890, fr20891⟩, _, rfl, by omega, by omega⟩
              · refine WP_aload_n dX3_readTown_71 rfl ?_
                refine WP_getr dX3_readTown_72 fX3_15 rfl (lyx_is hy 3 3 rfl) (rfx hr 3 2 1 (by decide)) ?_
                refine WP_callV0 (k := 5) dX3_readTown_75 ⟨⟨⟨by decide, by decide⟩, zX5_next⟩, lX3_40, by decide, rfl, vX5_next.1, vX5_next.2⟩ (lyx_is hy 1 5 rfl) (sx_nextf hy hr hI20779  ) (Nat.le_of_ble_eq_true rfl) ?_
                intro r I20897 J20898 Ra hq
                obtain ⟨⟨hI20897, ec, fiI20897, fjI20897⟩, rfl⟩ := hq
                rw [ec]
                clear ec Ra
                have fr20899 : fz 74 g [1, 3, 4, 27, 28, 29, 30, 31, 32, 33, 34, 35, 36, 37, 38, 39, 40, 42] I I20897 := fz_tr fr20781 (fz_mono fiI20897 (by decide))
                have fr20900 : fz 74 g [1, 41] J J20898 := fz_tr fr20782 (fz_mono fjI20897 (by decide))
                have e20901 : I20897 (ad g 27) 2 = w20885 := by rw [fz_at fiI20897 27 (by decide) (by decide)]; exact ew20885
                have e20902 : I20897 (ad g 1) 1 = L := hI20897.2
                have b20903 := BT_get hI20897.1 1 1 2 (0) (0) (900) (by decide) 1 (by decide) (by decide)
                rw [e20902] at b20903
                refine WP_aload_n dX3_readTown_78 rfl ?_
                refine WP_iload_n dX3_readTown_79 rfl ?_
                refine WP_aload_n dX3_readTown_80 rfl ?_
                refine WP_callV2 (k := 3) dX3_readTown_81 ⟨⟨⟨by decide, by decide⟩, zX3_faultInParts⟩, lX3_54, by decide, rfl, vX3_faultInParts.1, vX3_faultInParts.2⟩ (lyx_is hy 3 3 rfl) (sx_parts_27_2 hy hz hr hI20897 v20787 (by omega) (by omega) (by rw [e20901]; omega)) (Nat.le_of_ble_eq_true rfl) ?_
                intro r I20904 J20905 Ra hq
                obtain ⟨⟨hI20904, ec, fiI20904, fjI20904, ⟨pI20904, sI20904_27_1, sI20904_27_2⟩⟩, v20906, rfl, av20906, bv20906, cv20906⟩ := hq
                show WP _ _ _ _ (.int _ :: _) _ _ _ _
                rw [ec]
                clear ec Ra
                have fr20907 : fz 74 g [1, 3, 4, 27, 28, 29, 30, 31, 32, 33, 34, 35, 36, 37, 38, 39, 40, 42] I I20904 := fz_tr fr20899 (fz_mono fiI20904 (by decide))
                have fr20908 : fz 74 g [1, 41] J J20905 := fz_tr fr20900 (fz_mono fjI20904 (by decide))
                have e20909 : I20904 (ad g 27) 2 = w20885 := by rw [sI20904_27_2]; exact e20901
                have e20910 : I20904 (ad g 1) 1 = L := hI20904.2
                have b20911 := BT_get hI20904.1 1 1 2 (0) (0) (900) (by decide) 1 (by decide) (by decide)
                rw [e20910] at b20911
                obtain ⟨w20912, ew20912⟩ : ∃ w : Int32, I20904 (ad g 4) 1 = w := ⟨_, rfl⟩
                have bw20912 := BT_get hI20904.1 4 0 5 (0) (0) (1000) (by decide) 1 (by decide) (by decide)
                rw [ew20912] at bw20912
                rw [ew20912] at cv20906
                obtain ⟨w20913, ew20913⟩ : ∃ w : Int32, I20904 (ad g 4) 2 = w := ⟨_, rfl⟩
                have bw20913 := BT_get hI20904.1 4 0 5 (0) (0) (1000) (by decide) 2 (by decide) (by decide)
                rw [ew20913] at bw20913
                rw [ew20913] at cv20906
                refine WP_istore (ls' := [(0, _), (1, _), (2, _), (3, _), (4, _)]) dX3_readTown_84 (by decide) rfl ?_
                refine WP_iload dX3_readTown_86 rfl ?_
                refine WQ_if_eq 99 dX3_readTown_88 rfl (fun c20913 => ?_) (fun c20913 => ?_)
                · refine WP_aload_n dX3_readTown_99 rfl ?_
                  refine WP_iload_n dX3_readTown_100 rfl ?_
                  refine WP_aload_n dX3_readTown_101 rfl ?_
                  refine WP_getr dX3_readTown_102 fX3_9 rfl (lyx_is hy 3 3 rfl) (rfx hr 3 3 4 (by decide)) ?_
                  refine WP_callV2 (k := 7) dX3_readTown_105 ⟨⟨⟨by decide, by decide⟩, zX7_tell⟩, lX3_58, by decide, rfl, vX7_tell.1, vX7_tell.2⟩ (lyx_is hy 27 7 rfl) (sx_tell_27_2 hy hr hI20904 v20787 (by omega) (by omega) (by rw [ew20912, ew20913, e20909]; omega)) (Nat.le_of_ble_eq_true rfl) ?_
                  intro r I20915 J20916 Ra hq
                  obtain ⟨⟨hI20915, ec, fiI20915, fjI20915, pI20915⟩, rfl⟩ := hq
                  rw [ec]
                  clear ec Ra
                  have fr20917 : fz 74 g [1, 3, 4, 27, 28, 29, 30, 31, 32, 33, 34, 35, 36, 37, 38, 39, 40, 42] I I20915 := fz_tr fr20907 (fz_mono fiI20915 (by decide))
                  have fr20918 : fz 74 g [1, 41] J J20916 := fz_tr fr20908 (fz_mono fjI20915 (by decide))
                  have e20919 : I20915 (ad g 1) 1 = L := hI20915.2
                  have b20920 := BT_get hI20915.1 1 1 2 (0) (0) (900) (by decide) 1 (by decide) (by decide)
                  rw [e20919] at b20920
                  refine WP_iinc (ls' := [(0, _), (1, _), (2, _), (3, _), (4, _)]) dX3_readTown_108 rfl (by decide) rfl ?_
                  have hv20921 : (i20770 + Int32.ofInt (1)).toInt = i20770.toInt + (1) := ia_n rfl (by omega) (by omega)
                  generalize i20770 + Int32.ofInt (1) = v20921 at hv20921 ⊢
                  refine WP_goto 18 dX3_readTown_111 rfl ?_
                  exact WP_sub (fc rfl (fc rfl (fc rfl fn))) (ihlp18_20772 v20921 I20915 J20916 hI20915 fr20917 fr20918 (by omega) (by omega) (by omega))
                · refine WP_aload_n dX3_readTown_91 rfl ?_
                  refine WP_iload dX3_readTown_92 rfl ?_
                  refine WP_callV1 (k := 3) dX3_readTown_94 ⟨⟨⟨by decide, by decide⟩, zX3_note⟩, lX3_31, by decide, rfl, vX3_note.1, vX3_note.2⟩ (lyx_is hy 3 3 rfl) (sx_notef hy hr hI20904 v20906 ) (Nat.le_of_ble_eq_true rfl) ?_
                  intro r I20922 J20923 Ra hq
                  obtain ⟨⟨hI20922, ec, fiI20922, fjI20922⟩, rfl⟩ := hq
                  rw [ec]
                  clear ec Ra
                  have fr20924 : fz 74 g [1, 3, 4, 27, 28, 29, 30, 31, 32, 33, 34, 35, 36, 37, 38, 39, 40, 42] I I20922 := fz_tr fr20907 (fz_mono fiI20922 (by decide))
                  have fr20925 : fz 74 g [1, 41] J J20923 := fz_tr fr20908 (fz_mono fjI20922 (by decide))
                  have e20926 : I20922 (ad g 27) 2 = w20885 := by rw [fz_at fiI20922 27 (by decide) (by decide)]; exact e20909
                  have e20927 : I20922 (ad g 4) 1 = w20912 := by rw [fz_at fiI20922 4 (by decide) (by decide)]; exact ew20912
                  have e20928 : I20922 (ad g 4) 2 = w20913 := by rw [fz_at fiI20922 4 (by decide) (by decide)]; exact ew20913
                  have e20929 : I20922 (ad g 1) 1 = L := hI20922.2
                  have b20930 := BT_get hI20922.1 1 1 2 (0) (0) (900) (by decide) 1 (by decide) (by decide)
                  rw [e20929] at b20930
                  refine WQ_iconst (0) (0) dX3_readTown_97 rfl rfl (fun v20931 hv20931 => ?_)
                  exact WP_zret dX3_readTown_98 rfl (nar_z (by omega)) ⟨⟨hI20922, rfl, fr20924, fr20925⟩, _, rfl, by omega, by omega⟩
            · refine WP_aload_n dX3_readTown_59 rfl ?_
              refine WP_iload_n dX3_readTown_60 rfl ?_
              refine WP_callV1 (k := 7) dX3_readTown_61 ⟨⟨⟨by decide, by decide⟩, zX7_faultAhead⟩, lX3_50, by decide, rfl, vX7_faultAhead.1, vX7_faultAhead.2⟩ (lyx_is hy 27 7 rfl) (sx_faultAhead_27_3 hy hr hI20779 v20787 (by omega) (by omega)) (Nat.le_of_ble_eq_true rfl) ?_
              intro r Ia Ja Ra hq
              obtain ⟨⟨ea, eb, ec⟩, v20932, rfl, av20932, bv20932⟩ := hq
              show WP _ _ _ _ (.int _ :: _) _ _ _ _
              rw [ea, eb, ec]
              clear ea eb ec Ia Ja Ra
              refine WP_istore (ls' := [(0, _), (1, _), (2, _), (3, _), (4, _)]) dX3_readTown_64 (by decide) rfl ?_
              refine WP_iload dX3_readTown_66 rfl ?_
              refine WQ_if_ne 86 dX3_readTown_68 rfl (fun c20932 => ?_) (fun c20932 => ?_)
              · refine WP_iload dX3_readTown_86 rfl ?_
                refine WQ_if_eq 99 dX3_readTown_88 rfl (fun c20933 => False.elim (by omega)) (fun c20933 => ?_)
                refine WP_aload_n dX3_readTown_91 rfl ?_
                refine WP_iload dX3_readTown_92 rfl ?_
                refine WP_callV1 (k := 3) dX3_readTown_94 ⟨⟨⟨by decide, by decide⟩, zX3_note⟩, lX3_31, by decide, rfl, vX3_note.1, vX3_note.2⟩ (lyx_is hy 3 3 rfl) (sx_notef hy hr hI20779 v20932 ) (Nat.le_of_ble_eq_true rfl) ?_
                intro r I20935 J20936 Ra hq
                obtain ⟨⟨hI20935, ec, fiI20935, fjI20935⟩, rfl⟩ := hq
                rw [ec]
                clear ec Ra
                have fr20937 : fz 74 g [1, 3, 4, 27, 28, 29, 30, 31, 32, 33, 34, 35, 36, 37, 38, 39, 40, 42] I I20935 := fz_tr fr20781 (fz_mono fiI20935 (by decide))
                have fr20938 : fz 74 g [1, 41] J J20936 := fz_tr fr20782 (fz_mono fjI20935 (by decide))
                have e20939 : I20935 (ad g 1) 2 = v20785 := by rw [fz_at fiI20935 1 (by decide) (by decide)]; exact ev20785
                have e20940 : I20935 (ad g 1) 1 = L := hI20935.2
                have b20941 := BT_get hI20935.1 1 1 2 (0) (0) (900) (by decide) 1 (by decide) (by decide)
                rw [e20940] at b20941
                refine WQ_iconst (0) (0) dX3_readTown_97 rfl rfl (fun v20942 hv20942 => ?_)
                exact WP_zret dX3_readTown_98 rfl (nar_z (by omega)) ⟨⟨hI20935, rfl, fr20937, fr20938⟩, _, rfl, by omega, by omega⟩
              · refine WP_aload_n dX3_readTown_71 rfl ?_
                refine WP_getr dX3_readTown_72 fX3_15 rfl (lyx_is hy 3 3 rfl) (rfx hr 3 2 1 (by decide)) ?_
                refine WP_callV0 (k := 5) dX3_readTown_75 ⟨⟨⟨by decide, by decide⟩, zX5_next⟩, lX3_40, by decide, rfl, vX5_next.1, vX5_next.2⟩ (lyx_is hy 1 5 rfl) (sx_nextf hy hr hI20779  ) (Nat.le_of_ble_eq_true rfl) ?_
                intro r I20943 J20944 Ra hq
                obtain ⟨⟨hI20943, ec, fiI20943, fjI20943⟩, rfl⟩ := hq
                rw [ec]
                clear ec Ra
                have fr20945 : fz 74 g [1, 3, 4, 27, 28, 29, 30, 31, 32, 33, 34, 35, 36, 37, 38, 39, 40, 42] I I20943 := fz_tr fr20781 (fz_mono fiI20943 (by decide))
                have fr20946 : fz 74 g [1, 41] J J20944 := fz_tr fr20782 (fz_mono fjI20943 (by decide))
                have e20947 : I20943 (ad g 1) 1 = L := hI20943.2
                have b20948 := BT_get hI20943.1 1 1 2 (0) (0) (900) (by decide) 1 (by decide) (by decide)
                rw [e20947] at b20948
                refine WP_aload_n dX3_readTown_78 rfl ?_
                refine WP_iload_n dX3_readTown_79 rfl ?_
                refine WP_aload_n dX3_readTown_80 rfl ?_
                refine WP_callV2 (k := 3) dX3_readTown_81 ⟨⟨⟨by decide, by decide⟩, zX3_faultInParts⟩, lX3_54, by decide, rfl, vX3_faultInParts.1, vX3_faultInParts.2⟩ (lyx_is hy 3 3 rfl) (sx_parts_27_3 hy hz hr hI20943 v20787 (by omega) (by omega)) (Nat.le_of_ble_eq_true rfl) ?_
                intro r I20949 J20950 Ra hq
                obtain ⟨⟨hI20949, ec, fiI20949, fjI20949, ⟨pI20949, sI20949_27_1, sI20949_27_2⟩⟩, v20951, rfl, av20951, bv20951, cv20951⟩ := hq
                show WP _ _ _ _ (.int _ :: _) _ _ _ _
                rw [ec]
                clear ec Ra
                have fr20952 : fz 74 g [1, 3, 4, 27, 28, 29, 30, 31, 32, 33, 34, 35, 36, 37, 38, 39, 40, 42] I I20949 := fz_tr fr20945 (fz_mono fiI20949 (by decide))
                have fr20953 : fz 74 g [1, 41] J J20950 := fz_tr fr20946 (fz_mono fjI20949 (by decide))
                have e20954 : I20949 (ad g 1) 1 = L := hI20949.2
                have b20955 := BT_get hI20949.1 1 1 2 (0) (0) (900) (by decide) 1 (by decide) (by decide)
                rw [e20954] at b20955
                obtain ⟨w20956, ew20956⟩ : ∃ w : Int32, I20949 (ad g 4) 0 = w := ⟨_, rfl⟩
                have bw20956 := BT_get hI20949.1 4 0 5 (0) (0) (1000) (by decide) 0 (by decide) (by decide)
                rw [ew20956] at bw20956
                rw [ew20956] at cv20951
                obtain ⟨w20957, ew20957⟩ : ∃ w : Int32, I20949 (ad g 4) 1 = w := ⟨_, rfl⟩
                have bw20957 := BT_get hI20949.1 4 0 5 (0) (0) (1000) (by decide) 1 (by decide) (by decide)
                rw [ew20957] at bw20957
                rw [ew20957] at cv20951
                obtain ⟨w20958, ew20958⟩ : ∃ w : Int32, I20949 (ad g 4) 2 = w := ⟨_, rfl⟩
                have bw20958 := BT_get hI20949.1 4 0 5 (0) (0) (1000) (by decide) 2 (by decide) (by decide)
                rw [ew20958] at bw20958
                rw [ew20958] at cv20951
                refine WP_istore (ls' := [(0, _), (1, _), (2, _), (3, _), (4, _)]) dX3_readTown_84 (by decide) rfl ?_
                refine WP_iload dX3_readTown_86 rfl ?_
                refine WQ_if_eq 99 dX3_readTown_88 rfl (fun c20958 => ?_) (fun c20958 => ?_)
                · refine WP_aload_n dX3_readTown_99 rfl ?_
                  refine WP_iload_n dX3_readTown_100 rfl ?_
                  refine WP_aload_n dX3_readTown_101 rfl ?_
                  refine WP_getr dX3_readTown_102 fX3_9 rfl (lyx_is hy 3 3 rfl) (rfx hr 3 3 4 (by decide)) ?_
                  refine WP_callV2 (k := 7) dX3_readTown_105 ⟨⟨⟨by decide, by decide⟩, zX7_tell⟩, lX3_58, by decide, rfl, vX7_tell.1, vX7_tell.2⟩ (lyx_is hy 27 7 rfl) (sx_tell_27_3 hy hr hI20949 v20787 (by omega) (by omega) (by rw [ew20956, ew20957, ew20958]; omega)) (Nat.le_of_ble_eq_true rfl) ?_
                  intro r I20960 J20961 Ra hq
                  obtain ⟨⟨hI20960, ec, fiI20960, fjI20960, pI20960⟩, rfl⟩ := hq
                  rw [ec]
                  clear ec Ra
                  have fr20962 : fz 74 g [1, 3, 4, 27, 28, 29, 30, 31, 32, 33, 34, 35, 36, 37, 38, 39, 40, 42] I I20960 := fz_tr fr20952 (fz_mono fiI20960 (by decide))
                  have fr20963 : fz 74 g [1, 41] J J20961 := fz_tr fr20953 (fz_mono fjI20960 (by decide))
                  have e20964 : I20960 (ad g 1) 1 = L := hI20960.2
                  have b20965 := BT_get hI20960.1 1 1 2 (0) (0) (900) (by decide) 1 (by decide) (by decide)
                  rw [e20964] at b20965
                  refine WP_iinc (ls' := [(0, _), (1, _), (2, _), (3, _), (4, _)]) dX3_readTown_108 rfl (by decide) rfl ?_
                  have hv20966 : (i20770 + Int32.ofInt (1)).toInt = i20770.toInt + (1) := ia_n rfl (by omega) (by omega)
                  generalize i20770 + Int32.ofInt (1) = v20966 at hv20966 ⊢
                  refine WP_goto 18 dX3_readTown_111 rfl ?_
                  exact WP_sub (fc rfl (fc rfl (fc rfl fn))) (ihlp18_20772 v20966 I20960 J20961 hI20960 fr20962 fr20963 (by omega) (by omega) (by omega))
                · refine WP_aload_n dX3_readTown_91 rfl ?_
                  refine WP_iload dX3_readTown_92 rfl ?_
                  refine WP_callV1 (k := 3) dX3_readTown_94 ⟨⟨⟨by decide, by decide⟩, zX3_note⟩, lX3_31, by decide, rfl, vX3_note.1, vX3_note.2⟩ (lyx_is hy 3 3 rfl) (sx_notef hy hr hI20949 v20951 ) (Nat.le_of_ble_eq_true rfl) ?_
                  intro r I20967 J20968 Ra hq
                  obtain ⟨⟨hI20967, ec, fiI20967, fjI20967⟩, rfl⟩ := hq
                  rw [ec]
                  clear ec Ra
                  have fr20969 : fz 74 g [1, 3, 4, 27, 28, 29, 30, 31, 32, 33, 34, 35, 36, 37, 38, 39, 40, 42] I I20967 := fz_tr fr20952 (fz_mono fiI20967 (by decide))
                  have fr20970 : fz 74 g [1, 41] J J20968 := fz_tr fr20953 (fz_mono fjI20967 (by decide))
                  have e20971 : I20967 (ad g 4) 0 = w20956 := by rw [fz_at fiI20967 4 (by decide) (by decide)]; exact ew20956
                  have e20972 : I20967 (ad g 4) 1 = w20957 := by rw [fz_at fiI20967 4 (by decide) (by decide)]; exact ew20957
                  have e20973 : I20967 (ad g 4) 2 = w20958 := by rw [fz_at fiI20967 4 (by decide) (by decide)]; exact ew20958
                  have e20974 : I20967 (ad g 1) 1 = L := hI20967.2
                  have b20975 := BT_get hI20967.1 1 1 2 (0) (0) (900) (by decide) 1 (by decide) (by decide)
                  rw [e20974] at b20975
                  refine WQ_iconst (0) (0) dX3_readTown_97 rfl rfl (fun v20976 hv20976 => ?_)
                  exact WP_zret dX3_readTown_98 rfl (nar_z (by omega)) ⟨⟨hI20967, rfl, fr20969, fr20970⟩, _, rfl, by omega, by omega⟩
            · refine WP_aload_n dX3_readTown_59 rfl ?_
              refine WP_iload_n dX3_readTown_60 rfl ?_
              refine WP_callV1 (k := 7) dX3_readTown_61 ⟨⟨⟨by decide, by decide⟩, zX7_faultAhead⟩, lX3_50, by decide, rfl, vX7_faultAhead.1, vX7_faultAhead.2⟩ (lyx_is hy 27 7 rfl) (sx_faultAhead_27_4 hy hr hI20779 v20787 (by omega) (by omega)) (Nat.le_of_ble_eq_true rfl) ?_
              intro r Ia Ja Ra hq
              obtain ⟨⟨ea, eb, ec⟩, v20977, rfl, av20977, bv20977⟩ := hq
              show WP _ _ _ _ (.int _ :: _) _ _ _ _
              rw [ea, eb, ec]
              clear ea eb ec Ia Ja Ra
              refine WP_istore (ls' := [(0, _), (1, _), (2, _), (3, _), (4, _)]) dX3_readTown_64 (by decide) rfl ?_
              refine WP_iload dX3_readTown_66 rfl ?_
              refine WQ_if_ne 86 dX3_readTown_68 rfl (fun c20977 => ?_) (fun c20977 => ?_)
              · refine WP_iload dX3_readTown_86 rfl ?_
                refine WQ_if_eq 99 dX3_readTown_88 rfl (fun c20978 => False.elim (by omega)) (fun c20978 => ?_)
                refine WP_aload_n dX3_readTown_91 rfl ?_
                refine WP_iload dX3_readTown_92 rfl ?_
                refine WP_callV1 (k := 3) dX3_readTown_94 ⟨⟨⟨by decide, by decide⟩, zX3_note⟩, lX3_31, by decide, rfl, vX3_note.1, vX3_note.2⟩ (lyx_is hy 3 3 rfl) (sx_notef hy hr hI20779 v20977 ) (Nat.le_of_ble_eq_true rfl) ?_
                intro r I20980 J20981 Ra hq
                obtain ⟨⟨hI20980, ec, fiI20980, fjI20980⟩, rfl⟩ := hq
                rw [ec]
                clear ec Ra
                have fr20982 : fz 74 g [1, 3, 4, 27, 28, 29, 30, 31, 32, 33, 34, 35, 36, 37, 38, 39, 40, 42] I I20980 := fz_tr fr20781 (fz_mono fiI20980 (by decide))
                have fr20983 : fz 74 g [1, 41] J J20981 := fz_tr fr20782 (fz_mono fjI20980 (by decide))
                have e20984 : I20980 (ad g 1) 2 = v20785 := by rw [fz_at fiI20980 1 (by decide) (by decide)]; exact ev20785
                have e20985 : I20980 (ad g 1) 1 = L := hI20980.2
                have b20986 := BT_get hI20980.1 1 1 2 (0) (0) (900) (by decide) 1 (by decide) (by decide)
                rw [e20985] at b20986
                refine WQ_iconst (0) (0) dX3_readTown_97 rfl rfl (fun v20987 hv20987 => ?_)
                exact WP_zret dX3_readTown_98 rfl (nar_z (by omega)) ⟨⟨hI20980, rfl, fr20982, fr20983⟩, _, rfl, by omega, by omega⟩
              · refine WP_aload_n dX3_readTown_71 rfl ?_
                refine WP_getr dX3_readTown_72 fX3_15 rfl (lyx_is hy 3 3 rfl) (rfx hr 3 2 1 (by decide)) ?_
                refine WP_callV0 (k := 5) dX3_readTown_75 ⟨⟨⟨by decide, by decide⟩, zX5_next⟩, lX3_40, by decide, rfl, vX5_next.1, vX5_next.2⟩ (lyx_is hy 1 5 rfl) (sx_nextf hy hr hI20779  ) (Nat.le_of_ble_eq_true rfl) ?_
                intro r I20988 J20989 Ra hq
                obtain ⟨⟨hI20988, ec, fiI20988, fjI20988⟩, rfl⟩ := hq
                rw [ec]
                clear ec Ra
                have fr20990 : fz 74 g [1, 3, 4, 27, 28, 29, 30, 31, 32, 33, 34, 35, 36, 37, 38, 39, 40, 42] I I20988 := fz_tr fr20781 (fz_mono fiI20988 (by decide))
                have fr20991 : fz 74 g [1, 41] J J20989 := fz_tr fr20782 (fz_mono fjI20988 (by decide))
                have e20992 : I20988 (ad g 1) 1 = L := hI20988.2
                have b20993 := BT_get hI20988.1 1 1 2 (0) (0) (900) (by decide) 1 (by decide) (by decide)
                rw [e20992] at b20993
                refine WP_aload_n dX3_readTown_78 rfl ?_
                refine WP_iload_n dX3_readTown_79 rfl ?_
                refine WP_aload_n dX3_readTown_80 rfl ?_
                refine WP_callV2 (k := 3) dX3_readTown_81 ⟨⟨⟨by decide, by decide⟩, zX3_faultInParts⟩, lX3_54, by decide, rfl, vX3_faultInParts.1, vX3_faultInParts.2⟩ (lyx_is hy 3 3 rfl) (sx_parts_27_4 hy hz hr hI20988 v20787 (by omega) (by omega)) (Nat.le_of_ble_eq_true rfl) ?_
                intro r I20994 J20995 Ra hq
                obtain ⟨⟨hI20994, ec, fiI20994, fjI20994, ⟨pI20994, sI20994_27_1, sI20994_27_2⟩⟩, v20996, rfl, av20996, bv20996, cv20996⟩ := hq
                show WP _ _ _ _ (.int _ :: _) _ _ _ _
                rw [ec]
                clear ec Ra
                have fr20997 : fz 74 g [1, 3, 4, 27, 28, 29, 30, 31, 32, 33, 34, 35, 36, 37, 38, 39, 40, 42] I I20994 := fz_tr fr20990 (fz_mono fiI20994 (by decide))
                have fr20998 : fz 74 g [1, 41] J J20995 := fz_tr fr20991 (fz_mono fjI20994 (by decide))
                have e20999 : I20994 (ad g 1) 1 = L := hI20994.2
                have b21000 := BT_get hI20994.1 1 1 2 (0) (0) (900) (by decide) 1 (by decide) (by decide)
                rw [e20999] at b21000
                obtain ⟨w21001, ew21001⟩ : ∃ w : Int32, I20994 (ad g 4) 0 = w := ⟨_, rfl⟩
                have bw21001 := BT_get hI20994.1 4 0 5 (0) (0) (1000) (by decide) 0 (by decide) (by decide)
                rw [ew21001] at bw21001
                rw [ew21001] at cv20996
                obtain ⟨w21002, ew21002⟩ : ∃ w : Int32, I20994 (ad g 4) 1 = w := ⟨_, rfl⟩
                have bw21002 := BT_get hI20994.1 4 0 5 (0) (0) (1000) (by decide) 1 (by decide) (by decide)
                rw [ew21002] at bw21002
                rw [ew21002] at cv20996
                obtain ⟨w21003, ew21003⟩ : ∃ w : Int32, I20994 (ad g 4) 2 = w := ⟨_, rfl⟩
                have bw21003 := BT_get hI20994.1 4 0 5 (0) (0) (1000) (by decide) 2 (by decide) (by decide)
                rw [ew21003] at bw21003
                rw [ew21003] at cv20996
                refine WP_istore (ls' := [(0, _), (1, _), (2, _), (3, _), (4, _)]) dX3_readTown_84 (by decide) rfl ?_
                refine WP_iload dX3_readTown_86 rfl ?_
                refine WQ_if_eq 99 dX3_readTown_88 rfl (fun c21003 => ?_) (fun c21003 => ?_)
                · refine WP_aload_n dX3_readTown_99 rfl ?_
                  refine WP_iload_n dX3_readTown_100 rfl ?_
                  refine WP_aload_n dX3_readTown_101 rfl ?_
                  refine WP_getr dX3_readTown_102 fX3_9 rfl (lyx_is hy 3 3 rfl) (rfx hr 3 3 4 (by decide)) ?_
                  refine WP_callV2 (k := 7) dX3_readTown_105 ⟨⟨⟨by decide, by decide⟩, zX7_tell⟩, lX3_58, by decide, rfl, vX7_tell.1, vX7_tell.2⟩ (lyx_is hy 27 7 rfl) (sx_tell_27_4 hy hr hI20994 v20787 (by omega) (by omega) (by rw [ew21001, ew21002, ew21003]; omega)) (Nat.le_of_ble_eq_true rfl) ?_
                  intro r I21005 J21006 Ra hq
                  obtain ⟨⟨hI21005, ec, fiI21005, fjI21005, pI21005⟩, rfl⟩ := hq
                  rw [ec]
                  clear ec Ra
                  have fr21007 : fz 74 g [1, 3, 4, 27, 28, 29, 30, 31, 32, 33, 34, 35, 36, 37, 38, 39, 40, 42] I I21005 := fz_tr fr20997 (fz_mono fiI21005 (by decide))
                  have fr21008 : fz 74 g [1, 41] J J21006 := fz_tr fr20998 (fz_mono fjI21005 (by decide))
                  have e21009 : I21005 (ad g 1) 1 = L := hI21005.2
                  have b21010 := BT_get hI21005.1 1 1 2 (0) (0) (900) (by decide) 1 (by decide) (by decide)
                  rw [e21009] at b21010
                  refine WP_iinc (ls' := [(0, _), (1, _), (2, _), (3, _), (4, _)]) dX3_readTown_108 rfl (by decide) rfl ?_
                  have hv21011 : (i20770 + Int32.ofInt (1)).toInt = i20770.toInt + (1) := ia_n rfl (by omega) (by omega)
                  generalize i20770 + Int32.ofInt (1) = v21011 at hv21011 ⊢
                  refine WP_goto 18 dX3_readTown_111 rfl ?_
                  exact WP_sub (fc rfl (fc rfl (fc rfl fn))) (ihlp18_20772 v21011 I21005 J21006 hI21005 fr21007 fr21008 (by omega) (by omega) (by omega))
                · refine WP_aload_n dX3_readTown_91 rfl ?_
                  refine WP_iload dX3_readTown_92 rfl ?_
                  refine WP_callV1 (k := 3) dX3_readTown_94 ⟨⟨⟨by decide, by decide⟩, zX3_note⟩, lX3_31, by decide, rfl, vX3_note.1, vX3_note.2⟩ (lyx_is hy 3 3 rfl) (sx_notef hy hr hI20994 v20996 ) (Nat.le_of_ble_eq_true rfl) ?_
                  intro r I21012 J21013 Ra hq
                  obtain ⟨⟨hI21012, ec, fiI21012, fjI21012⟩, rfl⟩ := hq
                  rw [ec]
                  clear ec Ra
                  have fr21014 : fz 74 g [1, 3, 4, 27, 28, 29, 30, 31, 32, 33, 34, 35, 36, 37, 38, 39, 40, 42] I I21012 := fz_tr fr20997 (fz_mono fiI21012 (by decide))
                  have fr21015 : fz 74 g [1, 41] J J21013 := fz_tr fr20998 (fz_mono fjI21012 (by decide))
                  have e21016 : I21012 (ad g 4) 0 = w21001 := by rw [fz_at fiI21012 4 (by decide) (by decide)]; exact ew21001
                  have e21017 : I21012 (ad g 4) 1 = w21002 := by rw [fz_at fiI21012 4 (by decide) (by decide)]; exact ew21002
                  have e21018 : I21012 (ad g 4) 2 = w21003 := by rw [fz_at fiI21012 4 (by decide) (by decide)]; exact ew21003
                  have e21019 : I21012 (ad g 1) 1 = L := hI21012.2
                  have b21020 := BT_get hI21012.1 1 1 2 (0) (0) (900) (by decide) 1 (by decide) (by decide)
                  rw [e21019] at b21020
                  refine WQ_iconst (0) (0) dX3_readTown_97 rfl rfl (fun v21021 hv21021 => ?_)
                  exact WP_zret dX3_readTown_98 rfl (nar_z (by omega)) ⟨⟨hI21012, rfl, fr21014, fr21015⟩, _, rfl, by omega, by omega⟩
            · refine WP_aload_n dX3_readTown_59 rfl ?_
              refine WP_iload_n dX3_readTown_60 rfl ?_
              refine WP_callV1 (k := 7) dX3_readTown_61 ⟨⟨⟨by decide, by decide⟩, zX7_faultAhead⟩, lX3_50, by decide, rfl, vX7_faultAhead.1, vX7_faultAhead.2⟩ (lyx_is hy 27 7 rfl) (sx_faultAhead_27_5 hy hr hI20779 v20787 (by omega) (by omega)) (Nat.le_of_ble_eq_true rfl) ?_
              intro r Ia Ja Ra hq
              obtain ⟨⟨ea, eb, ec⟩, v21022, rfl, av21022, bv21022⟩ := hq
              show WP _ _ _ _ (.int _ :: _) _ _ _ _
              rw [ea, eb, ec]
              clear ea eb ec Ia Ja Ra
              refine WP_istore (ls' := [(0, _), (1, _), (2, _), (3, _), (4, _)]) dX3_readTown_64 (by decide) rfl ?_
              refine WP_iload dX3_readTown_66 rfl ?_
              refine WQ_if_ne 86 dX3_readTown_68 rfl (fun c21022 => ?_) (fun c21022 => ?_)
              · refine WP_iload dX3_readTown_86 rfl ?_
                refine WQ_if_eq 99 dX3_readTown_88 rfl (fun c21023 => False.elim (by omega)) (fun c21023 => ?_)
                refine WP_aload_n dX3_readTown_91 rfl ?_
                refine WP_iload dX3_readTown_92 rfl ?_
                refine WP_callV1 (k := 3) dX3_readTown_94 ⟨⟨⟨by decide, by decide⟩, zX3_note⟩, lX3_31, by decide, rfl, vX3_note.1, vX3_note.2⟩ (lyx_is hy 3 3 rfl) (sx_notef hy hr hI20779 v21022 ) (Nat.le_of_ble_eq_true rfl) ?_
                intro r I21025 J21026 Ra hq
                obtain ⟨⟨hI21025, ec, fiI21025, fjI21025⟩, rfl⟩ := hq
                rw [ec]
                clear ec Ra
                have fr21027 : fz 74 g [1, 3, 4, 27, 28, 29, 30, 31, 32, 33, 34, 35, 36, 37, 38, 39, 40, 42] I I21025 := fz_tr fr20781 (fz_mono fiI21025 (by decide))
                have fr21028 : fz 74 g [1, 41] J J21026 := fz_tr fr20782 (fz_mono fjI21025 (by decide))
                have e21029 : I21025 (ad g 1) 2 = v20785 := by rw [fz_at fiI21025 1 (by decide) (by decide)]; exact ev20785
                have e21030 : I21025 (ad g 1) 1 = L := hI21025.2
                have b21031 := BT_get hI21025.1 1 1 2 (0) (0) (900) (by decide) 1 (by decide) (by decide)
                rw [e21030] at b21031
                refine WQ_iconst (0) (0) dX3_readTown_97 rfl rfl (fun v21032 hv21032 => ?_)
                exact WP_zret dX3_readTown_98 rfl (nar_z (by omega)) ⟨⟨hI21025, rfl, fr21027, fr21028⟩, _, rfl, by omega, by omega⟩
              · refine WP_aload_n dX3_readTown_71 rfl ?_
                refine WP_getr dX3_readTown_72 fX3_15 rfl (lyx_is hy 3 3 rfl) (rfx hr 3 2 1 (by decide)) ?_
                refine WP_callV0 (k := 5) dX3_readTown_75 ⟨⟨⟨by decide, by decide⟩, zX5_next⟩, lX3_40, by decide, rfl, vX5_next.1, vX5_next.2⟩ (lyx_is hy 1 5 rfl) (sx_nextf hy hr hI20779  ) (Nat.le_of_ble_eq_true rfl) ?_
                intro r I21033 J21034 Ra hq
                obtain ⟨⟨hI21033, ec, fiI21033, fjI21033⟩, rfl⟩ := hq
                rw [ec]
                clear ec Ra
                have fr21035 : fz 74 g [1, 3, 4, 27, 28, 29, 30, 31, 32, 33, 34, 35, 36, 37, 38, 39, 40, 42] I I21033 := fz_tr fr20781 (fz_mono fiI21033 (by decide))
                have fr21036 : fz 74 g [1, 41] J J21034 := fz_tr fr20782 (fz_mono fjI21033 (by decide))
                have e21037 : I21033 (ad g 1) 1 = L := hI21033.2
                have b21038 := BT_get hI21033.1 1 1 2 (0) (0) (900) (by decide) 1 (by decide) (by decide)
                rw [e21037] at b21038
                refine WP_aload_n dX3_readTown_78 rfl ?_
                refine WP_iload_n dX3_readTown_79 rfl ?_
                refine WP_aload_n dX3_readTown_80 rfl ?_
                refine WP_callV2 (k := 3) dX3_readTown_81 ⟨⟨⟨by decide, by decide⟩, zX3_faultInParts⟩, lX3_54, by decide, rfl, vX3_faultInParts.1, vX3_faultInParts.2⟩ (lyx_is hy 3 3 rfl) (sx_parts_27_5 hy hz hr hI21033 v20787 (by omega) (by omega)) (Nat.le_of_ble_eq_true rfl) ?_
                intro r I21039 J21040 Ra hq
                obtain ⟨⟨hI21039, ec, fiI21039, fjI21039, ⟨pI21039, sI21039_27_1, sI21039_27_2⟩⟩, v21041, rfl, av21041, bv21041, cv21041⟩ := hq
                show WP _ _ _ _ (.int _ :: _) _ _ _ _
                rw [ec]
                clear ec Ra
                have fr21042 : fz 74 g [1, 3, 4, 27, 28, 29, 30, 31, 32, 33, 34, 35, 36, 37, 38, 39, 40, 42] I I21039 := fz_tr fr21035 (fz_mono fiI21039 (by decide))
                have fr21043 : fz 74 g [1, 41] J J21040 := fz_tr fr21036 (fz_mono fjI21039 (by decide))
                have e21044 : I21039 (ad g 1) 1 = L := hI21039.2
                have b21045 := BT_get hI21039.1 1 1 2 (0) (0) (900) (by decide) 1 (by decide) (by decide)
                rw [e21044] at b21045
                obtain ⟨w21046, ew21046⟩ : ∃ w : Int32, I21039 (ad g 4) 0 = w := ⟨_, rfl⟩
                have bw21046 := BT_get hI21039.1 4 0 5 (0) (0) (1000) (by decide) 0 (by decide) (by decide)
                rw [ew21046] at bw21046
                rw [ew21046] at cv21041
                obtain ⟨w21047, ew21047⟩ : ∃ w : Int32, I21039 (ad g 4) 1 = w := ⟨_, rfl⟩
                have bw21047 := BT_get hI21039.1 4 0 5 (0) (0) (1000) (by decide) 1 (by decide) (by decide)
                rw [ew21047] at bw21047
                rw [ew21047] at cv21041
                obtain ⟨w21048, ew21048⟩ : ∃ w : Int32, I21039 (ad g 4) 2 = w := ⟨_, rfl⟩
                have bw21048 := BT_get hI21039.1 4 0 5 (0) (0) (1000) (by decide) 2 (by decide) (by decide)
                rw [ew21048] at bw21048
                rw [ew21048] at cv21041
                refine WP_istore (ls' := [(0, _), (1, _), (2, _), (3, _), (4, _)]) dX3_readTown_84 (by decide) rfl ?_
                refine WP_iload dX3_readTown_86 rfl ?_
                refine WQ_if_eq 99 dX3_readTown_88 rfl (fun c21048 => ?_) (fun c21048 => ?_)
                · refine WP_aload_n dX3_readTown_99 rfl ?_
                  refine WP_iload_n dX3_readTown_100 rfl ?_
                  refine WP_aload_n dX3_readTown_101 rfl ?_
                  refine WP_getr dX3_readTown_102 fX3_9 rfl (lyx_is hy 3 3 rfl) (rfx hr 3 3 4 (by decide)) ?_
                  refine WP_callV2 (k := 7) dX3_readTown_105 ⟨⟨⟨by decide, by decide⟩, zX7_tell⟩, lX3_58, by decide, rfl, vX7_tell.1, vX7_tell.2⟩ (lyx_is hy 27 7 rfl) (sx_tell_27_5 hy hr hI21039 v20787 (by omega) (by omega) (by rw [ew21046, ew21047, ew21048]; omega)) (Nat.le_of_ble_eq_true rfl) ?_
                  intro r I21050 J21051 Ra hq
                  obtain ⟨⟨hI21050, ec, fiI21050, fjI21050, pI21050⟩, rfl⟩ := hq
                  rw [ec]
                  clear ec Ra
                  have fr21052 : fz 74 g [1, 3, 4, 27, 28, 29, 30, 31, 32, 33, 34, 35, 36, 37, 38, 39, 40, 42] I I21050 := fz_tr fr21042 (fz_mono fiI21050 (by decide))
                  have fr21053 : fz 74 g [1, 41] J J21051 := fz_tr fr21043 (fz_mono fjI21050 (by decide))
                  have e21054 : I21050 (ad g 1) 1 = L := hI21050.2
                  have b21055 := BT_get hI21050.1 1 1 2 (0) (0) (900) (by decide) 1 (by decide) (by decide)
                  rw [e21054] at b21055
                  refine WP_iinc (ls' := [(0, _), (1, _), (2, _), (3, _), (4, _)]) dX3_readTown_108 rfl (by decide) rfl ?_
                  have hv21056 : (i20770 + Int32.ofInt (1)).toInt = i20770.toInt + (1) := ia_n rfl (by omega) (by omega)
                  generalize i20770 + Int32.ofInt (1) = v21056 at hv21056 ⊢
                  refine WP_goto 18 dX3_readTown_111 rfl ?_
                  exact WP_sub (fc rfl (fc rfl (fc rfl fn))) (ihlp18_20772 v21056 I21050 J21051 hI21050 fr21052 fr21053 (by omega) (by omega) (by omega))
                · refine WP_aload_n dX3_readTown_91 rfl ?_
                  refine WP_iload dX3_readTown_92 rfl ?_
                  refine WP_callV1 (k := 3) dX3_readTown_94 ⟨⟨⟨by decide, by decide⟩, zX3_note⟩, lX3_31, by decide, rfl, vX3_note.1, vX3_note.2⟩ (lyx_is hy 3 3 rfl) (sx_notef hy hr hI21039 v21041 ) (Nat.le_of_ble_eq_true rfl) ?_
                  intro r I21057 J21058 Ra hq
                  obtain ⟨⟨hI21057, ec, fiI21057, fjI21057⟩, rfl⟩ := hq
                  rw [ec]
                  clear ec Ra
                  have fr21059 : fz 74 g [1, 3, 4, 27, 28, 29, 30, 31, 32, 33, 34, 35, 36, 37, 38, 39, 40, 42] I I21057 := fz_tr fr21042 (fz_mono fiI21057 (by decide))
                  have fr21060 : fz 74 g [1, 41] J J21058 := fz_tr fr21043 (fz_mono fjI21057 (by decide))
                  have e21061 : I21057 (ad g 4) 0 = w21046 := by rw [fz_at fiI21057 4 (by decide) (by decide)]; exact ew21046
                  have e21062 : I21057 (ad g 4) 1 = w21047 := by rw [fz_at fiI21057 4 (by decide) (by decide)]; exact ew21047
                  have e21063 : I21057 (ad g 4) 2 = w21048 := by rw [fz_at fiI21057 4 (by decide) (by decide)]; exact ew21048
                  have e21064 : I21057 (ad g 1) 1 = L := hI21057.2
                  have b21065 := BT_get hI21057.1 1 1 2 (0) (0) (900) (by decide) 1 (by decide) (by decide)
                  rw [e21064] at b21065
                  refine WQ_iconst (0) (0) dX3_readTown_97 rfl rfl (fun v21066 hv21066 => ?_)
                  exact WP_zret dX3_readTown_98 rfl (nar_z (by omega)) ⟨⟨hI21057, rfl, fr21059, fr21060⟩, _, rfl, by omega, by omega⟩
            · refine WP_aload_n dX3_readTown_59 rfl ?_
              refine WP_iload_n dX3_readTown_60 rfl ?_
              refine WP_callV1 (k := 7) dX3_readTown_61 ⟨⟨⟨by decide, by decide⟩, zX7_faultAhead⟩, lX3_50, by decide, rfl, vX7_faultAhead.1, vX7_faultAhead.2⟩ (lyx_is hy 27 7 rfl) (sx_faultAhead_27_6 hy hr hI20779 v20787 (by omega) (by omega)) (Nat.le_of_ble_eq_true rfl) ?_
              intro r Ia Ja Ra hq
              obtain ⟨⟨ea, eb, ec⟩, v21067, rfl, av21067, bv21067⟩ := hq
              show WP _ _ _ _ (.int _ :: _) _ _ _ _
              rw [ea, eb, ec]
              clear ea eb ec Ia Ja Ra
              refine WP_istore (ls' := [(0, _), (1, _), (2, _), (3, _), (4, _)]) dX3_readTown_64 (by decide) rfl ?_
              refine WP_iload dX3_readTown_66 rfl ?_
              refine WQ_if_ne 86 dX3_readTown_68 rfl (fun c21067 => ?_) (fun c21067 => ?_)
              · refine WP_iload dX3_readTown_86 rfl ?_
                refine WQ_if_eq 99 dX3_readTown_88 rfl (fun c21068 => False.elim (by omega)) (fun c21068 => ?_)
                refine WP_aload_n dX3_readTown_91 rfl ?_
                refine WP_iload dX3_readTown_92 rfl ?_
                refine WP_callV1 (k := 3) dX3_readTown_94 ⟨⟨⟨by decide, by decide⟩, zX3_note⟩, lX3_31, by decide, rfl, vX3_note.1, vX3_note.2⟩ (lyx_is hy 3 3 rfl) (sx_notef hy hr hI20779 v21067 ) (Nat.le_of_ble_eq_true rfl) ?_
                intro r I21070 J21071 Ra hq
                obtain ⟨⟨hI21070, ec, fiI21070, fjI21070⟩, rfl⟩ := hq
                rw [ec]
                clear ec Ra
                have fr21072 : fz 74 g [1, 3, 4, 27, 28, 29, 30, 31, 32, 33, 34, 35, 36, 37, 38, 39, 40, 42] I I21070 := fz_tr fr20781 (fz_mono fiI21070 (by decide))
                have fr21073 : fz 74 g [1, 41] J J21071 := fz_tr fr20782 (fz_mono fjI21070 (by decide))
                have e21074 : I21070 (ad g 1) 2 = v20785 := by rw [fz_at fiI21070 1 (by decide) (by decide)]; exact ev20785
                have e21075 : I21070 (ad g 1) 1 = L := hI21070.2
                have b21076 := BT_get hI21070.1 1 1 2 (0) (0) (900) (by decide) 1 (by decide) (by decide)
                rw [e21075] at b21076
                refine WQ_iconst (0) (0) dX3_readTown_97 rfl rfl (fun v21077 hv21077 => ?_)
                exact WP_zret dX3_readTown_98 rfl (nar_z (by omega)) ⟨⟨hI21070, rfl, fr21072, fr21073⟩, _, rfl, by omega, by omega⟩
              · refine WP_aload_n dX3_readTown_71 rfl ?_
                refine WP_getr dX3_readTown_72 fX3_15 rfl (lyx_is hy 3 3 rfl) (rfx hr 3 2 1 (by decide)) ?_
                refine WP_callV0 (k := 5) dX3_readTown_75 ⟨⟨⟨by decide, by decide⟩, zX5_next⟩, lX3_40, by decide, rfl, vX5_next.1, vX5_next.2⟩ (lyx_is hy 1 5 rfl) (sx_nextf hy hr hI20779  ) (Nat.le_of_ble_eq_true rfl) ?_
                intro r I21078 J21079 Ra hq
                obtain ⟨⟨hI21078, ec, fiI21078, fjI21078⟩, rfl⟩ := hq
                rw [ec]
                clear ec Ra
                have fr21080 : fz 74 g [1, 3, 4, 27, 28, 29, 30, 31, 32, 33, 34, 35, 36, 37, 38, 39, 40, 42] I I21078 := fz_tr fr20781 (fz_mono fiI21078 (by decide))
                have fr21081 : fz 74 g [1, 41] J J21079 := fz_tr fr20782 (fz_mono fjI21078 (by decide))
                have e21082 : I21078 (ad g 1) 1 = L := hI21078.2
                have b21083 := BT_get hI21078.1 1 1 2 (0) (0) (900) (by decide) 1 (by decide) (by decide)
                rw [e21082] at b21083
                refine WP_aload_n dX3_readTown_78 rfl ?_
                refine WP_iload_n dX3_readTown_79 rfl ?_
                refine WP_aload_n dX3_readTown_80 rfl ?_
                refine WP_callV2 (k := 3) dX3_readTown_81 ⟨⟨⟨by decide, by decide⟩, zX3_faultInParts⟩, lX3_54, by decide, rfl, vX3_faultInParts.1, vX3_faultInParts.2⟩ (lyx_is hy 3 3 rfl) (sx_parts_27_6 hy hz hr hI21078 v20787 (by omega) (by omega)) (Nat.le_of_ble_eq_true rfl) ?_
                intro r I21084 J21085 Ra hq
                obtain ⟨⟨hI21084, ec, fiI21084, fjI21084, ⟨pI21084, sI21084_27_1, sI21084_27_2⟩⟩, v21086, rfl, av21086, bv21086, cv21086⟩ := hq
                show WP _ _ _ _ (.int _ :: _) _ _ _ _
                rw [ec]
                clear ec Ra
                have fr21087 : fz 74 g [1, 3, 4, 27, 28, 29, 30, 31, 32, 33, 34, 35, 36, 37, 38, 39, 40, 42] I I21084 := fz_tr fr21080 (fz_mono fiI21084 (by decide))
                have fr21088 : fz 74 g [1, 41] J J21085 := fz_tr fr21081 (fz_mono fjI21084 (by decide))
                have e21089 : I21084 (ad g 1) 1 = L := hI21084.2
                have b21090 := BT_get hI21084.1 1 1 2 (0) (0) (900) (by decide) 1 (by decide) (by decide)
                rw [e21089] at b21090
                obtain ⟨w21091, ew21091⟩ : ∃ w : Int32, I21084 (ad g 4) 0 = w := ⟨_, rfl⟩
                have bw21091 := BT_get hI21084.1 4 0 5 (0) (0) (1000) (by decide) 0 (by decide) (by decide)
                rw [ew21091] at bw21091
                rw [ew21091] at cv21086
                obtain ⟨w21092, ew21092⟩ : ∃ w : Int32, I21084 (ad g 4) 1 = w := ⟨_, rfl⟩
                have bw21092 := BT_get hI21084.1 4 0 5 (0) (0) (1000) (by decide) 1 (by decide) (by decide)
                rw [ew21092] at bw21092
                rw [ew21092] at cv21086
                obtain ⟨w21093, ew21093⟩ : ∃ w : Int32, I21084 (ad g 4) 2 = w := ⟨_, rfl⟩
                have bw21093 := BT_get hI21084.1 4 0 5 (0) (0) (1000) (by decide) 2 (by decide) (by decide)
                rw [ew21093] at bw21093
                rw [ew21093] at cv21086
                obtain ⟨w21094, ew21094⟩ : ∃ w : Int32, I21084 (ad g 4) 3 = w := ⟨_, rfl⟩
                have bw21094 := BT_get hI21084.1 4 0 5 (0) (0) (1000) (by decide) 3 (by decide) (by decide)
                rw [ew21094] at bw21094
                rw [ew21094] at cv21086
                obtain ⟨w21095, ew21095⟩ : ∃ w : Int32, I21084 (ad g 4) 4 = w := ⟨_, rfl⟩
                have bw21095 := BT_get hI21084.1 4 0 5 (0) (0) (1000) (by decide) 4 (by decide) (by decide)
                rw [ew21095] at bw21095
                rw [ew21095] at cv21086
                refine WP_istore (ls' := [(0, _), (1, _), (2, _), (3, _), (4, _)]) dX3_readTown_84 (by decide) rfl ?_
                refine WP_iload dX3_readTown_86 rfl ?_
                refine WQ_if_eq 99 dX3_readTown_88 rfl (fun c21095 => ?_) (fun c21095 => ?_)
                · refine WP_aload_n dX3_readTown_99 rfl ?_
                  refine WP_iload_n dX3_readTown_100 rfl ?_
                  refine WP_aload_n dX3_readTown_101 rfl ?_
                  refine WP_getr dX3_readTown_102 fX3_9 rfl (lyx_is hy 3 3 rfl) (rfx hr 3 3 4 (by decide)) ?_
                  refine WP_callV2 (k := 7) dX3_readTown_105 ⟨⟨⟨by decide, by decide⟩, zX7_tell⟩, lX3_58, by decide, rfl, vX7_tell.1, vX7_tell.2⟩ (lyx_is hy 27 7 rfl) (sx_tell_27_6 hy hr hI21084 v20787 (by omega) (by omega) (by rw [ew21091, ew21092, ew21093, ew21094, ew21095]; omega)) (Nat.le_of_ble_eq_true rfl) ?_
                  intro r I21097 J21098 Ra hq
                  obtain ⟨⟨hI21097, ec, fiI21097, fjI21097, pI21097⟩, rfl⟩ := hq
                  rw [ec]
                  clear ec Ra
                  have fr21099 : fz 74 g [1, 3, 4, 27, 28, 29, 30, 31, 32, 33, 34, 35, 36, 37, 38, 39, 40, 42] I I21097 := fz_tr fr21087 (fz_mono fiI21097 (by decide))
                  have fr21100 : fz 74 g [1, 41] J J21098 := fz_tr fr21088 (fz_mono fjI21097 (by decide))
                  have e21101 : I21097 (ad g 1) 1 = L := hI21097.2
                  have b21102 := BT_get hI21097.1 1 1 2 (0) (0) (900) (by decide) 1 (by decide) (by decide)
                  rw [e21101] at b21102
                  refine WP_iinc (ls' := [(0, _), (1, _), (2, _), (3, _), (4, _)]) dX3_readTown_108 rfl (by decide) rfl ?_
                  have hv21103 : (i20770 + Int32.ofInt (1)).toInt = i20770.toInt + (1) := ia_n rfl (by omega) (by omega)
                  generalize i20770 + Int32.ofInt (1) = v21103 at hv21103 ⊢
                  refine WP_goto 18 dX3_readTown_111 rfl ?_
                  exact WP_sub (fc rfl (fc rfl (fc rfl fn))) (ihlp18_20772 v21103 I21097 J21098 hI21097 fr21099 fr21100 (by omega) (by omega) (by omega))
                · refine WP_aload_n dX3_readTown_91 rfl ?_
                  refine WP_iload dX3_readTown_92 rfl ?_
                  refine WP_callV1 (k := 3) dX3_readTown_94 ⟨⟨⟨by decide, by decide⟩, zX3_note⟩, lX3_31, by decide, rfl, vX3_note.1, vX3_note.2⟩ (lyx_is hy 3 3 rfl) (sx_notef hy hr hI21084 v21086 ) (Nat.le_of_ble_eq_true rfl) ?_
                  intro r I21104 J21105 Ra hq
                  obtain ⟨⟨hI21104, ec, fiI21104, fjI21104⟩, rfl⟩ := hq
                  rw [ec]
                  clear ec Ra
                  have fr21106 : fz 74 g [1, 3, 4, 27, 28, 29, 30, 31, 32, 33, 34, 35, 36, 37, 38, 39, 40, 42] I I21104 := fz_tr fr21087 (fz_mono fiI21104 (by decide))
                  have fr21107 : fz 74 g [1, 41] J J21105 := fz_tr fr21088 (fz_mono fjI21104 (by decide))
                  have e21108 : I21104 (ad g 4) 0 = w21091 := by rw [fz_at fiI21104 4 (by decide) (by decide)]; exact ew21091
                  have e21109 : I21104 (ad g 4) 1 = w21092 := by rw [fz_at fiI21104 4 (by decide) (by decide)]; exact ew21092
                  have e21110 : I21104 (ad g 4) 2 = w21093 := by rw [fz_at fiI21104 4 (by decide) (by decide)]; exact ew21093
                  have e21111 : I21104 (ad g 4) 3 = w21094 := by rw [fz_at fiI21104 4 (by decide) (by decide)]; exact ew21094
                  have e21112 : I21104 (ad g 4) 4 = w21095 := by rw [fz_at fiI21104 4 (by decide) (by decide)]; exact ew21095
                  have e21113 : I21104 (ad g 1) 1 = L := hI21104.2
                  have b21114 := BT_get hI21104.1 1 1 2 (0) (0) (900) (by decide) 1 (by decide) (by decide)
                  rw [e21113] at b21114
                  refine WQ_iconst (0) (0) dX3_readTown_97 rfl rfl (fun v21115 hv21115 => ?_)
                  exact WP_zret dX3_readTown_98 rfl (nar_z (by omega)) ⟨⟨hI21104, rfl, fr21106, fr21107⟩, _, rfl, by omega, by omega⟩
            · refine WP_aload_n dX3_readTown_59 rfl ?_
              refine WP_iload_n dX3_readTown_60 rfl ?_
              refine WP_callV1 (k := 7) dX3_readTown_61 ⟨⟨⟨by decide, by decide⟩, zX7_faultAhead⟩, lX3_50, by decide, rfl, vX7_faultAhead.1, vX7_faultAhead.2⟩ (lyx_is hy 27 7 rfl) (sx_faultAhead_27_7 hy hr hI20779 v20787 (by omega) (by omega)) (Nat.le_of_ble_eq_true rfl) ?_
              intro r Ia Ja Ra hq
              obtain ⟨⟨ea, eb, ec⟩, v21116, rfl, av21116, bv21116⟩ := hq
              show WP _ _ _ _ (.int _ :: _) _ _ _ _
              rw [ea, eb, ec]
              clear ea eb ec Ia Ja Ra
              refine WP_istore (ls' := [(0, _), (1, _), (2, _), (3, _), (4, _)]) dX3_readTown_64 (by decide) rfl ?_
              refine WP_iload dX3_readTown_66 rfl ?_
              refine WQ_if_ne 86 dX3_readTown_68 rfl (fun c21116 => ?_) (fun c21116 => ?_)
              · refine WP_iload dX3_readTown_86 rfl ?_
                refine WQ_if_eq 99 dX3_readTown_88 rfl (fun c21117 => False.elim (by omega)) (fun c21117 => ?_)
                refine WP_aload_n dX3_readTown_91 rfl ?_
                refine WP_iload dX3_readTown_92 rfl ?_
                refine WP_callV1 (k := 3) dX3_readTown_94 ⟨⟨⟨by decide, by decide⟩, zX3_note⟩, lX3_31, by decide, rfl, vX3_note.1, vX3_note.2⟩ (lyx_is hy 3 3 rfl) (sx_notef hy hr hI20779 v21116 ) (Nat.le_of_ble_eq_true rfl) ?_
                intro r I21119 J21120 Ra hq
                obtain ⟨⟨hI21119, ec, fiI21119, fjI21119⟩, rfl⟩ := hq
                rw [ec]
                clear ec Ra
                have fr21121 : fz 74 g [1, 3, 4, 27, 28, 29, 30, 31, 32, 33, 34, 35, 36, 37, 38, 39, 40, 42] I I21119 := fz_tr fr20781 (fz_mono fiI21119 (by decide))
                have fr21122 : fz 74 g [1, 41] J J21120 := fz_tr fr20782 (fz_mono fjI21119 (by decide))
                have e21123 : I21119 (ad g 1) 2 = v20785 := by rw [fz_at fiI21119 1 (by decide) (by decide)]; exact ev20785
                have e21124 : I21119 (ad g 1) 1 = L := hI21119.2
                have b21125 := BT_get hI21119.1 1 1 2 (0) (0) (900) (by decide) 1 (by decide) (by decide)
                rw [e21124] at b21125
                refine WQ_iconst (0) (0) dX3_readTown_97 rfl rfl (fun v21126 hv21126 => ?_)
                exact WP_zret dX3_readTown_98 rfl (nar_z (by omega)) ⟨⟨hI21119, rfl, fr21121, fr21122⟩, _, rfl, by omega, by omega⟩
              · refine WP_aload_n dX3_readTown_71 rfl ?_
                refine WP_getr dX3_readTown_72 fX3_15 rfl (lyx_is hy 3 3 rfl) (rfx hr 3 2 1 (by decide)) ?_
                refine WP_callV0 (k := 5) dX3_readTown_75 ⟨⟨⟨by decide, by decide⟩, zX5_next⟩, lX3_40, by decide, rfl, vX5_next.1, vX5_next.2⟩ (lyx_is hy 1 5 rfl) (sx_nextf hy hr hI20779  ) (Nat.le_of_ble_eq_true rfl) ?_
                intro r I21127 J21128 Ra hq
                obtain ⟨⟨hI21127, ec, fiI21127, fjI21127⟩, rfl⟩ := hq
                rw [ec]
                clear ec Ra
                have fr21129 : fz 74 g [1, 3, 4, 27, 28, 29, 30, 31, 32, 33, 34, 35, 36, 37, 38, 39, 40, 42] I I21127 := fz_tr fr20781 (fz_mono fiI21127 (by decide))
                have fr21130 : fz 74 g [1, 41] J J21128 := fz_tr fr20782 (fz_mono fjI21127 (by decide))
                have e21131 : I21127 (ad g 1) 1 = L := hI21127.2
                have b21132 := BT_get hI21127.1 1 1 2 (0) (0) (900) (by decide) 1 (by decide) (by decide)
                rw [e21131] at b21132
                refine WP_aload_n dX3_readTown_78 rfl ?_
                refine WP_iload_n dX3_readTown_79 rfl ?_
                refine WP_aload_n dX3_readTown_80 rfl ?_
                refine WP_callV2 (k := 3) dX3_readTown_81 ⟨⟨⟨by decide, by decide⟩, zX3_faultInParts⟩, lX3_54, by decide, rfl, vX3_faultInParts.1, vX3_faultInParts.2⟩ (lyx_is hy 3 3 rfl) (sx_parts_27_7 hy hz hr hI21127 v20787 (by omega) (by omega)) (Nat.le_of_ble_eq_true rfl) ?_
                intro r I21133 J21134 Ra hq
                obtain ⟨⟨hI21133, ec, fiI21133, fjI21133, ⟨pI21133, sI21133_27_1, sI21133_27_2⟩⟩, v21135, rfl, av21135, bv21135, cv21135⟩ := hq
                show WP _ _ _ _ (.int _ :: _) _ _ _ _
                rw [ec]
                clear ec Ra
                have fr21136 : fz 74 g [1, 3, 4, 27, 28, 29, 30, 31, 32, 33, 34, 35, 36, 37, 38, 39, 40, 42] I I21133 := fz_tr fr21129 (fz_mono fiI21133 (by decide))
                have fr21137 : fz 74 g [1, 41] J J21134 := fz_tr fr21130 (fz_mono fjI21133 (by decide))
                have e21138 : I21133 (ad g 1) 1 = L := hI21133.2
                have b21139 := BT_get hI21133.1 1 1 2 (0) (0) (900) (by decide) 1 (by decide) (by decide)
                rw [e21138] at b21139
                obtain ⟨w21140, ew21140⟩ : ∃ w : Int32, I21133 (ad g 4) 0 = w := ⟨_, rfl⟩
                have bw21140 := BT_get hI21133.1 4 0 5 (0) (0) (1000) (by decide) 0 (by decide) (by decide)
                rw [ew21140] at bw21140
                rw [ew21140] at cv21135
                refine WP_istore (ls' := [(0, _), (1, _), (2, _), (3, _), (4, _)]) dX3_readTown_84 (by decide) rfl ?_
                refine WP_iload dX3_readTown_86 rfl ?_
                refine WQ_if_eq 99 dX3_readTown_88 rfl (fun c21140 => ?_) (fun c21140 => ?_)
                · refine WP_aload_n dX3_readTown_99 rfl ?_
                  refine WP_iload_n dX3_readTown_100 rfl ?_
                  refine WP_aload_n dX3_readTown_101 rfl ?_
                  refine WP_getr dX3_readTown_102 fX3_9 rfl (lyx_is hy 3 3 rfl) (rfx hr 3 3 4 (by decide)) ?_
                  refine WP_callV2 (k := 7) dX3_readTown_105 ⟨⟨⟨by decide, by decide⟩, zX7_tell⟩, lX3_58, by decide, rfl, vX7_tell.1, vX7_tell.2⟩ (lyx_is hy 27 7 rfl) (sx_tell_27_7 hy hr hI21133 v20787 (by omega) (by omega) (by rw [ew21140]; omega)) (Nat.le_of_ble_eq_true rfl) ?_
                  intro r I21142 J21143 Ra hq
                  obtain ⟨⟨hI21142, ec, fiI21142, fjI21142, pI21142⟩, rfl⟩ := hq
                  rw [ec]
                  clear ec Ra
                  have fr21144 : fz 74 g [1, 3, 4, 27, 28, 29, 30, 31, 32, 33, 34, 35, 36, 37, 38, 39, 40, 42] I I21142 := fz_tr fr21136 (fz_mono fiI21142 (by decide))
                  have fr21145 : fz 74 g [1, 41] J J21143 := fz_tr fr21137 (fz_mono fjI21142 (by decide))
                  have e21146 : I21142 (ad g 1) 1 = L := hI21142.2
                  have b21147 := BT_get hI21142.1 1 1 2 (0) (0) (900) (by decide) 1 (by decide) (by decide)
                  rw [e21146] at b21147
                  refine WP_iinc (ls' := [(0, _), (1, _), (2, _), (3, _), (4, _)]) dX3_readTown_108 rfl (by decide) rfl ?_
                  have hv21148 : (i20770 + Int32.ofInt (1)).toInt = i20770.toInt + (1) := ia_n rfl (by omega) (by omega)
                  generalize i20770 + Int32.ofInt (1) = v21148 at hv21148 ⊢
                  refine WP_goto 18 dX3_readTown_111 rfl ?_
                  exact WP_sub (fc rfl (fc rfl (fc rfl fn))) (ihlp18_20772 v21148 I21142 J21143 hI21142 fr21144 fr21145 (by omega) (by omega) (by omega))
                · refine WP_aload_n dX3_readTown_91 rfl ?_
                  refine WP_iload dX3_readTown_92 rfl ?_
                  refine WP_callV1 (k := 3) dX3_readTown_94 ⟨⟨⟨by decide, by decide⟩, zX3_note⟩, lX3_31, by decide, rfl, vX3_note.1, vX3_note.2⟩ (lyx_is hy 3 3 rfl) (sx_notef hy hr hI21133 v21135 ) (Nat.le_of_ble_eq_true rfl) ?_
                  intro r I21149 J21150 Ra hq
                  obtain ⟨⟨hI21149, ec, fiI21149, fjI21149⟩, rfl⟩ := hq
                  rw [ec]
                  clear ec Ra
                  have fr21151 : fz 74 g [1, 3, 4, 27, 28, 29, 30, 31, 32, 33, 34, 35, 36, 37, 38, 39, 40, 42] I I21149 := fz_tr fr21136 (fz_mono fiI21149 (by decide))
                  have fr21152 : fz 74 g [1, 41] J J21150 := fz_tr fr21137 (fz_mono fjI21149 (by decide))
                  have e21153 : I21149 (ad g 4) 0 = w21140 := by rw [fz_at fiI21149 4 (by decide) (by decide)]; exact ew21140
                  have e21154 : I21149 (ad g 1) 1 = L := hI21149.2
                  have b21155 := BT_get hI21149.1 1 1 2 (0) (0) (900) (by decide) 1 (by decide) (by decide)
                  rw [e21154] at b21155
                  refine WQ_iconst (0) (0) dX3_readTown_97 rfl rfl (fun v21156 hv21156 => ?_)
                  exact WP_zret dX3_readTown_98 rfl (nar_z (by omega)) ⟨⟨hI21149, rfl, fr21151, fr21152⟩, _, rfl, by omega, by omega⟩
            · refine WP_aload_n dX3_readTown_59 rfl ?_
              refine WP_iload_n dX3_readTown_60 rfl ?_
              refine WP_callV1 (k := 7) dX3_readTown_61 ⟨⟨⟨by decide, by decide⟩, zX7_faultAhead⟩, lX3_50, by decide, rfl, vX7_faultAhead.1, vX7_faultAhead.2⟩ (lyx_is hy 27 7 rfl) (sx_faultAhead_27_8 hy hr hI20779 v20787 (by omega) (by omega)) (Nat.le_of_ble_eq_true rfl) ?_
              intro r Ia Ja Ra hq
              obtain ⟨⟨ea, eb, ec⟩, v21157, rfl, av21157, bv21157⟩ := hq
              show WP _ _ _ _ (.int _ :: _) _ _ _ _
              rw [ea, eb, ec]
              clear ea eb ec Ia Ja Ra
              refine WP_istore (ls' := [(0, _), (1, _), (2, _), (3, _), (4, _)]) dX3_readTown_64 (by decide) rfl ?_
              refine WP_iload dX3_readTown_66 rfl ?_
              refine WQ_if_ne 86 dX3_readTown_68 rfl (fun c21157 => ?_) (fun c21157 => ?_)
              · refine WP_iload dX3_readTown_86 rfl ?_
                refine WQ_if_eq 99 dX3_readTown_88 rfl (fun c21158 => False.elim (by omega)) (fun c21158 => ?_)
                refine WP_aload_n dX3_readTown_91 rfl ?_
                refine WP_iload dX3_readTown_92 rfl ?_
                refine WP_callV1 (k := 3) dX3_readTown_94 ⟨⟨⟨by decide, by decide⟩, zX3_note⟩, lX3_31, by decide, rfl, vX3_note.1, vX3_note.2⟩ (lyx_is hy 3 3 rfl) (sx_notef hy hr hI20779 v21157 ) (Nat.le_of_ble_eq_true rfl) ?_
                intro r I21160 J21161 Ra hq
                obtain ⟨⟨hI21160, ec, fiI21160, fjI21160⟩, rfl⟩ := hq
                rw [ec]
                clear ec Ra
                have fr21162 : fz 74 g [1, 3, 4, 27, 28, 29, 30, 31, 32, 33, 34, 35, 36, 37, 38, 39, 40, 42] I I21160 := fz_tr fr20781 (fz_mono fiI21160 (by decide))
                have fr21163 : fz 74 g [1, 41] J J21161 := fz_tr fr20782 (fz_mono fjI21160 (by decide))
                have e21164 : I21160 (ad g 1) 2 = v20785 := by rw [fz_at fiI21160 1 (by decide) (by decide)]; exact ev20785
                have e21165 : I21160 (ad g 1) 1 = L := hI21160.2
                have b21166 := BT_get hI21160.1 1 1 2 (0) (0) (900) (by decide) 1 (by decide) (by decide)
                rw [e21165] at b21166
                refine WQ_iconst (0) (0) dX3_readTown_97 rfl rfl (fun v21167 hv21167 => ?_)
                exact WP_zret dX3_readTown_98 rfl (nar_z (by omega)) ⟨⟨hI21160, rfl, fr21162, fr21163⟩, _, rfl, by omega, by omega⟩
              · refine WP_aload_n dX3_readTown_71 rfl ?_
                refine WP_getr dX3_readTown_72 fX3_15 rfl (lyx_is hy 3 3 rfl) (rfx hr 3 2 1 (by decide)) ?_
                refine WP_callV0 (k := 5) dX3_readTown_75 ⟨⟨⟨by decide, by decide⟩, zX5_next⟩, lX3_40, by decide, rfl, vX5_next.1, vX5_next.2⟩ (lyx_is hy 1 5 rfl) (sx_nextf hy hr hI20779  ) (Nat.le_of_ble_eq_true rfl) ?_
                intro r I21168 J21169 Ra hq
                obtain ⟨⟨hI21168, ec, fiI21168, fjI21168⟩, rfl⟩ := hq
                rw [ec]
                clear ec Ra
                have fr21170 : fz 74 g [1, 3, 4, 27, 28, 29, 30, 31, 32, 33, 34, 35, 36, 37, 38, 39, 40, 42] I I21168 := fz_tr fr20781 (fz_mono fiI21168 (by decide))
                have fr21171 : fz 74 g [1, 41] J J21169 := fz_tr fr20782 (fz_mono fjI21168 (by decide))
                have e21172 : I21168 (ad g 1) 1 = L := hI21168.2
                have b21173 := BT_get hI21168.1 1 1 2 (0) (0) (900) (by decide) 1 (by decide) (by decide)
                rw [e21172] at b21173
                refine WP_aload_n dX3_readTown_78 rfl ?_
                refine WP_iload_n dX3_readTown_79 rfl ?_
                refine WP_aload_n dX3_readTown_80 rfl ?_
                refine WP_callV2 (k := 3) dX3_readTown_81 ⟨⟨⟨by decide, by decide⟩, zX3_faultInParts⟩, lX3_54, by decide, rfl, vX3_faultInParts.1, vX3_faultInParts.2⟩ (lyx_is hy 3 3 rfl) (sx_parts_27_8 hy hz hr hI21168 v20787 (by omega) (by omega)) (Nat.le_of_ble_eq_true rfl) ?_
                intro r I21174 J21175 Ra hq
                obtain ⟨⟨hI21174, ec, fiI21174, fjI21174, ⟨pI21174, sI21174_27_1, sI21174_27_2⟩⟩, v21176, rfl, av21176, bv21176, cv21176⟩ := hq
                show WP _ _ _ _ (.int _ :: _) _ _ _ _
                rw [ec]
                clear ec Ra
                have fr21177 : fz 74 g [1, 3, 4, 27, 28, 29, 30, 31, 32, 33, 34, 35, 36, 37, 38, 39, 40, 42] I I21174 := fz_tr fr21170 (fz_mono fiI21174 (by decide))
                have fr21178 : fz 74 g [1, 41] J J21175 := fz_tr fr21171 (fz_mono fjI21174 (by decide))
                have e21179 : I21174 (ad g 1) 1 = L := hI21174.2
                have b21180 := BT_get hI21174.1 1 1 2 (0) (0) (900) (by decide) 1 (by decide) (by decide)
                rw [e21179] at b21180
                obtain ⟨w21181, ew21181⟩ : ∃ w : Int32, I21174 (ad g 4) 0 = w := ⟨_, rfl⟩
                have bw21181 := BT_get hI21174.1 4 0 5 (0) (0) (1000) (by decide) 0 (by decide) (by decide)
                rw [ew21181] at bw21181
                rw [ew21181] at cv21176
                refine WP_istore (ls' := [(0, _), (1, _), (2, _), (3, _), (4, _)]) dX3_readTown_84 (by decide) rfl ?_
                refine WP_iload dX3_readTown_86 rfl ?_
                refine WQ_if_eq 99 dX3_readTown_88 rfl (fun c21181 => ?_) (fun c21181 => ?_)
                · refine WP_aload_n dX3_readTown_99 rfl ?_
                  refine WP_iload_n dX3_readTown_100 rfl ?_
                  refine WP_aload_n dX3_readTown_101 rfl ?_
                  refine WP_getr dX3_readTown_102 fX3_9 rfl (lyx_is hy 3 3 rfl) (rfx hr 3 3 4 (by decide)) ?_
                  refine WP_callV2 (k := 7) dX3_readTown_105 ⟨⟨⟨by decide, by decide⟩, zX7_tell⟩, lX3_58, by decide, rfl, vX7_tell.1, vX7_tell.2⟩ (lyx_is hy 27 7 rfl) (sx_tell_27_8 hy hr hI21174 v20787 (by omega) (by omega) (by rw [ew21181]; omega)) (Nat.le_of_ble_eq_true rfl) ?_
                  intro r I21183 J21184 Ra hq
                  obtain ⟨⟨hI21183, ec, fiI21183, fjI21183, pI21183⟩, rfl⟩ := hq
                  rw [ec]
                  clear ec Ra
                  have fr21185 : fz 74 g [1, 3, 4, 27, 28, 29, 30, 31, 32, 33, 34, 35, 36, 37, 38, 39, 40, 42] I I21183 := fz_tr fr21177 (fz_mono fiI21183 (by decide))
                  have fr21186 : fz 74 g [1, 41] J J21184 := fz_tr fr21178 (fz_mono fjI21183 (by decide))
                  have e21187 : I21183 (ad g 1) 1 = L := hI21183.2
                  have b21188 := BT_get hI21183.1 1 1 2 (0) (0) (900) (by decide) 1 (by decide) (by decide)
                  rw [e21187] at b21188
                  refine WP_iinc (ls' := [(0, _), (1, _), (2, _), (3, _), (4, _)]) dX3_readTown_108 rfl (by decide) rfl ?_
                  have hv21189 : (i20770 + Int32.ofInt (1)).toInt = i20770.toInt + (1) := ia_n rfl (by omega) (by omega)
                  generalize i20770 + Int32.ofInt (1) = v21189 at hv21189 ⊢
                  refine WP_goto 18 dX3_readTown_111 rfl ?_
                  exact WP_sub (fc rfl (fc rfl (fc rfl fn))) (ihlp18_20772 v21189 I21183 J21184 hI21183 fr21185 fr21186 (by omega) (by omega) (by omega))
                · refine WP_aload_n dX3_readTown_91 rfl ?_
                  refine WP_iload dX3_readTown_92 rfl ?_
                  refine WP_callV1 (k := 3) dX3_readTown_94 ⟨⟨⟨by decide, by decide⟩, zX3_note⟩, lX3_31, by decide, rfl, vX3_note.1, vX3_note.2⟩ (lyx_is hy 3 3 rfl) (sx_notef hy hr hI21174 v21176 ) (Nat.le_of_ble_eq_true rfl) ?_
                  intro r I21190 J21191 Ra hq
                  obtain ⟨⟨hI21190, ec, fiI21190, fjI21190⟩, rfl⟩ := hq
                  rw [ec]
                  clear ec Ra
                  have fr21192 : fz 74 g [1, 3, 4, 27, 28, 29, 30, 31, 32, 33, 34, 35, 36, 37, 38, 39, 40, 42] I I21190 := fz_tr fr21177 (fz_mono fiI21190 (by decide))
                  have fr21193 : fz 74 g [1, 41] J J21191 := fz_tr fr21178 (fz_mono fjI21190 (by decide))
                  have e21194 : I21190 (ad g 4) 0 = w21181 := by rw [fz_at fiI21190 4 (by decide) (by decide)]; exact ew21181
                  have e21195 : I21190 (ad g 1) 1 = L := hI21190.2
                  have b21196 := BT_get hI21190.1 1 1 2 (0) (0) (900) (by decide) 1 (by decide) (by decide)
                  rw [e21195] at b21196
                  refine WQ_iconst (0) (0) dX3_readTown_97 rfl rfl (fun v21197 hv21197 => ?_)
                  exact WP_zret dX3_readTown_98 rfl (nar_z (by omega)) ⟨⟨hI21190, rfl, fr21192, fr21193⟩, _, rfl, by omega, by omega⟩
            · refine WP_aload_n dX3_readTown_59 rfl ?_
              refine WP_iload_n dX3_readTown_60 rfl ?_
              refine WP_callV1 (k := 7) dX3_readTown_61 ⟨⟨⟨by decide, by decide⟩, zX7_faultAhead⟩, lX3_50, by decide, rfl, vX7_faultAhead.1, vX7_faultAhead.2⟩ (lyx_is hy 27 7 rfl) (sx_faultAhead_27_9 hy hr hI20779 v20787 (by omega) (by omega)) (Nat.le_of_ble_eq_true rfl) ?_
              intro r Ia Ja Ra hq
              obtain ⟨⟨ea, eb, ec⟩, v21198, rfl, av21198, bv21198⟩ := hq
              show WP _ _ _ _ (.int _ :: _) _ _ _ _
              rw [ea, eb, ec]
              clear ea eb ec Ia Ja Ra
              refine WP_istore (ls' := [(0, _), (1, _), (2, _), (3, _), (4, _)]) dX3_readTown_64 (by decide) rfl ?_
              refine WP_iload dX3_readTown_66 rfl ?_
              refine WQ_if_ne 86 dX3_readTown_68 rfl (fun c21198 => ?_) (fun c21198 => ?_)
              · refine WP_iload dX3_readTown_86 rfl ?_
                refine WQ_if_eq 99 dX3_readTown_88 rfl (fun c21199 => False.elim (by omega)) (fun c21199 => ?_)
                refine WP_aload_n dX3_readTown_91 rfl ?_
                refine WP_iload dX3_readTown_92 rfl ?_
                refine WP_callV1 (k := 3) dX3_readTown_94 ⟨⟨⟨by decide, by decide⟩, zX3_note⟩, lX3_31, by decide, rfl, vX3_note.1, vX3_note.2⟩ (lyx_is hy 3 3 rfl) (sx_notef hy hr hI20779 v21198 ) (Nat.le_of_ble_eq_true rfl) ?_
                intro r I21201 J21202 Ra hq
                obtain ⟨⟨hI21201, ec, fiI21201, fjI21201⟩, rfl⟩ := hq
                rw [ec]
                clear ec Ra
                have fr21203 : fz 74 g [1, 3, 4, 27, 28, 29, 30, 31, 32, 33, 34, 35, 36, 37, 38, 39, 40, 42] I I21201 := fz_tr fr20781 (fz_mono fiI21201 (by decide))
                have fr21204 : fz 74 g [1, 41] J J21202 := fz_tr fr20782 (fz_mono fjI21201 (by decide))
                have e21205 : I21201 (ad g 1) 2 = v20785 := by rw [fz_at fiI21201 1 (by decide) (by decide)]; exact ev20785
                have e21206 : I21201 (ad g 1) 1 = L := hI21201.2
                have b21207 := BT_get hI21201.1 1 1 2 (0) (0) (900) (by decide) 1 (by decide) (by decide)
                rw [e21206] at b21207
                refine WQ_iconst (0) (0) dX3_readTown_97 rfl rfl (fun v21208 hv21208 => ?_)
                exact WP_zret dX3_readTown_98 rfl (nar_z (by omega)) ⟨⟨hI21201, rfl, fr21203, fr21204⟩, _, rfl, by omega, by omega⟩
              · refine WP_aload_n dX3_readTown_71 rfl ?_
                refine WP_getr dX3_readTown_72 fX3_15 rfl (lyx_is hy 3 3 rfl) (rfx hr 3 2 1 (by decide)) ?_
                refine WP_callV0 (k := 5) dX3_readTown_75 ⟨⟨⟨by decide, by decide⟩, zX5_next⟩, lX3_40, by decide, rfl, vX5_next.1, vX5_next.2⟩ (lyx_is hy 1 5 rfl) (sx_nextf hy hr hI20779  ) (Nat.le_of_ble_eq_true rfl) ?_
                intro r I21209 J21210 Ra hq
                obtain ⟨⟨hI21209, ec, fiI21209, fjI21209⟩, rfl⟩ := hq
                rw [ec]
                clear ec Ra
                have fr21211 : fz 74 g [1, 3, 4, 27, 28, 29, 30, 31, 32, 33, 34, 35, 36, 37, 38, 39, 40, 42] I I21209 := fz_tr fr20781 (fz_mono fiI21209 (by decide))
                have fr21212 : fz 74 g [1, 41] J J21210 := fz_tr fr20782 (fz_mono fjI21209 (by decide))
                have e21213 : I21209 (ad g 1) 1 = L := hI21209.2
                have b21214 := BT_get hI21209.1 1 1 2 (0) (0) (900) (by decide) 1 (by decide) (by decide)
                rw [e21213] at b21214
                refine WP_aload_n dX3_readTown_78 rfl ?_
                refine WP_iload_n dX3_readTown_79 rfl ?_
                refine WP_aload_n dX3_readTown_80 rfl ?_
                refine WP_callV2 (k := 3) dX3_readTown_81 ⟨⟨⟨by decide, by decide⟩, zX3_faultInParts⟩, lX3_54, by decide, rfl, vX3_faultInParts.1, vX3_faultInParts.2⟩ (lyx_is hy 3 3 rfl) (sx_parts_27_9 hy hz hr hI21209 v20787 (by omega) (by omega)) (Nat.le_of_ble_eq_true rfl) ?_
                intro r I21215 J21216 Ra hq
                obtain ⟨⟨hI21215, ec, fiI21215, fjI21215, ⟨pI21215, sI21215_27_1, sI21215_27_2⟩⟩, v21217, rfl, av21217, bv21217, cv21217⟩ := hq
                show WP _ _ _ _ (.int _ :: _) _ _ _ _
                rw [ec]
                clear ec Ra
                have fr21218 : fz 74 g [1, 3, 4, 27, 28, 29, 30, 31, 32, 33, 34, 35, 36, 37, 38, 39, 40, 42] I I21215 := fz_tr fr21211 (fz_mono fiI21215 (by decide))
                have fr21219 : fz 74 g [1, 41] J J21216 := fz_tr fr21212 (fz_mono fjI21215 (by decide))
                have e21220 : I21215 (ad g 1) 1 = L := hI21215.2
                have b21221 := BT_get hI21215.1 1 1 2 (0) (0) (900) (by decide) 1 (by decide) (by decide)
                rw [e21220] at b21221
                obtain ⟨w21222, ew21222⟩ : ∃ w : Int32, I21215 (ad g 4) 0 = w := ⟨_, rfl⟩
                have bw21222 := BT_get hI21215.1 4 0 5 (0) (0) (1000) (by decide) 0 (by decide) (by decide)
                rw [ew21222] at bw21222
                rw [ew21222] at cv21217
                refine WP_istore (ls' := [(0, _), (1, _), (2, _), (3, _), (4, _)]) dX3_readTown_84 (by decide) rfl ?_
                refine WP_iload dX3_readTown_86 rfl ?_
                refine WQ_if_eq 99 dX3_readTown_88 rfl (fun c21222 => ?_) (fun c21222 => ?_)
                · refine WP_aload_n dX3_readTown_99 rfl ?_
                  refine WP_iload_n dX3_readTown_100 rfl ?_
                  refine WP_aload_n dX3_readTown_101 rfl ?_
                  refine WP_getr dX3_readTown_102 fX3_9 rfl (lyx_is hy 3 3 rfl) (rfx hr 3 3 4 (by decide)) ?_
                  refine WP_callV2 (k := 7) dX3_readTown_105 ⟨⟨⟨by decide, by decide⟩, zX7_tell⟩, lX3_58, by decide, rfl, vX7_tell.1, vX7_tell.2⟩ (lyx_is hy 27 7 rfl) (sx_tell_27_9 hy hr hI21215 v20787 (by omega) (by omega) (by rw [ew21222]; omega)) (Nat.le_of_ble_eq_true rfl) ?_
                  intro r I21224 J21225 Ra hq
                  obtain ⟨⟨hI21224, ec, fiI21224, fjI21224, pI21224⟩, rfl⟩ := hq
                  rw [ec]
                  clear ec Ra
                  have fr21226 : fz 74 g [1, 3, 4, 27, 28, 29, 30, 31, 32, 33, 34, 35, 36, 37, 38, 39, 40, 42] I I21224 := fz_tr fr21218 (fz_mono fiI21224 (by decide))
                  have fr21227 : fz 74 g [1, 41] J J21225 := fz_tr fr21219 (fz_mono fjI21224 (by decide))
                  have e21228 : I21224 (ad g 1) 1 = L := hI21224.2
                  have b21229 := BT_get hI21224.1 1 1 2 (0) (0) (900) (by decide) 1 (by decide) (by decide)
                  rw [e21228] at b21229
                  refine WP_iinc (ls' := [(0, _), (1, _), (2, _), (3, _), (4, _)]) dX3_readTown_108 rfl (by decide) rfl ?_
                  have hv21230 : (i20770 + Int32.ofInt (1)).toInt = i20770.toInt + (1) := ia_n rfl (by omega) (by omega)
                  generalize i20770 + Int32.ofInt (1) = v21230 at hv21230 ⊢
                  refine WP_goto 18 dX3_readTown_111 rfl ?_
                  exact WP_sub (fc rfl (fc rfl (fc rfl fn))) (ihlp18_20772 v21230 I21224 J21225 hI21224 fr21226 fr21227 (by omega) (by omega) (by omega))
                · refine WP_aload_n dX3_readTown_91 rfl ?_
                  refine WP_iload dX3_readTown_92 rfl ?_
                  refine WP_callV1 (k := 3) dX3_readTown_94 ⟨⟨⟨by decide, by decide⟩, zX3_note⟩, lX3_31, by decide, rfl, vX3_note.1, vX3_note.2⟩ (lyx_is hy 3 3 rfl) (sx_notef hy hr hI21215 v21217 ) (Nat.le_of_ble_eq_true rfl) ?_
                  intro r I21231 J21232 Ra hq
                  obtain ⟨⟨hI21231, ec, fiI21231, fjI21231⟩, rfl⟩ := hq
                  rw [ec]
                  clear ec Ra
                  have fr21233 : fz 74 g [1, 3, 4, 27, 28, 29, 30, 31, 32, 33, 34, 35, 36, 37, 38, 39, 40, 42] I I21231 := fz_tr fr21218 (fz_mono fiI21231 (by decide))
                  have fr21234 : fz 74 g [1, 41] J J21232 := fz_tr fr21219 (fz_mono fjI21231 (by decide))
                  have e21235 : I21231 (ad g 4) 0 = w21222 := by rw [fz_at fiI21231 4 (by decide) (by decide)]; exact ew21222
                  have e21236 : I21231 (ad g 1) 1 = L := hI21231.2
                  have b21237 := BT_get hI21231.1 1 1 2 (0) (0) (900) (by decide) 1 (by decide) (by decide)
                  rw [e21236] at b21237
                  refine WQ_iconst (0) (0) dX3_readTown_97 rfl rfl (fun v21238 hv21238 => ?_)
                  exact WP_zret dX3_readTown_98 rfl (nar_z (by omega)) ⟨⟨hI21231, rfl, fr21233, fr21234⟩, _, rfl, by omega, by omega⟩
          · refine WQ_iconst (1) (1) dX3_readTown_55 rfl rfl (fun v21239 hv21239 => ?_)
            refine WP_goto 64 dX3_readTown_56 rfl ?_
            refine WP_istore (ls' := [(0, _), (1, _), (2, _), (3, _), (4, _)]) dX3_readTown_64 (by decide) rfl ?_
            refine WP_iload dX3_readTown_66 rfl ?_
            refine WQ_if_ne 86 dX3_readTown_68 rfl (fun c21239 => ?_) (fun c21239 => False.elim (by omega))
            refine WP_iload dX3_readTown_86 rfl ?_
            refine WQ_if_eq 99 dX3_readTown_88 rfl (fun c21240 => False.elim (by omega)) (fun c21240 => ?_)
            refine WP_aload_n dX3_readTown_91 rfl ?_
            refine WP_iload dX3_readTown_92 rfl ?_
            refine WP_callV1 (k := 3) dX3_readTown_94 ⟨⟨⟨by decide, by decide⟩, zX3_note⟩, lX3_31, by decide, rfl, vX3_note.1, vX3_note.2⟩ (lyx_is hy 3 3 rfl) (sx_notef hy hr hI20779 v21239 ) (Nat.le_of_ble_eq_true rfl) ?_
            intro r I21242 J21243 Ra hq
            obtain ⟨⟨hI21242, ec, fiI21242, fjI21242⟩, rfl⟩ := hq
            rw [ec]
            clear ec Ra
            have fr21244 : fz 74 g [1, 3, 4, 27, 28, 29, 30, 31, 32, 33, 34, 35, 36, 37, 38, 39, 40, 42] I I21242 := fz_tr fr20781 (fz_mono fiI21242 (by decide))
            have fr21245 : fz 74 g [1, 41] J J21243 := fz_tr fr20782 (fz_mono fjI21242 (by decide))
            have e21246 : I21242 (ad g 1) 2 = v20785 := by rw [fz_at fiI21242 1 (by decide) (by decide)]; exact ev20785
            have e21247 : I21242 (ad g 1) 1 = L := hI21242.2
            have b21248 := BT_get hI21242.1 1 1 2 (0) (0) (900) (by decide) 1 (by decide) (by decide)
            rw [e21247] at b21248
            refine WQ_iconst (0) (0) dX3_readTown_97 rfl rfl (fun v21249 hv21249 => ?_)
            exact WP_zret dX3_readTown_98 rfl (nar_z (by omega)) ⟨⟨hI21242, rfl, fr21244, fr21245⟩, _, rfl, by omega, by omega⟩
        · refine WP_goto 114 dX3_readTown_42 rfl ?_
          refine WQ_iconst (1) (1) dX3_readTown_114 rfl rfl (fun v21250 hv21250 => ?_)
          exact WP_zret dX3_readTown_115 rfl (nar_z (by omega)) ⟨⟨hI20779, rfl, fr20781, fr20782⟩, _, rfl, by omega, by omega⟩
  exact WP_sub (fc rfl (fc rfl (fc rfl fn))) (lp18_20772 _ v20769 I20763 J20764 hI20763 fr20765 fr20766 (by omega) (by omega) (Nat.lt_succ_self _))
set_option maxHeartbeats 4000000 in
set_option maxRecDepth 100000 in
theorem sx_readBook_27 {g : GG} {n : Int} {L : Int32} (hy : LyX g) {aK aV : Nat → Nat} {fo : Option Nat} (hz : HZ g aK aV fo)  {I : pI} {J : pJ} {R : pR} (hr : RfX g R) (hI : XI g n L I)   : SP g mX3_readBook [.ref (ad g 3), .ref (ad g 27)] I J R (fun r I' J' R' => (XI g n L I' ∧ R' = R ∧ fz 74 g [1, 3, 4] I I' ∧ fz 74 g [1] J J') ∧ ∃ v : Int32, r = some (.int v)) := by
  refine SP_of ⟨by decide, rfl⟩ (Nat.le_of_ble_eq_true rfl) ?_
  have e21251 : I (ad g 1) 1 = L := hI.2
  have b21252 := BT_get hI.1 1 1 2 (0) (0) (900) (by decide) 1 (by decide) (by decide)
  rw [e21251] at b21252
  have fr0 : fz 74 g [1, 3, 4] I I := fz_rf
  have frj0 : fz 74 g [1] J J := fz_rf
  refine WQ_bipush (-3) (-3) dX3_readBook_0 rfl rfl (fun v21253 hv21253 => ?_)
  refine WP_istore_n (ls' := [(0, _), (1, _), (2, _)]) dX3_readBook_2 (by decide) rfl ?_
  refine WP_aload_n dX3_readBook_3 rfl ?_
  refine WQ_iconst (0) (0) dX3_readBook_4 rfl rfl (fun v21254 hv21254 => ?_)
  refine WP_callV1 (k := 3) dX3_readBook_5 ⟨⟨⟨by decide, by decide⟩, zX3_note⟩, lX3_31, by decide, rfl, vX3_note.1, vX3_note.2⟩ (lyx_is hy 3 3 rfl) (sx_notef hy hr hI v21254 ) (Nat.le_of_ble_eq_true rfl) ?_
  intro r I21255 J21256 Ra hq
  obtain ⟨⟨hI21255, ec, fiI21255, fjI21255⟩, rfl⟩ := hq
  rw [ec]
  clear ec Ra
  have fr21257 : fz 74 g [1, 3, 4] I I21255 := fz_tr fr0 (fz_mono fiI21255 (by decide))
  have fr21258 : fz 74 g [1] J J21256 := fz_tr frj0 (fz_mono fjI21255 (by decide))
  have e21259 : I21255 (ad g 1) 1 = L := hI21255.2
  have b21260 := BT_get hI21255.1 1 1 2 (0) (0) (900) (by decide) 1 (by decide) (by decide)
  rw [e21259] at b21260
  refine WP_aload_n dX3_readBook_8 rfl ?_
  refine WP_getr dX3_readBook_9 fX3_15 rfl (lyx_is hy 3 3 rfl) (rfx hr 3 2 1 (by decide)) ?_
  refine WP_callV0 (k := 5) dX3_readBook_12 ⟨⟨⟨by decide, by decide⟩, zX5_rewind⟩, lX3_35, by decide, rfl, vX5_rewind.1, vX5_rewind.2⟩ (lyx_is hy 1 5 rfl) (sx_rewindf hy hr hI21255  ) (Nat.le_of_ble_eq_true rfl) ?_
  intro r I21261 J21262 Ra hq
  obtain ⟨⟨hI21261, ec, fiI21261, fjI21261⟩, rfl⟩ := hq
  rw [ec]
  clear ec Ra
  have fr21263 : fz 74 g [1, 3, 4] I I21261 := fz_tr fr21257 (fz_mono fiI21261 (by decide))
  have fr21264 : fz 74 g [1] J J21262 := fz_tr fr21258 (fz_mono fjI21261 (by decide))
  have e21265 : I21261 (ad g 1) 1 = L := hI21261.2
  have b21266 := BT_get hI21261.1 1 1 2 (0) (0) (900) (by decide) 1 (by decide) (by decide)
  rw [e21265] at b21266
  refine WQ_iconst (0) (0) dX3_readBook_15 rfl rfl (fun v21267 hv21267 => ?_)
  refine WP_istore_n (ls' := [(0, _), (1, _), (2, _), (3, _)]) dX3_readBook_16 (by decide) rfl ?_
  have lp17_21271 : ∀ (mz : Nat) (i21268 : Int32) (i21269 : Int32) (I21270 : pI) (J21271 : pJ), XI g n L I21270 → fz 74 g [1, 3, 4] I I21270 → fz 74 g [1] J J21271 → 0 ≤ i21269.toInt → i21269.toInt ≤ 901 → (902 - i21269.toInt).toNat < mz → WP g mX3_readBook 17 [(0, .ref (ad g 3)), (1, .ref (ad g 27)), (2, .int i21268), (3, .int i21269)] [] I21270 J21271 R (fun r I' J' R' => (XI g n L I' ∧ R' = R ∧ fz 74 g [1, 3, 4] I I' ∧ fz 74 g [1] J J') ∧ ∃ v : Int32, r = some (.int v)) := by
    intro mz
    induction mz with
    | zero =>
      intro i21268 i21269 I21270 J21271 hI21270 fiI21270 fjJ21271 ai21269 bi21269 hmlp17_21271
      exact absurd hmlp17_21271 (Nat.not_lt_zero _)
    | succ mz ihlp17_21271 =>
      intro i21268 i21269 I21270 J21271 hI21270 fiI21270 fjJ21271 ai21269 bi21269 hmlp17_21271
      have e21273 : I21270 (ad g 1) 1 = L := hI21270.2
      have b21274 := BT_get hI21270.1 1 1 2 (0) (0) (900) (by decide) 1 (by decide) (by decide)
      rw [e21273] at b21274
      refine WP_iload_n dX3_readBook_17 rfl ?_
      refine WQ_sipush (900) (900) dX3_readBook_18 rfl rfl (fun v21275 hv21275 => ?_)
      refine WQ_icmp_gt 91 dX3_readBook_21 rfl (fun c21275 => ?_) (fun c21275 => ?_)
      · refine WP_iload_n dX3_readBook_91 rfl ?_
        exact WP_iret dX3_readBook_92 rfl ⟨⟨hI21270, rfl, fiI21270, fjJ21271⟩, _, rfl⟩
      · refine WP_aload_n dX3_readBook_24 rfl ?_
        refine WP_getr dX3_readBook_25 fX3_15 rfl (lyx_is hy 3 3 rfl) (rfx hr 3 2 1 (by decide)) ?_
        refine WP_callV0 (k := 5) dX3_readBook_28 ⟨⟨⟨by decide, by decide⟩, zX5_next⟩, lX3_40, by decide, rfl, vX5_next.1, vX5_next.2⟩ (lyx_is hy 1 5 rfl) (sx_nextf hy hr hI21270  ) (Nat.le_of_ble_eq_true rfl) ?_
        intro r I21277 J21278 Ra hq
        obtain ⟨⟨hI21277, ec, fiI21277, fjI21277⟩, rfl⟩ := hq
        rw [ec]
        clear ec Ra
        have fr21279 : fz 74 g [1, 3, 4] I I21277 := fz_tr fiI21270 (fz_mono fiI21277 (by decide))
        have fr21280 : fz 74 g [1] J J21278 := fz_tr fjJ21271 (fz_mono fjI21277 (by decide))
        have e21281 : I21277 (ad g 1) 1 = L := hI21277.2
        have b21282 := BT_get hI21277.1 1 1 2 (0) (0) (900) (by decide) 1 (by decide) (by decide)
        rw [e21281] at b21282
        refine WP_aload_n dX3_readBook_31 rfl ?_
        refine WP_getr dX3_readBook_32 fX3_15 rfl (lyx_is hy 3 3 rfl) (rfx hr 3 2 1 (by decide)) ?_
        refine WQ_geti dX3_readBook_35 fX3_43 rfl (lyx_is hy 1 5 rfl) (BT_get hI21277.1 1 2 3 (0) (0) (4) (by decide) 2 (by decide) (by decide)) (fun v21283 ev21283 av21283 bv21283 => ?_)
        refine WQ_if_ne 44 dX3_readBook_38 rfl (fun c21283 => ?_) (fun c21283 => ?_)
        · refine WP_aload_n dX3_readBook_44 rfl ?_
          refine WQ_bipush (10) (10) dX3_readBook_45 rfl rfl (fun v21285 hv21285 => ?_)
          refine WP_aload_n dX3_readBook_47 rfl ?_
          refine WP_callV2 (k := 3) dX3_readBook_48 ⟨⟨⟨by decide, by decide⟩, zX3_faultInParts⟩, lX3_54, by decide, rfl, vX3_faultInParts.1, vX3_faultInParts.2⟩ (lyx_is hy 3 3 rfl) (sx_parts_27_10 hy hz hr hI21277 v21285 (by omega) (by omega)) (Nat.le_of_ble_eq_true rfl) ?_
          intro r I21286 J21287 Ra hq
          obtain ⟨⟨hI21286, ec, fiI21286, fjI21286, ⟨pI21286, sI21286_27_1, sI21286_27_2⟩⟩, v21288, rfl, av21288, bv21288, cv21288⟩ := hq
          show WP _ _ _ _ (.int _ :: _) _ _ _ _
          rw [ec]
          clear ec Ra
          have fr21289 : fz 74 g [1, 3, 4] I I21286 := fz_tr fr21279 (fz_mono fiI21286 (by decide))
          have fr21290 : fz 74 g [1] J J21287 := fz_tr fr21280 (fz_mono fjI21286 (by decide))
          have e21291 : I21286 (ad g 1) 1 = L := hI21286.2
          have b21292 := BT_get hI21286.1 1 1 2 (0) (0) (900) (by decide) 1 (by decide) (by decide)
          rw [e21291] at b21292
          obtain ⟨w21293, ew21293⟩ : ∃ w : Int32, I21286 (ad g 4) 0 = w := ⟨_, rfl⟩
          have bw21293 := BT_get hI21286.1 4 0 5 (0) (0) (1000) (by decide) 0 (by decide) (by decide)
          rw [ew21293] at bw21293
          rw [ew21293] at cv21288
          obtain ⟨w21294, ew21294⟩ : ∃ w : Int32, I21286 (ad g 4) 1 = w := ⟨_, rfl⟩
          have bw21294 := BT_get hI21286.1 4 0 5 (0) (0) (1000) (by decide) 1 (by decide) (by decide)
          rw [ew21294] at bw21294
          rw [ew21294] at cv21288
          obtain ⟨w21295, ew21295⟩ : ∃ w : Int32, I21286 (ad g 4) 2 = w := ⟨_, rfl⟩
          have bw21295 := BT_get hI21286.1 4 0 5 (0) (0) (1000) (by decide) 2 (by decide) (by decide)
          rw [ew21295] at bw21295
          rw [ew21295] at cv21288
          obtain ⟨w21296, ew21296⟩ : ∃ w : Int32, I21286 (ad g 4) 3 = w := ⟨_, rfl⟩
          have bw21296 := BT_get hI21286.1 4 0 5 (0) (0) (1000) (by decide) 3 (by decide) (by decide)
          rw [ew21296] at bw21296
          rw [ew21296] at cv21288
          obtain ⟨w21297, ew21297⟩ : ∃ w : Int32, I21286 (ad g 4) 4 = w := ⟨_, rfl⟩
          have bw21297 := BT_get hI21286.1 4 0 5 (0) (0) (1000) (by decide) 4 (by decide) (by decide)
          rw [ew21297] at bw21297
          rw [ew21297] at cv21288
          refine WP_istore (ls' := [(0, _), (1, _), (2, _), (3, _), (4, _)]) dX3_readBook_51 (by decide) rfl ?_
          refine WP_iload dX3_readBook_53 rfl ?_
          refine WQ_if_eq 66 dX3_readBook_55 rfl (fun c21297 => ?_) (fun c21297 => ?_)
          · refine WP_iload_n dX3_readBook_66 rfl ?_
            refine WQ_bipush (-3) (-3) dX3_readBook_67 rfl rfl (fun v21299 hv21299 => ?_)
            refine WQ_icmp_ne 85 dX3_readBook_69 rfl (fun c21299 => ?_) (fun c21299 => ?_)
            · refine WP_iinc (ls' := [(0, _), (1, _), (2, _), (3, _), (4, _)]) dX3_readBook_85 rfl (by decide) rfl ?_
              have hv21301 : (i21269 + Int32.ofInt (1)).toInt = i21269.toInt + (1) := ia_n rfl (by omega) (by omega)
              generalize i21269 + Int32.ofInt (1) = v21301 at hv21301 ⊢
              refine WP_goto 17 dX3_readBook_88 rfl ?_
              exact WP_sub (fc rfl (fc rfl (fc rfl (fc rfl fn)))) (ihlp17_21271 i21268 v21301 I21286 J21287 hI21286 fr21289 fr21290 (by omega) (by omega) (by omega))
            · refine WP_aload_n dX3_readBook_72 rfl ?_
              refine WP_aload_n dX3_readBook_73 rfl ?_
              refine WP_getr dX3_readBook_74 fX3_9 rfl (lyx_is hy 3 3 rfl) (rfx hr 3 3 4 (by decide)) ?_
              refine WP_callV1 (k := 7) dX3_readBook_77 ⟨⟨⟨by decide, by decide⟩, zX7_isLoss⟩, lX3_62, by decide, rfl, vX7_isLoss.1, vX7_isLoss.2⟩ (lyx_is hy 27 7 rfl) (sx_isLoss_27 hy hr hI21286   (by rw [ew21293, ew21295]; omega)) (Nat.le_of_ble_eq_true rfl) ?_
              intro r Ia Ja Ra hq
              obtain ⟨⟨ea, eb, ec⟩, v21302, rfl, av21302, bv21302⟩ := hq
              show WP _ _ _ _ (.int _ :: _) _ _ _ _
              rw [ea, eb, ec]
              clear ea eb ec Ia Ja Ra
              refine WQ_if_eq 85 dX3_readBook_80 rfl (fun c21302 => ?_) (fun c21302 => ?_)
              · refine WP_iinc (ls' := [(0, _), (1, _), (2, _), (3, _), (4, _)]) dX3_readBook_85 rfl (by decide) rfl ?_
                have hv21304 : (i21269 + Int32.ofInt (1)).toInt = i21269.toInt + (1) := ia_n rfl (by omega) (by omega)
                generalize i21269 + Int32.ofInt (1) = v21304 at hv21304 ⊢
                refine WP_goto 17 dX3_readBook_88 rfl ?_
                exact WP_sub (fc rfl (fc rfl (fc rfl (fc rfl fn)))) (ihlp17_21271 i21268 v21304 I21286 J21287 hI21286 fr21289 fr21290 (by omega) (by omega) (by omega))
              · refine WP_iload_n dX3_readBook_83 rfl ?_
                refine WP_istore_n (ls' := [(0, _), (1, _), (2, _), (3, _), (4, _)]) dX3_readBook_84 (by decide) rfl ?_
                refine WP_iinc (ls' := [(0, _), (1, _), (2, _), (3, _), (4, _)]) dX3_readBook_85 rfl (by decide) rfl ?_
                have hv21305 : (i21269 + Int32.ofInt (1)).toInt = i21269.toInt + (1) := ia_n rfl (by omega) (by omega)
                generalize i21269 + Int32.ofInt (1) = v21305 at hv21305 ⊢
                refine WP_goto 17 dX3_readBook_88 rfl ?_
                exact WP_sub (fc rfl (fc rfl (fc rfl (fc rfl fn)))) (ihlp17_21271 i21269 v21305 I21286 J21287 hI21286 fr21289 fr21290 (by omega) (by omega) (by omega))
          · refine WP_aload_n dX3_readBook_58 rfl ?_
            refine WP_iload dX3_readBook_59 rfl ?_
            refine WP_callV1 (k := 3) dX3_readBook_61 ⟨⟨⟨by decide, by decide⟩, zX3_note⟩, lX3_31, by decide, rfl, vX3_note.1, vX3_note.2⟩ (lyx_is hy 3 3 rfl) (sx_notef hy hr hI21286 v21288 ) (Nat.le_of_ble_eq_true rfl) ?_
            intro r I21306 J21307 Ra hq
            obtain ⟨⟨hI21306, ec, fiI21306, fjI21306⟩, rfl⟩ := hq
            rw [ec]
            clear ec Ra
            have fr21308 : fz 74 g [1, 3, 4] I I21306 := fz_tr fr21289 (fz_mono fiI21306 (by decide))
            have fr21309 : fz 74 g [1] J J21307 := fz_tr fr21290 (fz_mono fjI21306 (by decide))
            have e21310 : I21306 (ad g 4) 0 = w21293 := by rw [fz_at fiI21306 4 (by decide) (by decide)]; exact ew21293
            have e21311 : I21306 (ad g 4) 1 = w21294 := by rw [fz_at fiI21306 4 (by decide) (by decide)]; exact ew21294
            have e21312 : I21306 (ad g 4) 2 = w21295 := by rw [fz_at fiI21306 4 (by decide) (by decide)]; exact ew21295
            have e21313 : I21306 (ad g 4) 3 = w21296 := by rw [fz_at fiI21306 4 (by decide) (by decide)]; exact ew21296
            have e21314 : I21306 (ad g 4) 4 = w21297 := by rw [fz_at fiI21306 4 (by decide) (by decide)]; exact ew21297
            have e21315 : I21306 (ad g 1) 1 = L := hI21306.2
            have b21316 := BT_get hI21306.1 1 1 2 (0) (0) (900) (by decide) 1 (by decide) (by decide)
            rw [e21315] at b21316
            refine WQ_iconst (-1) (-1) dX3_readBook_64 rfl rfl (fun v21317 hv21317 => ?_)
            exact WP_iret dX3_readBook_65 rfl ⟨⟨hI21306, rfl, fr21308, fr21309⟩, _, rfl⟩
        · refine WP_goto 91 dX3_readBook_41 rfl ?_
          refine WP_iload_n dX3_readBook_91 rfl ?_
          exact WP_iret dX3_readBook_92 rfl ⟨⟨hI21277, rfl, fr21279, fr21280⟩, _, rfl⟩
  exact WP_sub (fc rfl (fc rfl (fc rfl (fc rfl fn)))) (lp17_21271 _ v21253 v21267 I21261 J21262 hI21261 fr21263 fr21264 (by omega) (by omega) (Nat.lt_succ_self _))
set_option maxHeartbeats 4000000 in
set_option maxRecDepth 100000 in
theorem sx_readValues_27 {g : GG} {n : Int} {L : Int32} (hy : LyX g) {aK aV : Nat → Nat} {fo : Option Nat} (hz : HZ g aK aV fo)  {I : pI} {J : pJ} {R : pR} (hr : RfX g R) (hI : XI g n L I)   : SP g mX3_readValues [.ref (ad g 3), .ref (ad g 27), .ref (ad g 72)] I J R (fun r I' J' R' => (XI g n L I' ∧ R' = R ∧ fz 74 g [1, 4, 72] I I' ∧ fz 74 g [1] J J') ∧ ∃ v : Int32, r = some (.int v) ∧ 0 ≤ v.toInt ∧ v.toInt ≤ 1) := by
  refine SP_of ⟨by decide, rfl⟩ (Nat.le_of_ble_eq_true rfl) ?_
  have e21318 : I (ad g 1) 1 = L := hI.2
  have b21319 := BT_get hI.1 1 1 2 (0) (0) (900) (by decide) 1 (by decide) (by decide)
  rw [e21318] at b21319
  have fr0 : fz 74 g [1, 4, 72] I I := fz_rf
  have frj0 : fz 74 g [1] J J := fz_rf
  refine WP_aload_n dX3_readValues_0 rfl ?_
  refine WP_getr dX3_readValues_1 fX3_15 rfl (lyx_is hy 3 3 rfl) (rfx hr 3 2 1 (by decide)) ?_
  refine WP_callV0 (k := 5) dX3_readValues_4 ⟨⟨⟨by decide, by decide⟩, zX5_rewind⟩, lX3_35, by decide, rfl, vX5_rewind.1, vX5_rewind.2⟩ (lyx_is hy 1 5 rfl) (sx_rewindf hy hr hI  ) (Nat.le_of_ble_eq_true rfl) ?_
  intro r I21320 J21321 Ra hq
  obtain ⟨⟨hI21320, ec, fiI21320, fjI21320⟩, rfl⟩ := hq
  rw [ec]
  clear ec Ra
  have fr21322 : fz 74 g [1, 4, 72] I I21320 := fz_tr fr0 (fz_mono fiI21320 (by decide))
  have fr21323 : fz 74 g [1] J J21321 := fz_tr frj0 (fz_mono fjI21320 (by decide))
  have e21324 : I21320 (ad g 1) 1 = L := hI21320.2
  have b21325 := BT_get hI21320.1 1 1 2 (0) (0) (900) (by decide) 1 (by decide) (by decide)
  rw [e21324] at b21325
  refine WQ_iconst (0) (0) dX3_readValues_7 rfl rfl (fun v21326 hv21326 => ?_)
  refine WP_istore_n (ls' := [(0, _), (1, _), (2, _), (3, _)]) dX3_readValues_8 (by decide) rfl ?_
  have lp9_21329 : ∀ (mz : Nat) (i21327 : Int32) (I21328 : pI) (J21329 : pJ), XI g n L I21328 → fz 74 g [1, 4, 72] I I21328 → fz 74 g [1] J J21329 → 0 ≤ i21327.toInt → i21327.toInt ≤ 4 → (5 - i21327.toInt).toNat < mz → WP g mX3_readValues 9 [(0, .ref (ad g 3)), (1, .ref (ad g 27)), (2, .ref (ad g 72)), (3, .int i21327)] [] I21328 J21329 R (fun r I' J' R' => (XI g n L I' ∧ R' = R ∧ fz 74 g [1, 4, 72] I I' ∧ fz 74 g [1] J J') ∧ ∃ v : Int32, r = some (.int v) ∧ 0 ≤ v.toInt ∧ v.toInt ≤ 1) := by
    intro mz
    induction mz with
    | zero =>
      intro i21327 I21328 J21329 hI21328 fiI21328 fjJ21329 ai21327 bi21327 hmlp9_21329
      exact absurd hmlp9_21329 (Nat.not_lt_zero _)
    | succ mz ihlp9_21329 =>
      intro i21327 I21328 J21329 hI21328 fiI21328 fjJ21329 ai21327 bi21327 hmlp9_21329
      have e21331 : I21328 (ad g 1) 1 = L := hI21328.2
      have b21332 := BT_get hI21328.1 1 1 2 (0) (0) (900) (by decide) 1 (by decide) (by decide)
      rw [e21331] at b21332
      refine WP_iload_n dX3_readValues_9 rfl ?_
      refine WP_aload_n dX3_readValues_10 rfl ?_
      refine WQ_geti dX3_readValues_11 fX3_66 rfl (lyx_is hy 27 7 rfl) (BT_get hI21328.1 27 1 2 (0) (0) (4) (by decide) 1 (by decide) (by decide)) (fun v21333 ev21333 av21333 bv21333 => ?_)
      refine WQ_icmp_ge 76 dX3_readValues_14 rfl (fun c21333 => ?_) (fun c21333 => ?_)
      · refine WP_aload_n dX3_readValues_76 rfl ?_
        refine WP_getr dX3_readValues_77 fX3_15 rfl (lyx_is hy 3 3 rfl) (rfx hr 3 2 1 (by decide)) ?_
        refine WP_callV0 (k := 5) dX3_readValues_80 ⟨⟨⟨by decide, by decide⟩, zX5_next⟩, lX3_40, by decide, rfl, vX5_next.1, vX5_next.2⟩ (lyx_is hy 1 5 rfl) (sx_nextf hy hr hI21328  ) (Nat.le_of_ble_eq_true rfl) ?_
        intro r I21335 J21336 Ra hq
        obtain ⟨⟨hI21335, ec, fiI21335, fjI21335⟩, rfl⟩ := hq
        rw [ec]
        clear ec Ra
        have fr21337 : fz 74 g [1, 4, 72] I I21335 := fz_tr fiI21328 (fz_mono fiI21335 (by decide))
        have fr21338 : fz 74 g [1] J J21336 := fz_tr fjJ21329 (fz_mono fjI21335 (by decide))
        have e21339 : I21335 (ad g 27) 1 = v21333 := by rw [fz_at fiI21335 27 (by decide) (by decide)]; exact ev21333
        have e21340 : I21335 (ad g 1) 1 = L := hI21335.2
        have b21341 := BT_get hI21335.1 1 1 2 (0) (0) (900) (by decide) 1 (by decide) (by decide)
        rw [e21340] at b21341
        refine WP_aload_n dX3_readValues_83 rfl ?_
        refine WP_getr dX3_readValues_84 fX3_15 rfl (lyx_is hy 3 3 rfl) (rfx hr 3 2 1 (by decide)) ?_
        refine WQ_geti dX3_readValues_87 fX3_43 rfl (lyx_is hy 1 5 rfl) (BT_get hI21335.1 1 2 3 (0) (0) (4) (by decide) 2 (by decide) (by decide)) (fun v21342 ev21342 av21342 bv21342 => ?_)
        refine WQ_if_ne 97 dX3_readValues_90 rfl (fun c21342 => ?_) (fun c21342 => ?_)
        · refine WQ_iconst (0) (0) dX3_readValues_97 rfl rfl (fun v21344 hv21344 => ?_)
          exact WP_zret dX3_readValues_98 rfl (nar_z (by omega)) ⟨⟨hI21335, rfl, fr21337, fr21338⟩, _, rfl, by omega, by omega⟩
        · refine WQ_iconst (1) (1) dX3_readValues_93 rfl rfl (fun v21345 hv21345 => ?_)
          refine WP_goto 98 dX3_readValues_94 rfl ?_
          exact WP_zret dX3_readValues_98 rfl (nar_z (by omega)) ⟨⟨hI21335, rfl, fr21337, fr21338⟩, _, rfl, by omega, by omega⟩
      · refine WP_aload_n dX3_readValues_17 rfl ?_
        refine WP_getr dX3_readValues_18 fX3_15 rfl (lyx_is hy 3 3 rfl) (rfx hr 3 2 1 (by decide)) ?_
        refine WP_callV0 (k := 5) dX3_readValues_21 ⟨⟨⟨by decide, by decide⟩, zX5_next⟩, lX3_40, by decide, rfl, vX5_next.1, vX5_next.2⟩ (lyx_is hy 1 5 rfl) (sx_nextf hy hr hI21328  ) (Nat.le_of_ble_eq_true rfl) ?_
        intro r I21346 J21347 Ra hq
        obtain ⟨⟨hI21346, ec, fiI21346, fjI21346⟩, rfl⟩ := hq
        rw [ec]
        clear ec Ra
        have fr21348 : fz 74 g [1, 4, 72] I I21346 := fz_tr fiI21328 (fz_mono fiI21346 (by decide))
        have fr21349 : fz 74 g [1] J J21347 := fz_tr fjJ21329 (fz_mono fjI21346 (by decide))
        have e21350 : I21346 (ad g 27) 1 = v21333 := by rw [fz_at fiI21346 27 (by decide) (by decide)]; exact ev21333
        have e21351 : I21346 (ad g 1) 1 = L := hI21346.2
        have b21352 := BT_get hI21346.1 1 1 2 (0) (0) (900) (by decide) 1 (by decide) (by decide)
        rw [e21351] at b21352
        refine WP_aload_n dX3_readValues_24 rfl ?_
        refine WQ_bipush (11) (11) dX3_readValues_25 rfl rfl (fun v21353 hv21353 => ?_)
        refine WP_aload_n dX3_readValues_27 rfl ?_
        refine WP_callV2 (k := 3) dX3_readValues_28 ⟨⟨⟨by decide, by decide⟩, zX3_faultInParts⟩, lX3_54, by decide, rfl, vX3_faultInParts.1, vX3_faultInParts.2⟩ (lyx_is hy 3 3 rfl) (sx_parts_27_11 hy hz hr hI21346 v21353 (by omega) (by omega)) (Nat.le_of_ble_eq_true rfl) ?_
        intro r I21354 J21355 Ra hq
        obtain ⟨⟨hI21354, ec, fiI21354, fjI21354, ⟨pI21354, sI21354_27_1, sI21354_27_2⟩⟩, v21356, rfl, av21356, bv21356, cv21356⟩ := hq
        show WP _ _ _ _ (.int _ :: _) _ _ _ _
        rw [ec]
        clear ec Ra
        have fr21357 : fz 74 g [1, 4, 72] I I21354 := fz_tr fr21348 (fz_mono fiI21354 (by decide))
        have fr21358 : fz 74 g [1] J J21355 := fz_tr fr21349 (fz_mono fjI21354 (by decide))
        have e21359 : I21354 (ad g 27) 1 = v21333 := by rw [sI21354_27_1]; exact e21350
        have e21360 : I21354 (ad g 1) 1 = L := hI21354.2
        have b21361 := BT_get hI21354.1 1 1 2 (0) (0) (900) (by decide) 1 (by decide) (by decide)
        rw [e21360] at b21361
        obtain ⟨w21362, ew21362⟩ : ∃ w : Int32, I21354 (ad g 4) 0 = w := ⟨_, rfl⟩
        have bw21362 := BT_get hI21354.1 4 0 5 (0) (0) (1000) (by decide) 0 (by decide) (by decide)
        rw [ew21362] at bw21362
        rw [ew21362] at cv21356
        obtain ⟨w21363, ew21363⟩ : ∃ w : Int32, I21354 (ad g 4) 1 = w := ⟨_, rfl⟩
        have bw21363 := BT_get hI21354.1 4 0 5 (0) (0) (1000) (by decide) 1 (by decide) (by decide)
        rw [ew21363] at bw21363
        rw [ew21363] at cv21356
        refine WQ_if_ne 44 dX3_readValues_31 rfl (fun c21363 => ?_) (fun c21363 => ?_)
        · refine WQ_iconst (0) (0) dX3_readValues_44 rfl rfl (fun v21365 hv21365 => ?_)
          exact WP_zret dX3_readValues_45 rfl (nar_z (by omega)) ⟨⟨hI21354, rfl, fr21357, fr21358⟩, _, rfl, by omega, by omega⟩
        · refine WQ_iconst (2) (2) dX3_readValues_34 rfl rfl (fun v21366 hv21366 => ?_)
          refine WP_iload_n dX3_readValues_35 rfl ?_
          refine WQ_imulK (2) dX3_readValues_36 hv21366 (by omega) (by omega) (fun v21367 hv21367 => ?_)
          refine WQ_iconst (1) (1) dX3_readValues_37 rfl rfl (fun v21368 hv21368 => ?_)
          refine WQ_iadd dX3_readValues_38 (by omega) (by omega) (fun v21369 hv21369 => ?_)
          refine WP_aload_n dX3_readValues_39 rfl ?_
          refine WP_alen dX3_readValues_40 (lyx_is hy 72 13 rfl) (by decide) ?_
          rw [(lyx_n hy 72 8 rfl)]
          obtain ⟨v21370, hv21370, ev21370⟩ : ∃ v : Int32, v.toInt = 8 ∧ nI 8 = v := ⟨_, nI_toInt (by decide), rfl⟩
          rw [ev21370]; clear ev21370
          refine WQ_icmp_lt 46 dX3_readValues_41 rfl (fun c21370 => ?_) (fun c21370 => False.elim (by omega))
          refine WP_aload_n dX3_readValues_46 rfl ?_
          refine WQ_iconst (2) (2) dX3_readValues_47 rfl rfl (fun v21372 hv21372 => ?_)
          refine WP_iload_n dX3_readValues_48 rfl ?_
          refine WQ_imulK (2) dX3_readValues_49 hv21372 (by omega) (by omega) (fun v21373 hv21373 => ?_)
          refine WP_aload_n dX3_readValues_50 rfl ?_
          refine WP_getr dX3_readValues_51 fX3_9 rfl (lyx_is hy 3 3 rfl) (rfx hr 3 3 4 (by decide)) ?_
          refine WQ_iconst (0) (0) dX3_readValues_54 rfl rfl (fun v21374 hv21374 => ?_)
          refine WQ_ialdm (z := 0) dX3_readValues_55 (lyx_is hy 4 13 rfl) (lyx_n hy 4 5 rfl) hv21374 (by decide) ew21362 ?_
          refine WQ_iast dX3_readValues_56 (lyx_is hy 72 13 rfl) (lyx_n hy 72 8 rfl) (by omega) (by omega) (fun I21376 eI21376 => ?_)
          have hI21376 : XI g n L I21376 := by rw [eI21376]; exact (xi_r0 hy hI21354 (c := 72) (by decide) (Or.inl (by decide)) (by decide))
          have e21377 : I21376 (ad g 27) 1 = v21333 := by rw [eI21376, pp_ne _ _ (Or.inl (lyx_ne hy (by decide) (by decide) (by decide)))]; exact e21359
          have e21378 : I21376 (ad g 1) 1 = L := by rw [eI21376, pp_ne _ _ (Or.inl (lyx_ne hy (by decide) (by decide) (by decide)))]; exact e21360
          have e21379 : I21376 (ad g 4) 0 = w21362 := by rw [eI21376, pp_ne _ _ (Or.inl (lyx_ne hy (by decide) (by decide) (by decide)))]; exact ew21362
          have e21380 : I21376 (ad g 4) 1 = w21363 := by rw [eI21376, pp_ne _ _ (Or.inl (lyx_ne hy (by decide) (by decide) (by decide)))]; exact ew21363
          have fr21381 : fz 74 g [1, 4, 72] I I21376 := by rw [eI21376]; exact fzx_pp hy fr21357 (by decide) (by decide)
          clear eI21376
          refine WP_aload_n dX3_readValues_57 rfl ?_
          refine WQ_iconst (2) (2) dX3_readValues_58 rfl rfl (fun v21382 hv21382 => ?_)
          refine WP_iload_n dX3_readValues_59 rfl ?_
          refine WQ_imulK (2) dX3_readValues_60 hv21382 (by omega) (by omega) (fun v21383 hv21383 => ?_)
          refine WQ_iconst (1) (1) dX3_readValues_61 rfl rfl (fun v21384 hv21384 => ?_)
          refine WQ_iadd dX3_readValues_62 (by omega) (by omega) (fun v21385 hv21385 => ?_)
          refine WP_aload_n dX3_readValues_63 rfl ?_
          refine WP_getr dX3_readValues_64 fX3_9 rfl (lyx_is hy 3 3 rfl) (rfx hr 3 3 4 (by decide)) ?_
          refine WQ_iconst (1) (1) dX3_readValues_67 rfl rfl (fun v21386 hv21386 => ?_)
          refine WQ_ialdm (z := 1) dX3_readValues_68 (lyx_is hy 4 13 rfl) (lyx_n hy 4 5 rfl) hv21386 (by decide) e21380 ?_
          refine WQ_iast dX3_readValues_69 (lyx_is hy 72 13 rfl) (lyx_n hy 72 8 rfl) (by omega) (by omega) (fun I21388 eI21388 => ?_)
          have hI21388 : XI g n L I21388 := by rw [eI21388]; exact (xi_r0 hy hI21376 (c := 72) (by decide) (Or.inl (by decide)) (by decide))
          have e21389 : I21388 (ad g 27) 1 = v21333 := by rw [eI21388, pp_ne _ _ (Or.inl (lyx_ne hy (by decide) (by decide) (by decide)))]; exact e21377
          have e21390 : I21388 (ad g 1) 1 = L := by rw [eI21388, pp_ne _ _ (Or.inl (lyx_ne hy (by decide) (by decide) (by decide)))]; exact e21378
          have e21391 : I21388 (ad g 4) 0 = w21362 := by rw [eI21388, pp_ne _ _ (Or.inl (lyx_ne hy (by decide) (by decide) (by decide)))]; exact e21379
          have e21392 : I21388 (ad g 4) 1 = w21363 := by rw [eI21388, pp_ne _ _ (Or.inl (lyx_ne hy (by decide) (by decide) (by decide)))]; exact e21380
          have fr21393 : fz 74 g [1, 4, 72] I I21388 := by rw [eI21388]; exact fzx_pp hy fr21381 (by decide) (by decide)
          clear eI21388
          refine WP_iinc (ls' := [(0, _), (1, _), (2, _), (3, _)]) dX3_readValues_70 rfl (by decide) rfl ?_
          have hv21394 : (i21327 + Int32.ofInt (1)).toInt = i21327.toInt + (1) := ia_n rfl (by omega) (by omega)
          generalize i21327 + Int32.ofInt (1) = v21394 at hv21394 ⊢
          refine WP_goto 9 dX3_readValues_73 rfl ?_
          exact WP_sub (fc rfl (fc rfl (fc rfl (fc rfl fn)))) (ihlp9_21329 v21394 I21388 J21355 hI21388 fr21393 fr21358 (by omega) (by omega) (by omega))
  exact WP_sub (fc rfl (fc rfl (fc rfl (fc rfl fn)))) (lp9_21329 _ v21326 I21320 J21321 hI21320 fr21322 fr21323 (by omega) (by omega) (Nat.lt_succ_self _))
