set_option maxHeartbeats 4000000 in
set_option maxRecDepth 100000 in
theorem sx_afford {g : GG} {n : Int} {L : Int32} (hy : LyX g)  {I : pI} {J : pJ} {R : pR} (hr : RfX g R) (hI : XI g n L I) (co : Int32) (pr : Int32) (co_lo : 0 ≤ co.toInt) (co_hi : co.toInt ≤ 60) (pr_lo : 0 ≤ pr.toInt) (pr_hi : pr.toInt ≤ 20) : SP g mX10_affordable [.int co, .int pr] I J R (fun r I' J' R' => (I' = I ∧ J' = J ∧ R' = R) ∧ ∃ v : Int32, r = some (.int v) ∧ 0 ≤ v.toInt ∧ v.toInt ≤ 60 ∧ v.toInt * pr.toInt ≤ co.toInt) := by
  refine SP_of ⟨by decide, rfl⟩ (Nat.le_of_ble_eq_true rfl) ?_
  have e7153 : I (ad g 1) 1 = L := hI.2
  have b7154 := BT_get hI.1 1 1 2 (0) (0) (900) (by decide) 1 (by decide) (by decide)
  rw [e7153] at b7154
  refine WP_iload_n dX10_affordable_0 rfl ?_
  refine WQ_iconst (1) (1) dX10_affordable_1 rfl rfl (fun v7155 hv7155 => ?_)
  refine WQ_icmp_ge 9 dX10_affordable_2 rfl (fun c7155 => ?_) (fun c7155 => ?_)
  · refine WP_iload_n dX10_affordable_9 rfl ?_
    refine WP_iload_n dX10_affordable_10 rfl ?_
    refine WQ_idivb dX10_affordable_11 (by omega) (by omega) (fun v7157 pv7157 av7157 bv7157 cv7157 => ?_)
    exact WP_iret dX10_affordable_12 rfl ⟨⟨rfl, rfl, rfl⟩, _, rfl, by omega, by omega, (by first | omega | (have hz : v7157.toInt = 0 := (by omega); rw [hz]; omega))⟩
  · refine WQ_iconst (0) (0) dX10_affordable_5 rfl rfl (fun v7158 hv7158 => ?_)
    refine WP_goto 12 dX10_affordable_6 rfl ?_
    exact WP_iret dX10_affordable_12 rfl ⟨⟨rfl, rfl, rfl⟩, _, rfl, by omega, by omega, (by first | omega | (have hz : v7158.toInt = 0 := (by omega); rw [hz]; omega))⟩
set_option maxHeartbeats 4000000 in
set_option maxRecDepth 100000 in
theorem sx_mfs_50 {g : GG} {n : Int} {L : Int32} (hy : LyX g)  {I : pI} {J : pJ} {R : pR} (hr : RfX g R) (hI : XI g n L I) (st : Int32) (st_lo : 0 ≤ st.toInt) (st_hi : st.toInt ≤ 5) : SP g mX6_mostFromStore [.ref (ad g 50), .int st] I J R (fun r I' J' R' => (I' = I ∧ J' = J ∧ R' = R) ∧ ∃ v : Int32, r = some (.int v) ∧ 0 ≤ v.toInt ∧ v.toInt ≤ 3 ∧ (v.toInt ≤ st.toInt ∧ v.toInt ≤ (I (ad g 50) 1).toInt)) := by
  refine SP_of ⟨by decide, rfl⟩ (Nat.le_of_ble_eq_true rfl) ?_
  have e7159 : I (ad g 1) 1 = L := hI.2
  have b7160 := BT_get hI.1 1 1 2 (0) (0) (900) (by decide) 1 (by decide) (by decide)
  rw [e7159] at b7160
  refine WP_aload_n dX6_mostFromStore_0 rfl ?_
  refine WQ_geti dX6_mostFromStore_1 fX6_60 rfl (lyx_is hy 50 6 rfl) (BT_get hI.1 50 7 8 (0) (0) (1) (by decide) 7 (by decide) (by decide)) (fun v7161 ev7161 av7161 bv7161 => ?_)
  refine WQ_if_ne 11 dX6_mostFromStore_4 rfl (fun c7161 => ?_) (fun c7161 => ?_)
  · refine WP_iload_n dX6_mostFromStore_11 rfl ?_
    refine WP_aload_n dX6_mostFromStore_12 rfl ?_
    refine WQ_geti dX6_mostFromStore_13 fX6_36 rfl (lyx_is hy 50 6 rfl) (BT_get hI.1 50 1 2 (0) (0) (3) (by decide) 1 (by decide) (by decide)) (fun v7163 ev7163 av7163 bv7163 => ?_)
    refine WQ_icmp_ge 23 dX6_mostFromStore_16 rfl (fun c7163 => ?_) (fun c7163 => ?_)
    · refine WP_aload_n dX6_mostFromStore_23 rfl ?_
      refine WQ_getim dX6_mostFromStore_24 fX6_36 rfl (lyx_is hy 50 6 rfl) ev7163 ?_
      exact WP_iret dX6_mostFromStore_27 rfl ⟨⟨rfl, rfl, rfl⟩, _, rfl, by omega, by omega, by (try rw [ev7163]); omega⟩
    · refine WP_iload_n dX6_mostFromStore_19 rfl ?_
      refine WP_goto 27 dX6_mostFromStore_20 rfl ?_
      exact WP_iret dX6_mostFromStore_27 rfl ⟨⟨rfl, rfl, rfl⟩, _, rfl, by omega, by omega, by (try rw [ev7163]); omega⟩
  · refine WQ_iconst (0) (0) dX6_mostFromStore_7 rfl rfl (fun v7165 hv7165 => ?_)
    refine WP_goto 27 dX6_mostFromStore_8 rfl ?_
    obtain ⟨w7166, ew7166⟩ : ∃ w : Int32, I (ad g 50) 1 = w := ⟨_, rfl⟩
    have bw7166 := BT_get hI.1 50 1 2 (0) (0) (3) (by decide) 1 (by decide) (by decide)
    rw [ew7166] at bw7166
    exact WP_iret dX6_mostFromStore_27 rfl ⟨⟨rfl, rfl, rfl⟩, _, rfl, by omega, by omega, by (try rw [ew7166]); omega⟩
set_option maxHeartbeats 4000000 in
set_option maxRecDepth 100000 in
theorem sx_habit {g : GG} {n : Int} {L : Int32} (hy : LyX g)  {I : pI} {J : pJ} {R : pR} (hr : RfX g R) (hI : XI g n L I) (wa : Int32) (co : Int32) (st : Int32) (wa_lo : 0 ≤ wa.toInt) (wa_hi : wa.toInt ≤ 4) (co_lo : 0 ≤ co.toInt) (co_hi : co.toInt ≤ 60) (st_lo : 0 ≤ st.toInt) (st_hi : st.toInt ≤ 5) : SP g mX6_habit [.ref (ad g 50), .int wa, .int co, .int st] I J R (fun r I' J' R' => (I' = I ∧ J' = J ∧ R' = R) ∧ ∃ v : Int32, r = some (.int v) ∧ 0 ≤ v.toInt ∧ v.toInt ≤ 47 ∧ (v.toInt / 4 % 4 ≤ st.toInt ∧ st.toInt - v.toInt / 4 % 4 + v.toInt / 16 ≤ 5 ∧ (v.toInt % 4) * (I (ad g 50) 3).toInt + (v.toInt / 16) * (I (ad g 50) 4).toInt ≤ co.toInt)) := by
  refine SP_of ⟨by decide, rfl⟩ (Nat.le_of_ble_eq_true rfl) ?_
  have e7167 : I (ad g 1) 1 = L := hI.2
  have b7168 := BT_get hI.1 1 1 2 (0) (0) (900) (by decide) 1 (by decide) (by decide)
  rw [e7167] at b7168
  refine WP_iload_n dX6_habit_0 rfl ?_
  refine WQ_iconst (4) (4) dX6_habit_1 rfl rfl (fun v7169 hv7169 => ?_)
  refine WQ_icmp_ne 7 dX6_habit_2 rfl (fun c7169 => ?_) (fun c7169 => ?_)
  · refine WP_iload_n dX6_habit_7 rfl ?_
    refine WQ_iconst (2) (2) dX6_habit_8 rfl rfl (fun v7171 hv7171 => ?_)
    refine WQ_icmp_ne 20 dX6_habit_9 rfl (fun c7171 => ?_) (fun c7171 => ?_)
    · refine WQ_iconst (0) (0) dX6_habit_20 rfl rfl (fun v7173 hv7173 => ?_)
      refine WP_istore (ls' := [(0, _), (1, _), (2, _), (3, _), (4, _)]) dX6_habit_21 (by decide) rfl ?_
      refine WP_aload_n dX6_habit_23 rfl ?_
      refine WQ_geti dX6_habit_24 fX6_54 rfl (lyx_is hy 50 6 rfl) (BT_get hI.1 50 5 6 (0) (0) (3) (by decide) 5 (by decide) (by decide)) (fun v7174 ev7174 av7174 bv7174 => ?_)
      refine WP_aload_n dX6_habit_27 rfl ?_
      refine WQ_geti dX6_habit_28 fX6_36 rfl (lyx_is hy 50 6 rfl) (BT_get hI.1 50 1 2 (0) (0) (3) (by decide) 1 (by decide) (by decide)) (fun v7175 ev7175 av7175 bv7175 => ?_)
      refine WP_iload dX6_habit_31 rfl ?_
      refine WQ_isub dX6_habit_33 (by omega) (by omega) (fun v7176 hv7176 => ?_)
      refine WQ_min dX6_habit_34 lX6_78 ⟨by decide, Nat.le_of_ble_eq_true rfl⟩ (fun v7177 av7177 bv7177 cv7177 => ?_)
      refine WP_iload_n dX6_habit_37 rfl ?_
      refine WP_aload_n dX6_habit_38 rfl ?_
      refine WQ_geti dX6_habit_39 fX6_48 rfl (lyx_is hy 50 6 rfl) (BT_get hI.1 50 3 4 (0) (0) (20) (by decide) 3 (by decide) (by decide)) (fun v7178 ev7178 av7178 bv7178 => ?_)
      refine WP_callN2 dX6_habit_42 ⟨⟨⟨by decide, by decide⟩, zX10_affordable⟩, lX6_83, tX10_affordable⟩ (sx_afford hy hr hI co v7178 (by omega) (by omega) (by omega) (by omega)) (Nat.le_of_ble_eq_true rfl) ?_
      intro r Ia Ja Ra hq
      obtain ⟨⟨ea, eb, ec⟩, v7179, rfl, av7179, bv7179, cv7179⟩ := hq
      show WP _ _ _ _ (.int _ :: _) _ _ _ _
      rw [ea, eb, ec]
      clear ea eb ec Ia Ja Ra
      refine WQ_min dX6_habit_45 lX6_78 ⟨by decide, Nat.le_of_ble_eq_true rfl⟩ (fun v7180 av7180 bv7180 cv7180 => ?_)
      refine WP_istore (ls' := [(0, _), (1, _), (2, _), (3, _), (4, _), (5, _)]) dX6_habit_48 (by decide) rfl ?_
      refine WP_iload_n dX6_habit_50 rfl ?_
      refine WQ_iconst (2) (2) dX6_habit_51 rfl rfl (fun v7181 hv7181 => ?_)
      refine WQ_icmp_eq 72 dX6_habit_52 rfl (fun c7181 => ?_) (fun c7181 => ?_)
      · refine WQ_iconst (0) (0) dX6_habit_72 rfl rfl (fun v7183 hv7183 => ?_)
        refine WP_istore (ls' := [(0, _), (1, _), (2, _), (3, _), (4, _), (5, _), (6, _)]) dX6_habit_73 (by decide) rfl ?_
        refine WP_iload_n dX6_habit_75 rfl ?_
        refine WQ_if_eq 91 dX6_habit_76 rfl (fun c7183 => False.elim (by omega)) (fun c7183 => ?_)
        refine WP_iload_n dX6_habit_79 rfl ?_
        refine WQ_iconst (2) (2) dX6_habit_80 rfl rfl (fun v7185 hv7185 => ?_)
        refine WQ_icmp_ne 133 dX6_habit_81 rfl (fun c7185 => False.elim (by omega)) (fun c7185 => ?_)
        refine WP_aload_n dX6_habit_84 rfl ?_
        refine WQ_geti dX6_habit_85 fX6_67 rfl (lyx_is hy 50 6 rfl) (BT_get hI.1 50 8 9 (0) (0) (1) (by decide) 8 (by decide) (by decide)) (fun v7187 ev7187 av7187 bv7187 => ?_)
        refine WQ_if_eq 133 dX6_habit_88 rfl (fun c7187 => ?_) (fun c7187 => ?_)
        · refine WQ_bipush (16) (16) dX6_habit_133 rfl rfl (fun v7189 hv7189 => ?_)
          refine WP_iload dX6_habit_135 rfl ?_
          refine WQ_imulk (0) dX6_habit_137 hv7183 (by omega) (by omega) (fun v7190 hv7190 => ?_)
          refine WQ_iconst (4) (4) dX6_habit_138 rfl rfl (fun v7191 hv7191 => ?_)
          refine WP_iload dX6_habit_139 rfl ?_
          refine WQ_imulk (0) dX6_habit_141 hv7173 (by omega) (by omega) (fun v7192 hv7192 => ?_)
          refine WQ_iadd dX6_habit_142 (by omega) (by omega) (fun v7193 hv7193 => ?_)
          refine WP_iload dX6_habit_143 rfl ?_
          refine WQ_iadd dX6_habit_145 (by omega) (by omega) (fun v7194 hv7194 => ?_)
          obtain ⟨w7195, ew7195⟩ : ∃ w : Int32, I (ad g 50) 4 = w := ⟨_, rfl⟩
          have bw7195 := BT_get hI.1 50 4 5 (0) (0) (20) (by decide) 4 (by decide) (by decide)
          rw [ew7195] at bw7195
          exact WP_iret dX6_habit_146 rfl ⟨⟨rfl, rfl, rfl⟩, _, rfl, by omega, by omega, (by
                have ee : v7194.toInt % 4 = v7180.toInt := by omega
                have es : v7194.toInt / 16 = v7183.toInt := by omega
                have ef : v7194.toInt / 4 % 4 = v7173.toInt := by omega
                rw [ee, es, ef, ev7178, ew7195]
                have k1 : v7180.toInt * v7178.toInt ≤ v7179.toInt * v7178.toInt := Int.mul_le_mul_of_nonneg_right (by omega) (by omega)
                have k2 : v7183.toInt * w7195.toInt = 0 := by rw [show v7183.toInt = 0 by omega]; simp
                exact ⟨by omega, by omega, by omega⟩)⟩
        · refine WQ_iconst (5) (5) dX6_habit_91 rfl rfl (fun v7196 hv7196 => ?_)
          refine WP_iload_n dX6_habit_92 rfl ?_
          refine WQ_isub dX6_habit_93 (by omega) (by omega) (fun v7197 hv7197 => ?_)
          refine WP_iload dX6_habit_94 rfl ?_
          refine WQ_iadd dX6_habit_96 (by omega) (by omega) (fun v7198 hv7198 => ?_)
          refine WP_istore (ls' := [(0, _), (1, _), (2, _), (3, _), (4, _), (5, _), (6, _), (7, _)]) dX6_habit_97 (by decide) rfl ?_
          refine WP_iload_n dX6_habit_99 rfl ?_
          refine WP_iload dX6_habit_100 rfl ?_
          refine WP_aload_n dX6_habit_102 rfl ?_
          refine WQ_getim dX6_habit_103 fX6_48 rfl (lyx_is hy 50 6 rfl) ev7178 ?_
          refine WQ_imulb (3) (20) dX6_habit_106 ⟨by omega, by omega⟩ ⟨by omega, by omega⟩ (by decide) (fun v7199 pv7199 av7199 bv7199 cv7199 => ?_)
          have k0 : v7180.toInt * v7178.toInt ≤ v7179.toInt * v7178.toInt := Int.mul_le_mul_of_nonneg_right (by omega) (by omega)
          refine WQ_isub dX6_habit_107 (by omega) (by omega) (fun v7200 hv7200 => ?_)
          refine WP_aload_n dX6_habit_108 rfl ?_
          refine WQ_geti dX6_habit_109 fX6_51 rfl (lyx_is hy 50 6 rfl) (BT_get hI.1 50 4 5 (0) (0) (20) (by decide) 4 (by decide) (by decide)) (fun v7201 ev7201 av7201 bv7201 => ?_)
          refine WP_callN2 dX6_habit_112 ⟨⟨⟨by decide, by decide⟩, zX10_affordable⟩, lX6_83, tX10_affordable⟩ (sx_afford hy hr hI v7200 v7201 (by omega) (by omega) (by omega) (by omega)) (Nat.le_of_ble_eq_true rfl) ?_
          intro r Ia Ja Ra hq
          obtain ⟨⟨ea, eb, ec⟩, v7202, rfl, av7202, bv7202, cv7202⟩ := hq
          show WP _ _ _ _ (.int _ :: _) _ _ _ _
          rw [ea, eb, ec]
          clear ea eb ec Ia Ja Ra
          refine WP_istore (ls' := [(0, _), (1, _), (2, _), (3, _), (4, _), (5, _), (6, _), (7, _), (8, _)]) dX6_habit_115 (by decide) rfl ?_
          refine WP_aload_n dX6_habit_117 rfl ?_
          refine WQ_geti dX6_habit_118 fX6_57 rfl (lyx_is hy 50 6 rfl) (BT_get hI.1 50 6 7 (0) (0) (2) (by decide) 6 (by decide) (by decide)) (fun v7203 ev7203 av7203 bv7203 => ?_)
          refine WP_iload dX6_habit_121 rfl ?_
          refine WQ_min dX6_habit_123 lX6_78 ⟨by decide, Nat.le_of_ble_eq_true rfl⟩ (fun v7204 av7204 bv7204 cv7204 => ?_)
          refine WP_iload dX6_habit_126 rfl ?_
          refine WQ_min dX6_habit_128 lX6_78 ⟨by decide, Nat.le_of_ble_eq_true rfl⟩ (fun v7205 av7205 bv7205 cv7205 => ?_)
          refine WP_istore (ls' := [(0, _), (1, _), (2, _), (3, _), (4, _), (5, _), (6, _), (7, _), (8, _)]) dX6_habit_131 (by decide) rfl ?_
          refine WQ_bipush (16) (16) dX6_habit_133 rfl rfl (fun v7206 hv7206 => ?_)
          refine WP_iload dX6_habit_135 rfl ?_
          refine WQ_imulK (16) dX6_habit_137 hv7206 (by omega) (by omega) (fun v7207 hv7207 => ?_)
          refine WQ_iconst (4) (4) dX6_habit_138 rfl rfl (fun v7208 hv7208 => ?_)
          refine WP_iload dX6_habit_139 rfl ?_
          refine WQ_imulk (0) dX6_habit_141 hv7173 (by omega) (by omega) (fun v7209 hv7209 => ?_)
          refine WQ_iadd dX6_habit_142 (by omega) (by omega) (fun v7210 hv7210 => ?_)
          refine WP_iload dX6_habit_143 rfl ?_
          refine WQ_iadd dX6_habit_145 (by omega) (by omega) (fun v7211 hv7211 => ?_)
          exact WP_iret dX6_habit_146 rfl ⟨⟨rfl, rfl, rfl⟩, _, rfl, by omega, by omega, (by
                have ee : v7211.toInt % 4 = v7180.toInt := by omega
                have es : v7211.toInt / 16 = v7205.toInt := by omega
                have ef : v7211.toInt / 4 % 4 = v7173.toInt := by omega
                rw [ee, es, ef, ev7178, ev7201]
                have k1 : v7180.toInt * v7178.toInt ≤ v7179.toInt * v7178.toInt := Int.mul_le_mul_of_nonneg_right (by omega) (by omega)
                have k2 : v7205.toInt * v7201.toInt ≤ v7202.toInt * v7201.toInt := Int.mul_le_mul_of_nonneg_right (by omega) (by omega)
                exact ⟨by omega, by omega, by omega⟩)⟩
      · refine WP_aload_n dX6_habit_55 rfl ?_
        refine WQ_getim dX6_habit_56 fX6_36 rfl (lyx_is hy 50 6 rfl) ev7175 ?_
        refine WP_iload dX6_habit_59 rfl ?_
        refine WQ_isub dX6_habit_61 (by omega) (by omega) (fun v7212 hv7212 => ?_)
        refine WP_aload_n dX6_habit_62 rfl ?_
        refine WP_iload_n dX6_habit_63 rfl ?_
        refine WP_callV1 (k := 6) dX6_habit_64 ⟨⟨⟨by decide, by decide⟩, zX6_mostFromStore⟩, lX6_70, by decide, rfl, vX6_mostFromStore.1, vX6_mostFromStore.2⟩ (lyx_is hy 50 6 rfl) (sx_mfs_50 hy hr hI st (by omega) (by omega)) (Nat.le_of_ble_eq_true rfl) ?_
        intro r Ia Ja Ra hq
        obtain ⟨⟨ea, eb, ec⟩, v7213, rfl, av7213, bv7213, cv7213⟩ := hq
        show WP _ _ _ _ (.int _ :: _) _ _ _ _
        rw [ea, eb, ec]
        clear ea eb ec Ia Ja Ra
        rw [ev7175] at cv7213
        refine WQ_min dX6_habit_67 lX6_78 ⟨by decide, Nat.le_of_ble_eq_true rfl⟩ (fun v7214 av7214 bv7214 cv7214 => ?_)
        refine WP_istore (ls' := [(0, _), (1, _), (2, _), (3, _), (4, _), (5, _)]) dX6_habit_70 (by decide) rfl ?_
        refine WQ_iconst (0) (0) dX6_habit_72 rfl rfl (fun v7215 hv7215 => ?_)
        refine WP_istore (ls' := [(0, _), (1, _), (2, _), (3, _), (4, _), (5, _), (6, _)]) dX6_habit_73 (by decide) rfl ?_
        refine WP_iload_n dX6_habit_75 rfl ?_
        refine WQ_if_eq 91 dX6_habit_76 rfl (fun c7215 => ?_) (fun c7215 => ?_)
        · refine WQ_iconst (5) (5) dX6_habit_91 rfl rfl (fun v7217 hv7217 => ?_)
          refine WP_iload_n dX6_habit_92 rfl ?_
          refine WQ_isub dX6_habit_93 (by omega) (by omega) (fun v7218 hv7218 => ?_)
          refine WP_iload dX6_habit_94 rfl ?_
          refine WQ_iadd dX6_habit_96 (by omega) (by omega) (fun v7219 hv7219 => ?_)
          refine WP_istore (ls' := [(0, _), (1, _), (2, _), (3, _), (4, _), (5, _), (6, _), (7, _)]) dX6_habit_97 (by decide) rfl ?_
          refine WP_iload_n dX6_habit_99 rfl ?_
          refine WP_iload dX6_habit_100 rfl ?_
          refine WP_aload_n dX6_habit_102 rfl ?_
          refine WQ_getim dX6_habit_103 fX6_48 rfl (lyx_is hy 50 6 rfl) ev7178 ?_
          refine WQ_imulb (3) (20) dX6_habit_106 ⟨by omega, by omega⟩ ⟨by omega, by omega⟩ (by decide) (fun v7220 pv7220 av7220 bv7220 cv7220 => ?_)
          have k0 : v7180.toInt * v7178.toInt ≤ v7179.toInt * v7178.toInt := Int.mul_le_mul_of_nonneg_right (by omega) (by omega)
          refine WQ_isub dX6_habit_107 (by omega) (by omega) (fun v7221 hv7221 => ?_)
          refine WP_aload_n dX6_habit_108 rfl ?_
          refine WQ_geti dX6_habit_109 fX6_51 rfl (lyx_is hy 50 6 rfl) (BT_get hI.1 50 4 5 (0) (0) (20) (by decide) 4 (by decide) (by decide)) (fun v7222 ev7222 av7222 bv7222 => ?_)
          refine WP_callN2 dX6_habit_112 ⟨⟨⟨by decide, by decide⟩, zX10_affordable⟩, lX6_83, tX10_affordable⟩ (sx_afford hy hr hI v7221 v7222 (by omega) (by omega) (by omega) (by omega)) (Nat.le_of_ble_eq_true rfl) ?_
          intro r Ia Ja Ra hq
          obtain ⟨⟨ea, eb, ec⟩, v7223, rfl, av7223, bv7223, cv7223⟩ := hq
          show WP _ _ _ _ (.int _ :: _) _ _ _ _
          rw [ea, eb, ec]
          clear ea eb ec Ia Ja Ra
          refine WP_istore (ls' := [(0, _), (1, _), (2, _), (3, _), (4, _), (5, _), (6, _), (7, _), (8, _)]) dX6_habit_115 (by decide) rfl ?_
          refine WP_aload_n dX6_habit_117 rfl ?_
          refine WQ_geti dX6_habit_118 fX6_57 rfl (lyx_is hy 50 6 rfl) (BT_get hI.1 50 6 7 (0) (0) (2) (by decide) 6 (by decide) (by decide)) (fun v7224 ev7224 av7224 bv7224 => ?_)
          refine WP_iload dX6_habit_121 rfl ?_
          refine WQ_min dX6_habit_123 lX6_78 ⟨by decide, Nat.le_of_ble_eq_true rfl⟩ (fun v7225 av7225 bv7225 cv7225 => ?_)
          refine WP_iload dX6_habit_126 rfl ?_
          refine WQ_min dX6_habit_128 lX6_78 ⟨by decide, Nat.le_of_ble_eq_true rfl⟩ (fun v7226 av7226 bv7226 cv7226 => ?_)
          refine WP_istore (ls' := [(0, _), (1, _), (2, _), (3, _), (4, _), (5, _), (6, _), (7, _), (8, _)]) dX6_habit_131 (by decide) rfl ?_
          refine WQ_bipush (16) (16) dX6_habit_133 rfl rfl (fun v7227 hv7227 => ?_)
          refine WP_iload dX6_habit_135 rfl ?_
          refine WQ_imulK (16) dX6_habit_137 hv7227 (by omega) (by omega) (fun v7228 hv7228 => ?_)
          refine WQ_iconst (4) (4) dX6_habit_138 rfl rfl (fun v7229 hv7229 => ?_)
          refine WP_iload dX6_habit_139 rfl ?_
          refine WQ_imulK (4) dX6_habit_141 hv7229 (by omega) (by omega) (fun v7230 hv7230 => ?_)
          refine WQ_iadd dX6_habit_142 (by omega) (by omega) (fun v7231 hv7231 => ?_)
          refine WP_iload dX6_habit_143 rfl ?_
          refine WQ_iadd dX6_habit_145 (by omega) (by omega) (fun v7232 hv7232 => ?_)
          exact WP_iret dX6_habit_146 rfl ⟨⟨rfl, rfl, rfl⟩, _, rfl, by omega, by omega, (by
                have ee : v7232.toInt % 4 = v7180.toInt := by omega
                have es : v7232.toInt / 16 = v7226.toInt := by omega
                have ef : v7232.toInt / 4 % 4 = v7214.toInt := by omega
                rw [ee, es, ef, ev7178, ev7222]
                have k1 : v7180.toInt * v7178.toInt ≤ v7179.toInt * v7178.toInt := Int.mul_le_mul_of_nonneg_right (by omega) (by omega)
                have k2 : v7226.toInt * v7222.toInt ≤ v7223.toInt * v7222.toInt := Int.mul_le_mul_of_nonneg_right (by omega) (by omega)
                exact ⟨by omega, by omega, by omega⟩)⟩
        · refine WP_iload_n dX6_habit_79 rfl ?_
          refine WQ_iconst (2) (2) dX6_habit_80 rfl rfl (fun v7233 hv7233 => ?_)
          refine WQ_icmp_ne 133 dX6_habit_81 rfl (fun c7233 => ?_) (fun c7233 => ?_)
          · refine WQ_bipush (16) (16) dX6_habit_133 rfl rfl (fun v7235 hv7235 => ?_)
            refine WP_iload dX6_habit_135 rfl ?_
            refine WQ_imulk (0) dX6_habit_137 hv7215 (by omega) (by omega) (fun v7236 hv7236 => ?_)
            refine WQ_iconst (4) (4) dX6_habit_138 rfl rfl (fun v7237 hv7237 => ?_)
            refine WP_iload dX6_habit_139 rfl ?_
            refine WQ_imulK (4) dX6_habit_141 hv7237 (by omega) (by omega) (fun v7238 hv7238 => ?_)
            refine WQ_iadd dX6_habit_142 (by omega) (by omega) (fun v7239 hv7239 => ?_)
            refine WP_iload dX6_habit_143 rfl ?_
            refine WQ_iadd dX6_habit_145 (by omega) (by omega) (fun v7240 hv7240 => ?_)
            obtain ⟨w7241, ew7241⟩ : ∃ w : Int32, I (ad g 50) 4 = w := ⟨_, rfl⟩
            have bw7241 := BT_get hI.1 50 4 5 (0) (0) (20) (by decide) 4 (by decide) (by decide)
            rw [ew7241] at bw7241
            exact WP_iret dX6_habit_146 rfl ⟨⟨rfl, rfl, rfl⟩, _, rfl, by omega, by omega, (by
                  have ee : v7240.toInt % 4 = v7180.toInt := by omega
                  have es : v7240.toInt / 16 = v7215.toInt := by omega
                  have ef : v7240.toInt / 4 % 4 = v7214.toInt := by omega
                  rw [ee, es, ef, ev7178, ew7241]
                  have k1 : v7180.toInt * v7178.toInt ≤ v7179.toInt * v7178.toInt := Int.mul_le_mul_of_nonneg_right (by omega) (by omega)
                  have k2 : v7215.toInt * w7241.toInt = 0 := by rw [show v7215.toInt = 0 by omega]; simp
                  exact ⟨by omega, by omega, by omega⟩)⟩
          · refine WP_aload_n dX6_habit_84 rfl ?_
            refine WQ_geti dX6_habit_85 fX6_67 rfl (lyx_is hy 50 6 rfl) (BT_get hI.1 50 8 9 (0) (0) (1) (by decide) 8 (by decide) (by decide)) (fun v7242 ev7242 av7242 bv7242 => ?_)
            refine WQ_if_eq 133 dX6_habit_88 rfl (fun c7242 => ?_) (fun c7242 => ?_)
            · refine WQ_bipush (16) (16) dX6_habit_133 rfl rfl (fun v7244 hv7244 => ?_)
              refine WP_iload dX6_habit_135 rfl ?_
              refine WQ_imulk (0) dX6_habit_137 hv7215 (by omega) (by omega) (fun v7245 hv7245 => ?_)
              refine WQ_iconst (4) (4) dX6_habit_138 rfl rfl (fun v7246 hv7246 => ?_)
              refine WP_iload dX6_habit_139 rfl ?_
              refine WQ_imulK (4) dX6_habit_141 hv7246 (by omega) (by omega) (fun v7247 hv7247 => ?_)
              refine WQ_iadd dX6_habit_142 (by omega) (by omega) (fun v7248 hv7248 => ?_)
              refine WP_iload dX6_habit_143 rfl ?_
              refine WQ_iadd dX6_habit_145 (by omega) (by omega) (fun v7249 hv7249 => ?_)
              obtain ⟨w7250, ew7250⟩ : ∃ w : Int32, I (ad g 50) 4 = w := ⟨_, rfl⟩
              have bw7250 := BT_get hI.1 50 4 5 (0) (0) (20) (by decide) 4 (by decide) (by decide)
              rw [ew7250] at bw7250
              exact WP_iret dX6_habit_146 rfl ⟨⟨rfl, rfl, rfl⟩, _, rfl, by omega, by omega, (by
                    have ee : v7249.toInt % 4 = v7180.toInt := by omega
                    have es : v7249.toInt / 16 = v7215.toInt := by omega
                    have ef : v7249.toInt / 4 % 4 = v7214.toInt := by omega
                    rw [ee, es, ef, ev7178, ew7250]
                    have k1 : v7180.toInt * v7178.toInt ≤ v7179.toInt * v7178.toInt := Int.mul_le_mul_of_nonneg_right (by omega) (by omega)
                    have k2 : v7215.toInt * w7250.toInt = 0 := by rw [show v7215.toInt = 0 by omega]; simp
                    exact ⟨by omega, by omega, by omega⟩)⟩
            · refine WQ_iconst (5) (5) dX6_habit_91 rfl rfl (fun v7251 hv7251 => ?_)
              refine WP_iload_n dX6_habit_92 rfl ?_
              refine WQ_isub dX6_habit_93 (by omega) (by omega) (fun v7252 hv7252 => ?_)
              refine WP_iload dX6_habit_94 rfl ?_
              refine WQ_iadd dX6_habit_96 (by omega) (by omega) (fun v7253 hv7253 => ?_)
              refine WP_istore (ls' := [(0, _), (1, _), (2, _), (3, _), (4, _), (5, _), (6, _), (7, _)]) dX6_habit_97 (by decide) rfl ?_
              refine WP_iload_n dX6_habit_99 rfl ?_
              refine WP_iload dX6_habit_100 rfl ?_
              refine WP_aload_n dX6_habit_102 rfl ?_
              refine WQ_getim dX6_habit_103 fX6_48 rfl (lyx_is hy 50 6 rfl) ev7178 ?_
              refine WQ_imulb (3) (20) dX6_habit_106 ⟨by omega, by omega⟩ ⟨by omega, by omega⟩ (by decide) (fun v7254 pv7254 av7254 bv7254 cv7254 => ?_)
              have k0 : v7180.toInt * v7178.toInt ≤ v7179.toInt * v7178.toInt := Int.mul_le_mul_of_nonneg_right (by omega) (by omega)
              refine WQ_isub dX6_habit_107 (by omega) (by omega) (fun v7255 hv7255 => ?_)
              refine WP_aload_n dX6_habit_108 rfl ?_
              refine WQ_geti dX6_habit_109 fX6_51 rfl (lyx_is hy 50 6 rfl) (BT_get hI.1 50 4 5 (0) (0) (20) (by decide) 4 (by decide) (by decide)) (fun v7256 ev7256 av7256 bv7256 => ?_)
              refine WP_callN2 dX6_habit_112 ⟨⟨⟨by decide, by decide⟩, zX10_affordable⟩, lX6_83, tX10_affordable⟩ (sx_afford hy hr hI v7255 v7256 (by omega) (by omega) (by omega) (by omega)) (Nat.le_of_ble_eq_true rfl) ?_
              intro r Ia Ja Ra hq
              obtain ⟨⟨ea, eb, ec⟩, v7257, rfl, av7257, bv7257, cv7257⟩ := hq
              show WP _ _ _ _ (.int _ :: _) _ _ _ _
              rw [ea, eb, ec]
              clear ea eb ec Ia Ja Ra
              refine WP_istore (ls' := [(0, _), (1, _), (2, _), (3, _), (4, _), (5, _), (6, _), (7, _), (8, _)]) dX6_habit_115 (by decide) rfl ?_
              refine WP_aload_n dX6_habit_117 rfl ?_
              refine WQ_geti dX6_habit_118 fX6_57 rfl (lyx_is hy 50 6 rfl) (BT_get hI.1 50 6 7 (0) (0) (2) (by decide) 6 (by decide) (by decide)) (fun v7258 ev7258 av7258 bv7258 => ?_)
              refine WP_iload dX6_habit_121 rfl ?_
              refine WQ_min dX6_habit_123 lX6_78 ⟨by decide, Nat.le_of_ble_eq_true rfl⟩ (fun v7259 av7259 bv7259 cv7259 => ?_)
              refine WP_iload dX6_habit_126 rfl ?_
              refine WQ_min dX6_habit_128 lX6_78 ⟨by decide, Nat.le_of_ble_eq_true rfl⟩ (fun v7260 av7260 bv7260 cv7260 => ?_)
              refine WP_istore (ls' := [(0, _), (1, _), (2, _), (3, _), (4, _), (5, _), (6, _), (7, _), (8, _)]) dX6_habit_131 (by decide) rfl ?_
              refine WQ_bipush (16) (16) dX6_habit_133 rfl rfl (fun v7261 hv7261 => ?_)
              refine WP_iload dX6_habit_135 rfl ?_
              refine WQ_imulK (16) dX6_habit_137 hv7261 (by omega) (by omega) (fun v7262 hv7262 => ?_)
              refine WQ_iconst (4) (4) dX6_habit_138 rfl rfl (fun v7263 hv7263 => ?_)
              refine WP_iload dX6_habit_139 rfl ?_
              refine WQ_imulK (4) dX6_habit_141 hv7263 (by omega) (by omega) (fun v7264 hv7264 => ?_)
              refine WQ_iadd dX6_habit_142 (by omega) (by omega) (fun v7265 hv7265 => ?_)
              refine WP_iload dX6_habit_143 rfl ?_
              refine WQ_iadd dX6_habit_145 (by omega) (by omega) (fun v7266 hv7266 => ?_)
              exact WP_iret dX6_habit_146 rfl ⟨⟨rfl, rfl, rfl⟩, _, rfl, by omega, by omega, (by
                    have ee : v7266.toInt % 4 = v7180.toInt := by omega
                    have es : v7266.toInt / 16 = v7260.toInt := by omega
                    have ef : v7266.toInt / 4 % 4 = v7214.toInt := by omega
                    rw [ee, es, ef, ev7178, ev7256]
                    have k1 : v7180.toInt * v7178.toInt ≤ v7179.toInt * v7178.toInt := Int.mul_le_mul_of_nonneg_right (by omega) (by omega)
                    have k2 : v7260.toInt * v7256.toInt ≤ v7257.toInt * v7256.toInt := Int.mul_le_mul_of_nonneg_right (by omega) (by omega)
                    exact ⟨by omega, by omega, by omega⟩)⟩
    · refine WP_aload_n dX6_habit_12 rfl ?_
      refine WP_iload_n dX6_habit_13 rfl ?_
      refine WP_callV1 (k := 6) dX6_habit_14 ⟨⟨⟨by decide, by decide⟩, zX6_mostFromStore⟩, lX6_70, by decide, rfl, vX6_mostFromStore.1, vX6_mostFromStore.2⟩ (lyx_is hy 50 6 rfl) (sx_mfs_50 hy hr hI st (by omega) (by omega)) (Nat.le_of_ble_eq_true rfl) ?_
      intro r Ia Ja Ra hq
      obtain ⟨⟨ea, eb, ec⟩, v7267, rfl, av7267, bv7267, cv7267⟩ := hq
      show WP _ _ _ _ (.int _ :: _) _ _ _ _
      rw [ea, eb, ec]
      clear ea eb ec Ia Ja Ra
      obtain ⟨w7268, ew7268⟩ : ∃ w : Int32, I (ad g 50) 1 = w := ⟨_, rfl⟩
      have bw7268 := BT_get hI.1 50 1 2 (0) (0) (3) (by decide) 1 (by decide) (by decide)
      rw [ew7268] at bw7268
      rw [ew7268] at cv7267
      refine WP_goto 21 dX6_habit_17 rfl ?_
      refine WP_istore (ls' := [(0, _), (1, _), (2, _), (3, _), (4, _)]) dX6_habit_21 (by decide) rfl ?_
      refine WP_aload_n dX6_habit_23 rfl ?_
      refine WQ_geti dX6_habit_24 fX6_54 rfl (lyx_is hy 50 6 rfl) (BT_get hI.1 50 5 6 (0) (0) (3) (by decide) 5 (by decide) (by decide)) (fun v7269 ev7269 av7269 bv7269 => ?_)
      refine WP_aload_n dX6_habit_27 rfl ?_
      refine WQ_getim dX6_habit_28 fX6_36 rfl (lyx_is hy 50 6 rfl) ew7268 ?_
      refine WP_iload dX6_habit_31 rfl ?_
      refine WQ_isub dX6_habit_33 (by omega) (by omega) (fun v7270 hv7270 => ?_)
      refine WQ_min dX6_habit_34 lX6_78 ⟨by decide, Nat.le_of_ble_eq_true rfl⟩ (fun v7271 av7271 bv7271 cv7271 => ?_)
      refine WP_iload_n dX6_habit_37 rfl ?_
      refine WP_aload_n dX6_habit_38 rfl ?_
      refine WQ_geti dX6_habit_39 fX6_48 rfl (lyx_is hy 50 6 rfl) (BT_get hI.1 50 3 4 (0) (0) (20) (by decide) 3 (by decide) (by decide)) (fun v7272 ev7272 av7272 bv7272 => ?_)
      refine WP_callN2 dX6_habit_42 ⟨⟨⟨by decide, by decide⟩, zX10_affordable⟩, lX6_83, tX10_affordable⟩ (sx_afford hy hr hI co v7272 (by omega) (by omega) (by omega) (by omega)) (Nat.le_of_ble_eq_true rfl) ?_
      intro r Ia Ja Ra hq
      obtain ⟨⟨ea, eb, ec⟩, v7273, rfl, av7273, bv7273, cv7273⟩ := hq
      show WP _ _ _ _ (.int _ :: _) _ _ _ _
      rw [ea, eb, ec]
      clear ea eb ec Ia Ja Ra
      refine WQ_min dX6_habit_45 lX6_78 ⟨by decide, Nat.le_of_ble_eq_true rfl⟩ (fun v7274 av7274 bv7274 cv7274 => ?_)
      refine WP_istore (ls' := [(0, _), (1, _), (2, _), (3, _), (4, _), (5, _)]) dX6_habit_48 (by decide) rfl ?_
      refine WP_iload_n dX6_habit_50 rfl ?_
      refine WQ_iconst (2) (2) dX6_habit_51 rfl rfl (fun v7275 hv7275 => ?_)
      refine WQ_icmp_eq 72 dX6_habit_52 rfl (fun c7275 => ?_) (fun c7275 => False.elim (by omega))
      refine WQ_iconst (0) (0) dX6_habit_72 rfl rfl (fun v7277 hv7277 => ?_)
      refine WP_istore (ls' := [(0, _), (1, _), (2, _), (3, _), (4, _), (5, _), (6, _)]) dX6_habit_73 (by decide) rfl ?_
      refine WP_iload_n dX6_habit_75 rfl ?_
      refine WQ_if_eq 91 dX6_habit_76 rfl (fun c7277 => False.elim (by omega)) (fun c7277 => ?_)
      refine WP_iload_n dX6_habit_79 rfl ?_
      refine WQ_iconst (2) (2) dX6_habit_80 rfl rfl (fun v7279 hv7279 => ?_)
      refine WQ_icmp_ne 133 dX6_habit_81 rfl (fun c7279 => False.elim (by omega)) (fun c7279 => ?_)
      refine WP_aload_n dX6_habit_84 rfl ?_
      refine WQ_geti dX6_habit_85 fX6_67 rfl (lyx_is hy 50 6 rfl) (BT_get hI.1 50 8 9 (0) (0) (1) (by decide) 8 (by decide) (by decide)) (fun v7281 ev7281 av7281 bv7281 => ?_)
      refine WQ_if_eq 133 dX6_habit_88 rfl (fun c7281 => ?_) (fun c7281 => ?_)
      · refine WQ_bipush (16) (16) dX6_habit_133 rfl rfl (fun v7283 hv7283 => ?_)
        refine WP_iload dX6_habit_135 rfl ?_
        refine WQ_imulk (0) dX6_habit_137 hv7277 (by omega) (by omega) (fun v7284 hv7284 => ?_)
        refine WQ_iconst (4) (4) dX6_habit_138 rfl rfl (fun v7285 hv7285 => ?_)
        refine WP_iload dX6_habit_139 rfl ?_
        refine WQ_imulK (4) dX6_habit_141 hv7285 (by omega) (by omega) (fun v7286 hv7286 => ?_)
        refine WQ_iadd dX6_habit_142 (by omega) (by omega) (fun v7287 hv7287 => ?_)
        refine WP_iload dX6_habit_143 rfl ?_
        refine WQ_iadd dX6_habit_145 (by omega) (by omega) (fun v7288 hv7288 => ?_)
        obtain ⟨w7289, ew7289⟩ : ∃ w : Int32, I (ad g 50) 4 = w := ⟨_, rfl⟩
        have bw7289 := BT_get hI.1 50 4 5 (0) (0) (20) (by decide) 4 (by decide) (by decide)
        rw [ew7289] at bw7289
        exact WP_iret dX6_habit_146 rfl ⟨⟨rfl, rfl, rfl⟩, _, rfl, by omega, by omega, (by
              have ee : v7288.toInt % 4 = v7274.toInt := by omega
              have es : v7288.toInt / 16 = v7277.toInt := by omega
              have ef : v7288.toInt / 4 % 4 = v7267.toInt := by omega
              rw [ee, es, ef, ev7272, ew7289]
              have k1 : v7274.toInt * v7272.toInt ≤ v7273.toInt * v7272.toInt := Int.mul_le_mul_of_nonneg_right (by omega) (by omega)
              have k2 : v7277.toInt * w7289.toInt = 0 := by rw [show v7277.toInt = 0 by omega]; simp
              exact ⟨by omega, by omega, by omega⟩)⟩
      · refine WQ_iconst (5) (5) dX6_habit_91 rfl rfl (fun v7290 hv7290 => ?_)
        refine WP_iload_n dX6_habit_92 rfl ?_
        refine WQ_isub dX6_habit_93 (by omega) (by omega) (fun v7291 hv7291 => ?_)
        refine WP_iload dX6_habit_94 rfl ?_
        refine WQ_iadd dX6_habit_96 (by omega) (by omega) (fun v7292 hv7292 => ?_)
        refine WP_istore (ls' := [(0, _), (1, _), (2, _), (3, _), (4, _), (5, _), (6, _), (7, _)]) dX6_habit_97 (by decide) rfl ?_
        refine WP_iload_n dX6_habit_99 rfl ?_
        refine WP_iload dX6_habit_100 rfl ?_
        refine WP_aload_n dX6_habit_102 rfl ?_
        refine WQ_getim dX6_habit_103 fX6_48 rfl (lyx_is hy 50 6 rfl) ev7272 ?_
        refine WQ_imulb (3) (20) dX6_habit_106 ⟨by omega, by omega⟩ ⟨by omega, by omega⟩ (by decide) (fun v7293 pv7293 av7293 bv7293 cv7293 => ?_)
        have k0 : v7274.toInt * v7272.toInt ≤ v7273.toInt * v7272.toInt := Int.mul_le_mul_of_nonneg_right (by omega) (by omega)
        refine WQ_isub dX6_habit_107 (by omega) (by omega) (fun v7294 hv7294 => ?_)
        refine WP_aload_n dX6_habit_108 rfl ?_
        refine WQ_geti dX6_habit_109 fX6_51 rfl (lyx_is hy 50 6 rfl) (BT_get hI.1 50 4 5 (0) (0) (20) (by decide) 4 (by decide) (by decide)) (fun v7295 ev7295 av7295 bv7295 => ?_)
        refine WP_callN2 dX6_habit_112 ⟨⟨⟨by decide, by decide⟩, zX10_affordable⟩, lX6_83, tX10_affordable⟩ (sx_afford hy hr hI v7294 v7295 (by omega) (by omega) (by omega) (by omega)) (Nat.le_of_ble_eq_true rfl) ?_
        intro r Ia Ja Ra hq
        obtain ⟨⟨ea, eb, ec⟩, v7296, rfl, av7296, bv7296, cv7296⟩ := hq
        show WP _ _ _ _ (.int _ :: _) _ _ _ _
        rw [ea, eb, ec]
        clear ea eb ec Ia Ja Ra
        refine WP_istore (ls' := [(0, _), (1, _), (2, _), (3, _), (4, _), (5, _), (6, _), (7, _), (8, _)]) dX6_habit_115 (by decide) rfl ?_
        refine WP_aload_n dX6_habit_117 rfl ?_
        refine WQ_geti dX6_habit_118 fX6_57 rfl (lyx_is hy 50 6 rfl) (BT_get hI.1 50 6 7 (0) (0) (2) (by decide) 6 (by decide) (by decide)) (fun v7297 ev7297 av7297 bv7297 => ?_)
        refine WP_iload dX6_habit_121 rfl ?_
        refine WQ_min dX6_habit_123 lX6_78 ⟨by decide, Nat.le_of_ble_eq_true rfl⟩ (fun v7298 av7298 bv7298 cv7298 => ?_)
        refine WP_iload dX6_habit_126 rfl ?_
        refine WQ_min dX6_habit_128 lX6_78 ⟨by decide, Nat.le_of_ble_eq_true rfl⟩ (fun v7299 av7299 bv7299 cv7299 => ?_)
        refine WP_istore (ls' := [(0, _), (1, _), (2, _), (3, _), (4, _), (5, _), (6, _), (7, _), (8, _)]) dX6_habit_131 (by decide) rfl ?_
        refine WQ_bipush (16) (16) dX6_habit_133 rfl rfl (fun v7300 hv7300 => ?_)
        refine WP_iload dX6_habit_135 rfl ?_
        refine WQ_imulK (16) dX6_habit_137 hv7300 (by omega) (by omega) (fun v7301 hv7301 => ?_)
        refine WQ_iconst (4) (4) dX6_habit_138 rfl rfl (fun v7302 hv7302 => ?_)
        refine WP_iload dX6_habit_139 rfl ?_
        refine WQ_imulK (4) dX6_habit_141 hv7302 (by omega) (by omega) (fun v7303 hv7303 => ?_)
        refine WQ_iadd dX6_habit_142 (by omega) (by omega) (fun v7304 hv7304 => ?_)
        refine WP_iload dX6_habit_143 rfl ?_
        refine WQ_iadd dX6_habit_145 (by omega) (by omega) (fun v7305 hv7305 => ?_)
        exact WP_iret dX6_habit_146 rfl ⟨⟨rfl, rfl, rfl⟩, _, rfl, by omega, by omega, (by
              have ee : v7305.toInt % 4 = v7274.toInt := by omega
              have es : v7305.toInt / 16 = v7299.toInt := by omega
              have ef : v7305.toInt / 4 % 4 = v7267.toInt := by omega
              rw [ee, es, ef, ev7272, ev7295]
              have k1 : v7274.toInt * v7272.toInt ≤ v7273.toInt * v7272.toInt := Int.mul_le_mul_of_nonneg_right (by omega) (by omega)
              have k2 : v7299.toInt * v7295.toInt ≤ v7296.toInt * v7295.toInt := Int.mul_le_mul_of_nonneg_right (by omega) (by omega)
              exact ⟨by omega, by omega, by omega⟩)⟩
  · refine WQ_iconst (0) (0) dX6_habit_5 rfl rfl (fun v7306 hv7306 => ?_)
    exact WP_iret dX6_habit_6 rfl ⟨⟨rfl, rfl, rfl⟩, _, rfl, by omega, by omega, (by have hz : v7306.toInt = 0 := (by omega); rw [hz]; refine ⟨by omega, by omega, ?_⟩; simp; omega)⟩
