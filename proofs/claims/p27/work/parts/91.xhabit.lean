set_option maxHeartbeats 4000000 in
set_option maxRecDepth 100000 in
theorem sx_afford {g : GG} {n : Int} {L : Int32} (hy : LyX g)  {I : pI} {J : pJ} {R : pR} (hr : RfX g R) (hI : XI g n L I) (co : Int32) (pr : Int32) (co_lo : 0 ≤ co.toInt) (co_hi : co.toInt ≤ 60) (pr_lo : 0 ≤ pr.toInt) (pr_hi : pr.toInt ≤ 20) : SP g mX10_affordable [.int co, .int pr] I J R (fun r I' J' R' => (I' = I ∧ J' = J ∧ R' = R) ∧ ∃ v : Int32, r = some (.int v) ∧ 0 ≤ v.toInt ∧ v.toInt ≤ 60 ∧ v.toInt * pr.toInt ≤ co.toInt) := by
  refine SP_of ⟨by decide, rfl⟩ (Nat.le_of_ble_eq_true rfl) ?_
  have e7116 : I (ad g 1) 1 = L := hI.2
  have b7117 := BT_get hI.1 1 1 2 (0) (0) (900) (by decide) 1 (by decide) (by decide)
  rw [e7116] at b7117
  refine WP_iload_n dX10_affordable_0 rfl ?_
  refine WQ_iconst (1) (1) dX10_affordable_1 rfl rfl (fun v7118 hv7118 => ?_)
  refine WQ_icmp_ge 9 dX10_affordable_2 rfl (fun c7118 => ?_) (fun c7118 => ?_)
  · refine WP_iload_n dX10_affordable_9 rfl ?_
    refine WP_iload_n dX10_affordable_10 rfl ?_
    refine WQ_idivb dX10_affordable_11 (by omega) (by omega) (fun v7120 pv7120 av7120 bv7120 cv7120 => ?_)
    exact WP_iret dX10_affordable_12 rfl ⟨⟨rfl, rfl, rfl⟩, _, rfl, by omega, by omega, (by first | omega | (have hz : v7120.toInt = 0 := (by omega); rw [hz]; omega))⟩
  · refine WQ_iconst (0) (0) dX10_affordable_5 rfl rfl (fun v7121 hv7121 => ?_)
    refine WP_goto 12 dX10_affordable_6 rfl ?_
    exact WP_iret dX10_affordable_12 rfl ⟨⟨rfl, rfl, rfl⟩, _, rfl, by omega, by omega, (by first | omega | (have hz : v7121.toInt = 0 := (by omega); rw [hz]; omega))⟩
set_option maxHeartbeats 4000000 in
set_option maxRecDepth 100000 in
theorem sx_mfs_50 {g : GG} {n : Int} {L : Int32} (hy : LyX g)  {I : pI} {J : pJ} {R : pR} (hr : RfX g R) (hI : XI g n L I) (st : Int32) (st_lo : 0 ≤ st.toInt) (st_hi : st.toInt ≤ 5) : SP g mX6_mostFromStore [.ref (ad g 50), .int st] I J R (fun r I' J' R' => (I' = I ∧ J' = J ∧ R' = R) ∧ ∃ v : Int32, r = some (.int v) ∧ 0 ≤ v.toInt ∧ v.toInt ≤ 3 ∧ (v.toInt ≤ st.toInt ∧ v.toInt ≤ (I (ad g 50) 1).toInt)) := by
  refine SP_of ⟨by decide, rfl⟩ (Nat.le_of_ble_eq_true rfl) ?_
  have e7122 : I (ad g 1) 1 = L := hI.2
  have b7123 := BT_get hI.1 1 1 2 (0) (0) (900) (by decide) 1 (by decide) (by decide)
  rw [e7122] at b7123
  refine WP_aload_n dX6_mostFromStore_0 rfl ?_
  refine WQ_geti dX6_mostFromStore_1 fX6_60 rfl (lyx_is hy 50 6 rfl) (BT_get hI.1 50 7 8 (0) (0) (1) (by decide) 7 (by decide) (by decide)) (fun v7124 ev7124 av7124 bv7124 => ?_)
  refine WQ_if_ne 11 dX6_mostFromStore_4 rfl (fun c7124 => ?_) (fun c7124 => ?_)
  · refine WP_iload_n dX6_mostFromStore_11 rfl ?_
    refine WP_aload_n dX6_mostFromStore_12 rfl ?_
    refine WQ_geti dX6_mostFromStore_13 fX6_36 rfl (lyx_is hy 50 6 rfl) (BT_get hI.1 50 1 2 (0) (0) (3) (by decide) 1 (by decide) (by decide)) (fun v7126 ev7126 av7126 bv7126 => ?_)
    refine WQ_icmp_ge 23 dX6_mostFromStore_16 rfl (fun c7126 => ?_) (fun c7126 => ?_)
    · refine WP_aload_n dX6_mostFromStore_23 rfl ?_
      refine WQ_getim dX6_mostFromStore_24 fX6_36 rfl (lyx_is hy 50 6 rfl) ev7126 ?_
      exact WP_iret dX6_mostFromStore_27 rfl ⟨⟨rfl, rfl, rfl⟩, _, rfl, by omega, by omega, by (try rw [ev7126]); omega⟩
    · refine WP_iload_n dX6_mostFromStore_19 rfl ?_
      refine WP_goto 27 dX6_mostFromStore_20 rfl ?_
      exact WP_iret dX6_mostFromStore_27 rfl ⟨⟨rfl, rfl, rfl⟩, _, rfl, by omega, by omega, by (try rw [ev7126]); omega⟩
  · refine WQ_iconst (0) (0) dX6_mostFromStore_7 rfl rfl (fun v7128 hv7128 => ?_)
    refine WP_goto 27 dX6_mostFromStore_8 rfl ?_
    obtain ⟨w7129, ew7129⟩ : ∃ w : Int32, I (ad g 50) 1 = w := ⟨_, rfl⟩
    have bw7129 := BT_get hI.1 50 1 2 (0) (0) (3) (by decide) 1 (by decide) (by decide)
    rw [ew7129] at bw7129
    exact WP_iret dX6_mostFromStore_27 rfl ⟨⟨rfl, rfl, rfl⟩, _, rfl, by omega, by omega, by (try rw [ew7129]); omega⟩
set_option maxHeartbeats 4000000 in
set_option maxRecDepth 100000 in
theorem sx_habit {g : GG} {n : Int} {L : Int32} (hy : LyX g)  {I : pI} {J : pJ} {R : pR} (hr : RfX g R) (hI : XI g n L I) (wa : Int32) (co : Int32) (st : Int32) (wa_lo : 0 ≤ wa.toInt) (wa_hi : wa.toInt ≤ 4) (co_lo : 0 ≤ co.toInt) (co_hi : co.toInt ≤ 60) (st_lo : 0 ≤ st.toInt) (st_hi : st.toInt ≤ 5) : SP g mX6_habit [.ref (ad g 50), .int wa, .int co, .int st] I J R (fun r I' J' R' => (I' = I ∧ J' = J ∧ R' = R) ∧ ∃ v : Int32, r = some (.int v) ∧ 0 ≤ v.toInt ∧ v.toInt ≤ 47 ∧ (v.toInt / 4 % 4 ≤ st.toInt ∧ st.toInt - v.toInt / 4 % 4 + v.toInt / 16 ≤ 5 ∧ (v.toInt % 4) * (I (ad g 50) 3).toInt + (v.toInt / 16) * (I (ad g 50) 4).toInt ≤ co.toInt)) := by
  refine SP_of ⟨by decide, rfl⟩ (Nat.le_of_ble_eq_true rfl) ?_
  have e7130 : I (ad g 1) 1 = L := hI.2
  have b7131 := BT_get hI.1 1 1 2 (0) (0) (900) (by decide) 1 (by decide) (by decide)
  rw [e7130] at b7131
  refine WP_iload_n dX6_habit_0 rfl ?_
  refine WQ_iconst (4) (4) dX6_habit_1 rfl rfl (fun v7132 hv7132 => ?_)
  refine WQ_icmp_ne 7 dX6_habit_2 rfl (fun c7132 => ?_) (fun c7132 => ?_)
  · refine WP_iload_n dX6_habit_7 rfl ?_
    refine WQ_iconst (2) (2) dX6_habit_8 rfl rfl (fun v7134 hv7134 => ?_)
    refine WQ_icmp_ne 20 dX6_habit_9 rfl (fun c7134 => ?_) (fun c7134 => ?_)
    · refine WQ_iconst (0) (0) dX6_habit_20 rfl rfl (fun v7136 hv7136 => ?_)
      refine WP_istore (ls' := [(0, _), (1, _), (2, _), (3, _), (4, _)]) dX6_habit_21 (by decide) rfl ?_
      refine WP_aload_n dX6_habit_23 rfl ?_
      refine WQ_geti dX6_habit_24 fX6_54 rfl (lyx_is hy 50 6 rfl) (BT_get hI.1 50 5 6 (0) (0) (3) (by decide) 5 (by decide) (by decide)) (fun v7137 ev7137 av7137 bv7137 => ?_)
      refine WP_aload_n dX6_habit_27 rfl ?_
      refine WQ_geti dX6_habit_28 fX6_36 rfl (lyx_is hy 50 6 rfl) (BT_get hI.1 50 1 2 (0) (0) (3) (by decide) 1 (by decide) (by decide)) (fun v7138 ev7138 av7138 bv7138 => ?_)
      refine WP_iload dX6_habit_31 rfl ?_
      refine WQ_isub dX6_habit_33 (by omega) (by omega) (fun v7139 hv7139 => ?_)
      refine WQ_min dX6_habit_34 lX6_78 ⟨by decide, Nat.le_of_ble_eq_true rfl⟩ (fun v7140 av7140 bv7140 cv7140 => ?_)
      refine WP_iload_n dX6_habit_37 rfl ?_
      refine WP_aload_n dX6_habit_38 rfl ?_
      refine WQ_geti dX6_habit_39 fX6_48 rfl (lyx_is hy 50 6 rfl) (BT_get hI.1 50 3 4 (0) (0) (20) (by decide) 3 (by decide) (by decide)) (fun v7141 ev7141 av7141 bv7141 => ?_)
      refine WP_callN2 dX6_habit_42 ⟨⟨⟨by decide, by decide⟩, zX10_affordable⟩, lX6_83, tX10_affordable⟩ (sx_afford hy hr hI co v7141 (by omega) (by omega) (by omega) (by omega)) (Nat.le_of_ble_eq_true rfl) ?_
      intro r Ia Ja Ra hq
      obtain ⟨⟨ea, eb, ec⟩, v7142, rfl, av7142, bv7142, cv7142⟩ := hq
      show WP _ _ _ _ (.int _ :: _) _ _ _ _
      rw [ea, eb, ec]
      clear ea eb ec Ia Ja Ra
      refine WQ_min dX6_habit_45 lX6_78 ⟨by decide, Nat.le_of_ble_eq_true rfl⟩ (fun v7143 av7143 bv7143 cv7143 => ?_)
      refine WP_istore (ls' := [(0, _), (1, _), (2, _), (3, _), (4, _), (5, _)]) dX6_habit_48 (by decide) rfl ?_
      refine WP_iload_n dX6_habit_50 rfl ?_
      refine WQ_iconst (2) (2) dX6_habit_51 rfl rfl (fun v7144 hv7144 => ?_)
      refine WQ_icmp_eq 72 dX6_habit_52 rfl (fun c7144 => ?_) (fun c7144 => ?_)
      · refine WQ_iconst (0) (0) dX6_habit_72 rfl rfl (fun v7146 hv7146 => ?_)
        refine WP_istore (ls' := [(0, _), (1, _), (2, _), (3, _), (4, _), (5, _), (6, _)]) dX6_habit_73 (by decide) rfl ?_
        refine WP_iload_n dX6_habit_75 rfl ?_
        refine WQ_if_eq 91 dX6_habit_76 rfl (fun c7146 => False.elim (by omega)) (fun c7146 => ?_)
        refine WP_iload_n dX6_habit_79 rfl ?_
        refine WQ_iconst (2) (2) dX6_habit_80 rfl rfl (fun v7148 hv7148 => ?_)
        refine WQ_icmp_ne 133 dX6_habit_81 rfl (fun c7148 => False.elim (by omega)) (fun c7148 => ?_)
        refine WP_aload_n dX6_habit_84 rfl ?_
        refine WQ_geti dX6_habit_85 fX6_67 rfl (lyx_is hy 50 6 rfl) (BT_get hI.1 50 8 9 (0) (0) (1) (by decide) 8 (by decide) (by decide)) (fun v7150 ev7150 av7150 bv7150 => ?_)
        refine WQ_if_eq 133 dX6_habit_88 rfl (fun c7150 => ?_) (fun c7150 => ?_)
        · refine WQ_bipush (16) (16) dX6_habit_133 rfl rfl (fun v7152 hv7152 => ?_)
          refine WP_iload dX6_habit_135 rfl ?_
          refine WQ_imulk (0) dX6_habit_137 hv7146 (by omega) (by omega) (fun v7153 hv7153 => ?_)
          refine WQ_iconst (4) (4) dX6_habit_138 rfl rfl (fun v7154 hv7154 => ?_)
          refine WP_iload dX6_habit_139 rfl ?_
          refine WQ_imulk (0) dX6_habit_141 hv7136 (by omega) (by omega) (fun v7155 hv7155 => ?_)
          refine WQ_iadd dX6_habit_142 (by omega) (by omega) (fun v7156 hv7156 => ?_)
          refine WP_iload dX6_habit_143 rfl ?_
          refine WQ_iadd dX6_habit_145 (by omega) (by omega) (fun v7157 hv7157 => ?_)
          obtain ⟨w7158, ew7158⟩ : ∃ w : Int32, I (ad g 50) 4 = w := ⟨_, rfl⟩
          have bw7158 := BT_get hI.1 50 4 5 (0) (0) (20) (by decide) 4 (by decide) (by decide)
          rw [ew7158] at bw7158
          exact WP_iret dX6_habit_146 rfl ⟨⟨rfl, rfl, rfl⟩, _, rfl, by omega, by omega, (by
                have ee : v7157.toInt % 4 = v7143.toInt := by omega
                have es : v7157.toInt / 16 = v7146.toInt := by omega
                have ef : v7157.toInt / 4 % 4 = v7136.toInt := by omega
                rw [ee, es, ef, ev7141, ew7158]
                have k1 : v7143.toInt * v7141.toInt ≤ v7142.toInt * v7141.toInt := Int.mul_le_mul_of_nonneg_right (by omega) (by omega)
                have k2 : v7146.toInt * w7158.toInt = 0 := by rw [show v7146.toInt = 0 by omega]; simp
                exact ⟨by omega, by omega, by omega⟩)⟩
        · refine WQ_iconst (5) (5) dX6_habit_91 rfl rfl (fun v7159 hv7159 => ?_)
          refine WP_iload_n dX6_habit_92 rfl ?_
          refine WQ_isub dX6_habit_93 (by omega) (by omega) (fun v7160 hv7160 => ?_)
          refine WP_iload dX6_habit_94 rfl ?_
          refine WQ_iadd dX6_habit_96 (by omega) (by omega) (fun v7161 hv7161 => ?_)
          refine WP_istore (ls' := [(0, _), (1, _), (2, _), (3, _), (4, _), (5, _), (6, _), (7, _)]) dX6_habit_97 (by decide) rfl ?_
          refine WP_iload_n dX6_habit_99 rfl ?_
          refine WP_iload dX6_habit_100 rfl ?_
          refine WP_aload_n dX6_habit_102 rfl ?_
          refine WQ_getim dX6_habit_103 fX6_48 rfl (lyx_is hy 50 6 rfl) ev7141 ?_
          refine WQ_imulb (3) (20) dX6_habit_106 ⟨by omega, by omega⟩ ⟨by omega, by omega⟩ (by decide) (fun v7162 pv7162 av7162 bv7162 cv7162 => ?_)
          have k0 : v7143.toInt * v7141.toInt ≤ v7142.toInt * v7141.toInt := Int.mul_le_mul_of_nonneg_right (by omega) (by omega)
          refine WQ_isub dX6_habit_107 (by omega) (by omega) (fun v7163 hv7163 => ?_)
          refine WP_aload_n dX6_habit_108 rfl ?_
          refine WQ_geti dX6_habit_109 fX6_51 rfl (lyx_is hy 50 6 rfl) (BT_get hI.1 50 4 5 (0) (0) (20) (by decide) 4 (by decide) (by decide)) (fun v7164 ev7164 av7164 bv7164 => ?_)
          refine WP_callN2 dX6_habit_112 ⟨⟨⟨by decide, by decide⟩, zX10_affordable⟩, lX6_83, tX10_affordable⟩ (sx_afford hy hr hI v7163 v7164 (by omega) (by omega) (by omega) (by omega)) (Nat.le_of_ble_eq_true rfl) ?_
          intro r Ia Ja Ra hq
          obtain ⟨⟨ea, eb, ec⟩, v7165, rfl, av7165, bv7165, cv7165⟩ := hq
          show WP _ _ _ _ (.int _ :: _) _ _ _ _
          rw [ea, eb, ec]
          clear ea eb ec Ia Ja Ra
          refine WP_istore (ls' := [(0, _), (1, _), (2, _), (3, _), (4, _), (5, _), (6, _), (7, _), (8, _)]) dX6_habit_115 (by decide) rfl ?_
          refine WP_aload_n dX6_habit_117 rfl ?_
          refine WQ_geti dX6_habit_118 fX6_57 rfl (lyx_is hy 50 6 rfl) (BT_get hI.1 50 6 7 (0) (0) (2) (by decide) 6 (by decide) (by decide)) (fun v7166 ev7166 av7166 bv7166 => ?_)
          refine WP_iload dX6_habit_121 rfl ?_
          refine WQ_min dX6_habit_123 lX6_78 ⟨by decide, Nat.le_of_ble_eq_true rfl⟩ (fun v7167 av7167 bv7167 cv7167 => ?_)
          refine WP_iload dX6_habit_126 rfl ?_
          refine WQ_min dX6_habit_128 lX6_78 ⟨by decide, Nat.le_of_ble_eq_true rfl⟩ (fun v7168 av7168 bv7168 cv7168 => ?_)
          refine WP_istore (ls' := [(0, _), (1, _), (2, _), (3, _), (4, _), (5, _), (6, _), (7, _), (8, _)]) dX6_habit_131 (by decide) rfl ?_
          refine WQ_bipush (16) (16) dX6_habit_133 rfl rfl (fun v7169 hv7169 => ?_)
          refine WP_iload dX6_habit_135 rfl ?_
          refine WQ_imulK (16) dX6_habit_137 hv7169 (by omega) (by omega) (fun v7170 hv7170 => ?_)
          refine WQ_iconst (4) (4) dX6_habit_138 rfl rfl (fun v7171 hv7171 => ?_)
          refine WP_iload dX6_habit_139 rfl ?_
          refine WQ_imulk (0) dX6_habit_141 hv7136 (by omega) (by omega) (fun v7172 hv7172 => ?_)
          refine WQ_iadd dX6_habit_142 (by omega) (by omega) (fun v7173 hv7173 => ?_)
          refine WP_iload dX6_habit_143 rfl ?_
          refine WQ_iadd dX6_habit_145 (by omega) (by omega) (fun v7174 hv7174 => ?_)
          exact WP_iret dX6_habit_146 rfl ⟨⟨rfl, rfl, rfl⟩, _, rfl, by omega, by omega, (by
                have ee : v7174.toInt % 4 = v7143.toInt := by omega
                have es : v7174.toInt / 16 = v7168.toInt := by omega
                have ef : v7174.toInt / 4 % 4 = v7136.toInt := by omega
                rw [ee, es, ef, ev7141, ev7164]
                have k1 : v7143.toInt * v7141.toInt ≤ v7142.toInt * v7141.toInt := Int.mul_le_mul_of_nonneg_right (by omega) (by omega)
                have k2 : v7168.toInt * v7164.toInt ≤ v7165.toInt * v7164.toInt := Int.mul_le_mul_of_nonneg_right (by omega) (by omega)
                exact ⟨by omega, by omega, by omega⟩)⟩
      · refine WP_aload_n dX6_habit_55 rfl ?_
        refine WQ_getim dX6_habit_56 fX6_36 rfl (lyx_is hy 50 6 rfl) ev7138 ?_
        refine WP_iload dX6_habit_59 rfl ?_
        refine WQ_isub dX6_habit_61 (by omega) (by omega) (fun v7175 hv7175 => ?_)
        refine WP_aload_n dX6_habit_62 rfl ?_
        refine WP_iload_n dX6_habit_63 rfl ?_
        refine WP_callV1 (k := 6) dX6_habit_64 ⟨⟨⟨by decide, by decide⟩, zX6_mostFromStore⟩, lX6_70, by decide, rfl, vX6_mostFromStore.1, vX6_mostFromStore.2⟩ (lyx_is hy 50 6 rfl) (sx_mfs_50 hy hr hI st (by omega) (by omega)) (Nat.le_of_ble_eq_true rfl) ?_
        intro r Ia Ja Ra hq
        obtain ⟨⟨ea, eb, ec⟩, v7176, rfl, av7176, bv7176, cv7176⟩ := hq
        show WP _ _ _ _ (.int _ :: _) _ _ _ _
        rw [ea, eb, ec]
        clear ea eb ec Ia Ja Ra
        rw [ev7138] at cv7176
        refine WQ_min dX6_habit_67 lX6_78 ⟨by decide, Nat.le_of_ble_eq_true rfl⟩ (fun v7177 av7177 bv7177 cv7177 => ?_)
        refine WP_istore (ls' := [(0, _), (1, _), (2, _), (3, _), (4, _), (5, _)]) dX6_habit_70 (by decide) rfl ?_
        refine WQ_iconst (0) (0) dX6_habit_72 rfl rfl (fun v7178 hv7178 => ?_)
        refine WP_istore (ls' := [(0, _), (1, _), (2, _), (3, _), (4, _), (5, _), (6, _)]) dX6_habit_73 (by decide) rfl ?_
        refine WP_iload_n dX6_habit_75 rfl ?_
        refine WQ_if_eq 91 dX6_habit_76 rfl (fun c7178 => ?_) (fun c7178 => ?_)
        · refine WQ_iconst (5) (5) dX6_habit_91 rfl rfl (fun v7180 hv7180 => ?_)
          refine WP_iload_n dX6_habit_92 rfl ?_
          refine WQ_isub dX6_habit_93 (by omega) (by omega) (fun v7181 hv7181 => ?_)
          refine WP_iload dX6_habit_94 rfl ?_
          refine WQ_iadd dX6_habit_96 (by omega) (by omega) (fun v7182 hv7182 => ?_)
          refine WP_istore (ls' := [(0, _), (1, _), (2, _), (3, _), (4, _), (5, _), (6, _), (7, _)]) dX6_habit_97 (by decide) rfl ?_
          refine WP_iload_n dX6_habit_99 rfl ?_
          refine WP_iload dX6_habit_100 rfl ?_
          refine WP_aload_n dX6_habit_102 rfl ?_
          refine WQ_getim dX6_habit_103 fX6_48 rfl (lyx_is hy 50 6 rfl) ev7141 ?_
          refine WQ_imulb (3) (20) dX6_habit_106 ⟨by omega, by omega⟩ ⟨by omega, by omega⟩ (by decide) (fun v7183 pv7183 av7183 bv7183 cv7183 => ?_)
          have k0 : v7143.toInt * v7141.toInt ≤ v7142.toInt * v7141.toInt := Int.mul_le_mul_of_nonneg_right (by omega) (by omega)
          refine WQ_isub dX6_habit_107 (by omega) (by omega) (fun v7184 hv7184 => ?_)
          refine WP_aload_n dX6_habit_108 rfl ?_
          refine WQ_geti dX6_habit_109 fX6_51 rfl (lyx_is hy 50 6 rfl) (BT_get hI.1 50 4 5 (0) (0) (20) (by decide) 4 (by decide) (by decide)) (fun v7185 ev7185 av7185 bv7185 => ?_)
          refine WP_callN2 dX6_habit_112 ⟨⟨⟨by decide, by decide⟩, zX10_affordable⟩, lX6_83, tX10_affordable⟩ (sx_afford hy hr hI v7184 v7185 (by omega) (by omega) (by omega) (by omega)) (Nat.le_of_ble_eq_true rfl) ?_
          intro r Ia Ja Ra hq
          obtain ⟨⟨ea, eb, ec⟩, v7186, rfl, av7186, bv7186, cv7186⟩ := hq
          show WP _ _ _ _ (.int _ :: _) _ _ _ _
          rw [ea, eb, ec]
          clear ea eb ec Ia Ja Ra
          refine WP_istore (ls' := [(0, _), (1, _), (2, _), (3, _), (4, _), (5, _), (6, _), (7, _), (8, _)]) dX6_habit_115 (by decide) rfl ?_
          refine WP_aload_n dX6_habit_117 rfl ?_
          refine WQ_geti dX6_habit_118 fX6_57 rfl (lyx_is hy 50 6 rfl) (BT_get hI.1 50 6 7 (0) (0) (2) (by decide) 6 (by decide) (by decide)) (fun v7187 ev7187 av7187 bv7187 => ?_)
          refine WP_iload dX6_habit_121 rfl ?_
          refine WQ_min dX6_habit_123 lX6_78 ⟨by decide, Nat.le_of_ble_eq_true rfl⟩ (fun v7188 av7188 bv7188 cv7188 => ?_)
          refine WP_iload dX6_habit_126 rfl ?_
          refine WQ_min dX6_habit_128 lX6_78 ⟨by decide, Nat.le_of_ble_eq_true rfl⟩ (fun v7189 av7189 bv7189 cv7189 => ?_)
          refine WP_istore (ls' := [(0, _), (1, _), (2, _), (3, _), (4, _), (5, _), (6, _), (7, _), (8, _)]) dX6_habit_131 (by decide) rfl ?_
          refine WQ_bipush (16) (16) dX6_habit_133 rfl rfl (fun v7190 hv7190 => ?_)
          refine WP_iload dX6_habit_135 rfl ?_
          refine WQ_imulK (16) dX6_habit_137 hv7190 (by omega) (by omega) (fun v7191 hv7191 => ?_)
          refine WQ_iconst (4) (4) dX6_habit_138 rfl rfl (fun v7192 hv7192 => ?_)
          refine WP_iload dX6_habit_139 rfl ?_
          refine WQ_imulK (4) dX6_habit_141 hv7192 (by omega) (by omega) (fun v7193 hv7193 => ?_)
          refine WQ_iadd dX6_habit_142 (by omega) (by omega) (fun v7194 hv7194 => ?_)
          refine WP_iload dX6_habit_143 rfl ?_
          refine WQ_iadd dX6_habit_145 (by omega) (by omega) (fun v7195 hv7195 => ?_)
          exact WP_iret dX6_habit_146 rfl ⟨⟨rfl, rfl, rfl⟩, _, rfl, by omega, by omega, (by
                have ee : v7195.toInt % 4 = v7143.toInt := by omega
                have es : v7195.toInt / 16 = v7189.toInt := by omega
                have ef : v7195.toInt / 4 % 4 = v7177.toInt := by omega
                rw [ee, es, ef, ev7141, ev7185]
                have k1 : v7143.toInt * v7141.toInt ≤ v7142.toInt * v7141.toInt := Int.mul_le_mul_of_nonneg_right (by omega) (by omega)
                have k2 : v7189.toInt * v7185.toInt ≤ v7186.toInt * v7185.toInt := Int.mul_le_mul_of_nonneg_right (by omega) (by omega)
                exact ⟨by omega, by omega, by omega⟩)⟩
        · refine WP_iload_n dX6_habit_79 rfl ?_
          refine WQ_iconst (2) (2) dX6_habit_80 rfl rfl (fun v7196 hv7196 => ?_)
          refine WQ_icmp_ne 133 dX6_habit_81 rfl (fun c7196 => ?_) (fun c7196 => ?_)
          · refine WQ_bipush (16) (16) dX6_habit_133 rfl rfl (fun v7198 hv7198 => ?_)
            refine WP_iload dX6_habit_135 rfl ?_
            refine WQ_imulk (0) dX6_habit_137 hv7178 (by omega) (by omega) (fun v7199 hv7199 => ?_)
            refine WQ_iconst (4) (4) dX6_habit_138 rfl rfl (fun v7200 hv7200 => ?_)
            refine WP_iload dX6_habit_139 rfl ?_
            refine WQ_imulK (4) dX6_habit_141 hv7200 (by omega) (by omega) (fun v7201 hv7201 => ?_)
            refine WQ_iadd dX6_habit_142 (by omega) (by omega) (fun v7202 hv7202 => ?_)
            refine WP_iload dX6_habit_143 rfl ?_
            refine WQ_iadd dX6_habit_145 (by omega) (by omega) (fun v7203 hv7203 => ?_)
            obtain ⟨w7204, ew7204⟩ : ∃ w : Int32, I (ad g 50) 4 = w := ⟨_, rfl⟩
            have bw7204 := BT_get hI.1 50 4 5 (0) (0) (20) (by decide) 4 (by decide) (by decide)
            rw [ew7204] at bw7204
            exact WP_iret dX6_habit_146 rfl ⟨⟨rfl, rfl, rfl⟩, _, rfl, by omega, by omega, (by
                  have ee : v7203.toInt % 4 = v7143.toInt := by omega
                  have es : v7203.toInt / 16 = v7178.toInt := by omega
                  have ef : v7203.toInt / 4 % 4 = v7177.toInt := by omega
                  rw [ee, es, ef, ev7141, ew7204]
                  have k1 : v7143.toInt * v7141.toInt ≤ v7142.toInt * v7141.toInt := Int.mul_le_mul_of_nonneg_right (by omega) (by omega)
                  have k2 : v7178.toInt * w7204.toInt = 0 := by rw [show v7178.toInt = 0 by omega]; simp
                  exact ⟨by omega, by omega, by omega⟩)⟩
          · refine WP_aload_n dX6_habit_84 rfl ?_
            refine WQ_geti dX6_habit_85 fX6_67 rfl (lyx_is hy 50 6 rfl) (BT_get hI.1 50 8 9 (0) (0) (1) (by decide) 8 (by decide) (by decide)) (fun v7205 ev7205 av7205 bv7205 => ?_)
            refine WQ_if_eq 133 dX6_habit_88 rfl (fun c7205 => ?_) (fun c7205 => ?_)
            · refine WQ_bipush (16) (16) dX6_habit_133 rfl rfl (fun v7207 hv7207 => ?_)
              refine WP_iload dX6_habit_135 rfl ?_
              refine WQ_imulk (0) dX6_habit_137 hv7178 (by omega) (by omega) (fun v7208 hv7208 => ?_)
              refine WQ_iconst (4) (4) dX6_habit_138 rfl rfl (fun v7209 hv7209 => ?_)
              refine WP_iload dX6_habit_139 rfl ?_
              refine WQ_imulK (4) dX6_habit_141 hv7209 (by omega) (by omega) (fun v7210 hv7210 => ?_)
              refine WQ_iadd dX6_habit_142 (by omega) (by omega) (fun v7211 hv7211 => ?_)
              refine WP_iload dX6_habit_143 rfl ?_
              refine WQ_iadd dX6_habit_145 (by omega) (by omega) (fun v7212 hv7212 => ?_)
              obtain ⟨w7213, ew7213⟩ : ∃ w : Int32, I (ad g 50) 4 = w := ⟨_, rfl⟩
              have bw7213 := BT_get hI.1 50 4 5 (0) (0) (20) (by decide) 4 (by decide) (by decide)
              rw [ew7213] at bw7213
              exact WP_iret dX6_habit_146 rfl ⟨⟨rfl, rfl, rfl⟩, _, rfl, by omega, by omega, (by
                    have ee : v7212.toInt % 4 = v7143.toInt := by omega
                    have es : v7212.toInt / 16 = v7178.toInt := by omega
                    have ef : v7212.toInt / 4 % 4 = v7177.toInt := by omega
                    rw [ee, es, ef, ev7141, ew7213]
                    have k1 : v7143.toInt * v7141.toInt ≤ v7142.toInt * v7141.toInt := Int.mul_le_mul_of_nonneg_right (by omega) (by omega)
                    have k2 : v7178.toInt * w7213.toInt = 0 := by rw [show v7178.toInt = 0 by omega]; simp
                    exact ⟨by omega, by omega, by omega⟩)⟩
            · refine WQ_iconst (5) (5) dX6_habit_91 rfl rfl (fun v7214 hv7214 => ?_)
              refine WP_iload_n dX6_habit_92 rfl ?_
              refine WQ_isub dX6_habit_93 (by omega) (by omega) (fun v7215 hv7215 => ?_)
              refine WP_iload dX6_habit_94 rfl ?_
              refine WQ_iadd dX6_habit_96 (by omega) (by omega) (fun v7216 hv7216 => ?_)
              refine WP_istore (ls' := [(0, _), (1, _), (2, _), (3, _), (4, _), (5, _), (6, _), (7, _)]) dX6_habit_97 (by decide) rfl ?_
              refine WP_iload_n dX6_habit_99 rfl ?_
              refine WP_iload dX6_habit_100 rfl ?_
              refine WP_aload_n dX6_habit_102 rfl ?_
              refine WQ_getim dX6_habit_103 fX6_48 rfl (lyx_is hy 50 6 rfl) ev7141 ?_
              refine WQ_imulb (3) (20) dX6_habit_106 ⟨by omega, by omega⟩ ⟨by omega, by omega⟩ (by decide) (fun v7217 pv7217 av7217 bv7217 cv7217 => ?_)
              have k0 : v7143.toInt * v7141.toInt ≤ v7142.toInt * v7141.toInt := Int.mul_le_mul_of_nonneg_right (by omega) (by omega)
              refine WQ_isub dX6_habit_107 (by omega) (by omega) (fun v7218 hv7218 => ?_)
              refine WP_aload_n dX6_habit_108 rfl ?_
              refine WQ_geti dX6_habit_109 fX6_51 rfl (lyx_is hy 50 6 rfl) (BT_get hI.1 50 4 5 (0) (0) (20) (by decide) 4 (by decide) (by decide)) (fun v7219 ev7219 av7219 bv7219 => ?_)
              refine WP_callN2 dX6_habit_112 ⟨⟨⟨by decide, by decide⟩, zX10_affordable⟩, lX6_83, tX10_affordable⟩ (sx_afford hy hr hI v7218 v7219 (by omega) (by omega) (by omega) (by omega)) (Nat.le_of_ble_eq_true rfl) ?_
              intro r Ia Ja Ra hq
              obtain ⟨⟨ea, eb, ec⟩, v7220, rfl, av7220, bv7220, cv7220⟩ := hq
              show WP _ _ _ _ (.int _ :: _) _ _ _ _
              rw [ea, eb, ec]
              clear ea eb ec Ia Ja Ra
              refine WP_istore (ls' := [(0, _), (1, _), (2, _), (3, _), (4, _), (5, _), (6, _), (7, _), (8, _)]) dX6_habit_115 (by decide) rfl ?_
              refine WP_aload_n dX6_habit_117 rfl ?_
              refine WQ_geti dX6_habit_118 fX6_57 rfl (lyx_is hy 50 6 rfl) (BT_get hI.1 50 6 7 (0) (0) (2) (by decide) 6 (by decide) (by decide)) (fun v7221 ev7221 av7221 bv7221 => ?_)
              refine WP_iload dX6_habit_121 rfl ?_
              refine WQ_min dX6_habit_123 lX6_78 ⟨by decide, Nat.le_of_ble_eq_true rfl⟩ (fun v7222 av7222 bv7222 cv7222 => ?_)
              refine WP_iload dX6_habit_126 rfl ?_
              refine WQ_min dX6_habit_128 lX6_78 ⟨by decide, Nat.le_of_ble_eq_true rfl⟩ (fun v7223 av7223 bv7223 cv7223 => ?_)
              refine WP_istore (ls' := [(0, _), (1, _), (2, _), (3, _), (4, _), (5, _), (6, _), (7, _), (8, _)]) dX6_habit_131 (by decide) rfl ?_
              refine WQ_bipush (16) (16) dX6_habit_133 rfl rfl (fun v7224 hv7224 => ?_)
              refine WP_iload dX6_habit_135 rfl ?_
              refine WQ_imulK (16) dX6_habit_137 hv7224 (by omega) (by omega) (fun v7225 hv7225 => ?_)
              refine WQ_iconst (4) (4) dX6_habit_138 rfl rfl (fun v7226 hv7226 => ?_)
              refine WP_iload dX6_habit_139 rfl ?_
              refine WQ_imulK (4) dX6_habit_141 hv7226 (by omega) (by omega) (fun v7227 hv7227 => ?_)
              refine WQ_iadd dX6_habit_142 (by omega) (by omega) (fun v7228 hv7228 => ?_)
              refine WP_iload dX6_habit_143 rfl ?_
              refine WQ_iadd dX6_habit_145 (by omega) (by omega) (fun v7229 hv7229 => ?_)
              exact WP_iret dX6_habit_146 rfl ⟨⟨rfl, rfl, rfl⟩, _, rfl, by omega, by omega, (by
                    have ee : v7229.toInt % 4 = v7143.toInt := by omega
                    have es : v7229.toInt / 16 = v7223.toInt := by omega
                    have ef : v7229.toInt / 4 % 4 = v7177.toInt := by omega
                    rw [ee, es, ef, ev7141, ev7219]
                    have k1 : v7143.toInt * v7141.toInt ≤ v7142.toInt * v7141.toInt := Int.mul_le_mul_of_nonneg_right (by omega) (by omega)
                    have k2 : v7223.toInt * v7219.toInt ≤ v7220.toInt * v7219.toInt := Int.mul_le_mul_of_nonneg_right (by omega) (by omega)
                    exact ⟨by omega, by omega, by omega⟩)⟩
    · refine WP_aload_n dX6_habit_12 rfl ?_
      refine WP_iload_n dX6_habit_13 rfl ?_
      refine WP_callV1 (k := 6) dX6_habit_14 ⟨⟨⟨by decide, by decide⟩, zX6_mostFromStore⟩, lX6_70, by decide, rfl, vX6_mostFromStore.1, vX6_mostFromStore.2⟩ (lyx_is hy 50 6 rfl) (sx_mfs_50 hy hr hI st (by omega) (by omega)) (Nat.le_of_ble_eq_true rfl) ?_
      intro r Ia Ja Ra hq
      obtain ⟨⟨ea, eb, ec⟩, v7230, rfl, av7230, bv7230, cv7230⟩ := hq
      show WP _ _ _ _ (.int _ :: _) _ _ _ _
      rw [ea, eb, ec]
      clear ea eb ec Ia Ja Ra
      obtain ⟨w7231, ew7231⟩ : ∃ w : Int32, I (ad g 50) 1 = w := ⟨_, rfl⟩
      have bw7231 := BT_get hI.1 50 1 2 (0) (0) (3) (by decide) 1 (by decide) (by decide)
      rw [ew7231] at bw7231
      rw [ew7231] at cv7230
      refine WP_goto 21 dX6_habit_17 rfl ?_
      refine WP_istore (ls' := [(0, _), (1, _), (2, _), (3, _), (4, _)]) dX6_habit_21 (by decide) rfl ?_
      refine WP_aload_n dX6_habit_23 rfl ?_
      refine WQ_geti dX6_habit_24 fX6_54 rfl (lyx_is hy 50 6 rfl) (BT_get hI.1 50 5 6 (0) (0) (3) (by decide) 5 (by decide) (by decide)) (fun v7232 ev7232 av7232 bv7232 => ?_)
      refine WP_aload_n dX6_habit_27 rfl ?_
      refine WQ_getim dX6_habit_28 fX6_36 rfl (lyx_is hy 50 6 rfl) ew7231 ?_
      refine WP_iload dX6_habit_31 rfl ?_
      refine WQ_isub dX6_habit_33 (by omega) (by omega) (fun v7233 hv7233 => ?_)
      refine WQ_min dX6_habit_34 lX6_78 ⟨by decide, Nat.le_of_ble_eq_true rfl⟩ (fun v7234 av7234 bv7234 cv7234 => ?_)
      refine WP_iload_n dX6_habit_37 rfl ?_
      refine WP_aload_n dX6_habit_38 rfl ?_
      refine WQ_geti dX6_habit_39 fX6_48 rfl (lyx_is hy 50 6 rfl) (BT_get hI.1 50 3 4 (0) (0) (20) (by decide) 3 (by decide) (by decide)) (fun v7235 ev7235 av7235 bv7235 => ?_)
      refine WP_callN2 dX6_habit_42 ⟨⟨⟨by decide, by decide⟩, zX10_affordable⟩, lX6_83, tX10_affordable⟩ (sx_afford hy hr hI co v7235 (by omega) (by omega) (by omega) (by omega)) (Nat.le_of_ble_eq_true rfl) ?_
      intro r Ia Ja Ra hq
      obtain ⟨⟨ea, eb, ec⟩, v7236, rfl, av7236, bv7236, cv7236⟩ := hq
      show WP _ _ _ _ (.int _ :: _) _ _ _ _
      rw [ea, eb, ec]
      clear ea eb ec Ia Ja Ra
      refine WQ_min dX6_habit_45 lX6_78 ⟨by decide, Nat.le_of_ble_eq_true rfl⟩ (fun v7237 av7237 bv7237 cv7237 => ?_)
      refine WP_istore (ls' := [(0, _), (1, _), (2, _), (3, _), (4, _), (5, _)]) dX6_habit_48 (by decide) rfl ?_
      refine WP_iload_n dX6_habit_50 rfl ?_
      refine WQ_iconst (2) (2) dX6_habit_51 rfl rfl (fun v7238 hv7238 => ?_)
      refine WQ_icmp_eq 72 dX6_habit_52 rfl (fun c7238 => ?_) (fun c7238 => False.elim (by omega))
      refine WQ_iconst (0) (0) dX6_habit_72 rfl rfl (fun v7240 hv7240 => ?_)
      refine WP_istore (ls' := [(0, _), (1, _), (2, _), (3, _), (4, _), (5, _), (6, _)]) dX6_habit_73 (by decide) rfl ?_
      refine WP_iload_n dX6_habit_75 rfl ?_
      refine WQ_if_eq 91 dX6_habit_76 rfl (fun c7240 => False.elim (by omega)) (fun c7240 => ?_)
      refine WP_iload_n dX6_habit_79 rfl ?_
      refine WQ_iconst (2) (2) dX6_habit_80 rfl rfl (fun v7242 hv7242 => ?_)
      refine WQ_icmp_ne 133 dX6_habit_81 rfl (fun c7242 => False.elim (by omega)) (fun c7242 => ?_)
      refine WP_aload_n dX6_habit_84 rfl ?_
      refine WQ_geti dX6_habit_85 fX6_67 rfl (lyx_is hy 50 6 rfl) (BT_get hI.1 50 8 9 (0) (0) (1) (by decide) 8 (by decide) (by decide)) (fun v7244 ev7244 av7244 bv7244 => ?_)
      refine WQ_if_eq 133 dX6_habit_88 rfl (fun c7244 => ?_) (fun c7244 => ?_)
      · refine WQ_bipush (16) (16) dX6_habit_133 rfl rfl (fun v7246 hv7246 => ?_)
        refine WP_iload dX6_habit_135 rfl ?_
        refine WQ_imulk (0) dX6_habit_137 hv7240 (by omega) (by omega) (fun v7247 hv7247 => ?_)
        refine WQ_iconst (4) (4) dX6_habit_138 rfl rfl (fun v7248 hv7248 => ?_)
        refine WP_iload dX6_habit_139 rfl ?_
        refine WQ_imulK (4) dX6_habit_141 hv7248 (by omega) (by omega) (fun v7249 hv7249 => ?_)
        refine WQ_iadd dX6_habit_142 (by omega) (by omega) (fun v7250 hv7250 => ?_)
        refine WP_iload dX6_habit_143 rfl ?_
        refine WQ_iadd dX6_habit_145 (by omega) (by omega) (fun v7251 hv7251 => ?_)
        obtain ⟨w7252, ew7252⟩ : ∃ w : Int32, I (ad g 50) 4 = w := ⟨_, rfl⟩
        have bw7252 := BT_get hI.1 50 4 5 (0) (0) (20) (by decide) 4 (by decide) (by decide)
        rw [ew7252] at bw7252
        exact WP_iret dX6_habit_146 rfl ⟨⟨rfl, rfl, rfl⟩, _, rfl, by omega, by omega, (by
              have ee : v7251.toInt % 4 = v7237.toInt := by omega
              have es : v7251.toInt / 16 = v7240.toInt := by omega
              have ef : v7251.toInt / 4 % 4 = v7230.toInt := by omega
              rw [ee, es, ef, ev7235, ew7252]
              have k1 : v7237.toInt * v7235.toInt ≤ v7236.toInt * v7235.toInt := Int.mul_le_mul_of_nonneg_right (by omega) (by omega)
              have k2 : v7240.toInt * w7252.toInt = 0 := by rw [show v7240.toInt = 0 by omega]; simp
              exact ⟨by omega, by omega, by omega⟩)⟩
      · refine WQ_iconst (5) (5) dX6_habit_91 rfl rfl (fun v7253 hv7253 => ?_)
        refine WP_iload_n dX6_habit_92 rfl ?_
        refine WQ_isub dX6_habit_93 (by omega) (by omega) (fun v7254 hv7254 => ?_)
        refine WP_iload dX6_habit_94 rfl ?_
        refine WQ_iadd dX6_habit_96 (by omega) (by omega) (fun v7255 hv7255 => ?_)
        refine WP_istore (ls' := [(0, _), (1, _), (2, _), (3, _), (4, _), (5, _), (6, _), (7, _)]) dX6_habit_97 (by decide) rfl ?_
        refine WP_iload_n dX6_habit_99 rfl ?_
        refine WP_iload dX6_habit_100 rfl ?_
        refine WP_aload_n dX6_habit_102 rfl ?_
        refine WQ_getim dX6_habit_103 fX6_48 rfl (lyx_is hy 50 6 rfl) ev7235 ?_
        refine WQ_imulb (3) (20) dX6_habit_106 ⟨by omega, by omega⟩ ⟨by omega, by omega⟩ (by decide) (fun v7256 pv7256 av7256 bv7256 cv7256 => ?_)
        have k0 : v7237.toInt * v7235.toInt ≤ v7236.toInt * v7235.toInt := Int.mul_le_mul_of_nonneg_right (by omega) (by omega)
        refine WQ_isub dX6_habit_107 (by omega) (by omega) (fun v7257 hv7257 => ?_)
        refine WP_aload_n dX6_habit_108 rfl ?_
        refine WQ_geti dX6_habit_109 fX6_51 rfl (lyx_is hy 50 6 rfl) (BT_get hI.1 50 4 5 (0) (0) (20) (by decide) 4 (by decide) (by decide)) (fun v7258 ev7258 av7258 bv7258 => ?_)
        refine WP_callN2 dX6_habit_112 ⟨⟨⟨by decide, by decide⟩, zX10_affordable⟩, lX6_83, tX10_affordable⟩ (sx_afford hy hr hI v7257 v7258 (by omega) (by omega) (by omega) (by omega)) (Nat.le_of_ble_eq_true rfl) ?_
        intro r Ia Ja Ra hq
        obtain ⟨⟨ea, eb, ec⟩, v7259, rfl, av7259, bv7259, cv7259⟩ := hq
        show WP _ _ _ _ (.int _ :: _) _ _ _ _
        rw [ea, eb, ec]
        clear ea eb ec Ia Ja Ra
        refine WP_istore (ls' := [(0, _), (1, _), (2, _), (3, _), (4, _), (5, _), (6, _), (7, _), (8, _)]) dX6_habit_115 (by decide) rfl ?_
        refine WP_aload_n dX6_habit_117 rfl ?_
        refine WQ_geti dX6_habit_118 fX6_57 rfl (lyx_is hy 50 6 rfl) (BT_get hI.1 50 6 7 (0) (0) (2) (by decide) 6 (by decide) (by decide)) (fun v7260 ev7260 av7260 bv7260 => ?_)
        refine WP_iload dX6_habit_121 rfl ?_
        refine WQ_min dX6_habit_123 lX6_78 ⟨by decide, Nat.le_of_ble_eq_true rfl⟩ (fun v7261 av7261 bv7261 cv7261 => ?_)
        refine WP_iload dX6_habit_126 rfl ?_
        refine WQ_min dX6_habit_128 lX6_78 ⟨by decide, Nat.le_of_ble_eq_true rfl⟩ (fun v7262 av7262 bv7262 cv7262 => ?_)
        refine WP_istore (ls' := [(0, _), (1, _), (2, _), (3, _), (4, _), (5, _), (6, _), (7, _), (8, _)]) dX6_habit_131 (by decide) rfl ?_
        refine WQ_bipush (16) (16) dX6_habit_133 rfl rfl (fun v7263 hv7263 => ?_)
        refine WP_iload dX6_habit_135 rfl ?_
        refine WQ_imulK (16) dX6_habit_137 hv7263 (by omega) (by omega) (fun v7264 hv7264 => ?_)
        refine WQ_iconst (4) (4) dX6_habit_138 rfl rfl (fun v7265 hv7265 => ?_)
        refine WP_iload dX6_habit_139 rfl ?_
        refine WQ_imulK (4) dX6_habit_141 hv7265 (by omega) (by omega) (fun v7266 hv7266 => ?_)
        refine WQ_iadd dX6_habit_142 (by omega) (by omega) (fun v7267 hv7267 => ?_)
        refine WP_iload dX6_habit_143 rfl ?_
        refine WQ_iadd dX6_habit_145 (by omega) (by omega) (fun v7268 hv7268 => ?_)
        exact WP_iret dX6_habit_146 rfl ⟨⟨rfl, rfl, rfl⟩, _, rfl, by omega, by omega, (by
              have ee : v7268.toInt % 4 = v7237.toInt := by omega
              have es : v7268.toInt / 16 = v7262.toInt := by omega
              have ef : v7268.toInt / 4 % 4 = v7230.toInt := by omega
              rw [ee, es, ef, ev7235, ev7258]
              have k1 : v7237.toInt * v7235.toInt ≤ v7236.toInt * v7235.toInt := Int.mul_le_mul_of_nonneg_right (by omega) (by omega)
              have k2 : v7262.toInt * v7258.toInt ≤ v7259.toInt * v7258.toInt := Int.mul_le_mul_of_nonneg_right (by omega) (by omega)
              exact ⟨by omega, by omega, by omega⟩)⟩
  · refine WQ_iconst (0) (0) dX6_habit_5 rfl rfl (fun v7269 hv7269 => ?_)
    exact WP_iret dX6_habit_6 rfl ⟨⟨rfl, rfl, rfl⟩, _, rfl, by omega, by omega, (by have hz : v7269.toInt = 0 := (by omega); rw [hz]; refine ⟨by omega, by omega, ?_⟩; simp; omega)⟩
