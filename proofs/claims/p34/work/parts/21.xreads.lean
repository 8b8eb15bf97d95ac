/-- the class: its town is the first, nobody and nothing in it -/
def XC (g : GG) (I : pI) (R : pR) : Prop := R (ad g P_market) 0 = some (ad g P_ta) ∧ I (ad g P_ta) 1 = 0 ∧ I (ad g P_ta) 2 = 0 ∧ I (ad g P_ta) 3 = (-1) ∧ I (ad g P_ta) 4 = (-1)
def XF (g : GG) (I : pI) (J : pJ) (R : pR) : Prop := XC g I R ∧ (I (ad g P_tape) 1 = 0) ∧ (I (ad g P_reader) 0 = 0) ∧ (I (ad g P_reader) 1 = (-1)) ∧ (I (ad g P_ta) 0 = 0) ∧ (I (ad g P_x) 11 = (-1)) ∧ (I (ad g P_course) 0 = 0) ∧ (I (ad g P_course) 1 = 0) ∧ (I (ad g P_course) 2 = 0) ∧ (J (ad g P_course) 3 = 0) ∧ (I (ad g P_market_storeCosts) 0 = 0) ∧ (I (ad g P_slot0) 0 = (-1)) ∧ (I (ad g P_slot1) 0 = (-1)) ∧ (I (ad g P_slot2) 0 = (-1)) ∧ (R (ad g P_x) 10 = some (ad g P_tb)) ∧ (∀ q, I (ad g P_ta_losses) q = 0) ∧ (∀ q, I (ad g P_market_losses) q = 0) ∧ (∀ d c, d < 7 → c < 61 → I (ad g P_market_behindStamps) (61 * d + c) = nI c)
set_option maxHeartbeats 4000000 in
set_option maxRecDepth 100000 in
theorem x_within {g : GG} {I : pI} {J : pJ} {R : pR} (hy : LyX g) (hr : RfX g R) (a b c : Int32) : SP g mX10_within [.int a, .int b, .int c] I J R (pq (.int (if b.toInt ≤ a.toInt ∧ a.toInt ≤ c.toInt then 1 else 0)) I J R) := by
  refine SP_of ⟨by decide, rfl⟩ (Nat.le_of_ble_eq_true rfl) ?_
  have c0 : True := trivial
  refine WP_iload_n dX10_within_0 rfl ?_
  refine WP_iload_n dX10_within_1 rfl ?_
  refine WP_icmp_lt 14 dX10_within_2 rfl (fun c2 => ?_) (fun c2 => ?_)
  · refine WP_iconst (0) dX10_within_14 rfl ?_
    exact WP_zret dX10_within_15 rfl rfl ⟨(by (all_goals (try simp only [le32, lt32, eq32, Int32.reduceToInt] at c0 c2)); first | (rw [if_pos (by omega)]; done) | (rw [if_neg (by omega)]; done)), rfl, rfl, rfl⟩
  · refine WP_iload_n dX10_within_5 rfl ?_
    refine WP_iload_n dX10_within_6 rfl ?_
    refine WP_icmp_gt 14 dX10_within_7 rfl (fun c7 => ?_) (fun c7 => ?_)
    · refine WP_iconst (0) dX10_within_14 rfl ?_
      exact WP_zret dX10_within_15 rfl rfl ⟨(by (all_goals (try simp only [le32, lt32, eq32, Int32.reduceToInt] at c0 c2 c7)); first | (rw [if_pos (by omega)]; done) | (rw [if_neg (by omega)]; done)), rfl, rfl, rfl⟩
    · refine WP_iconst (1) dX10_within_10 rfl ?_
      refine WP_goto 15 dX10_within_11 rfl ?_
      exact WP_zret dX10_within_15 rfl rfl ⟨(by (all_goals (try simp only [le32, lt32, eq32, Int32.reduceToInt] at c0 c2 c7)); first | (rw [if_pos (by omega)]; done) | (rw [if_neg (by omega)]; done)), rfl, rfl, rfl⟩
set_option maxHeartbeats 4000000 in
set_option maxRecDepth 100000 in
theorem x_isDay {g : GG} {I : pI} {J : pJ} {R : pR} (hy : LyX g) (hr : RfX g R) (a : Int32) : SP g mX10_isDay [.int a] I J R (pq (.int (if 0 ≤ a.toInt ∧ a.toInt < 7 then 1 else 0)) I J R) := by
  refine SP_of ⟨by decide, rfl⟩ (Nat.le_of_ble_eq_true rfl) ?_
  have c0 : True := trivial
  refine WP_iload_n dX10_isDay_0 rfl ?_
  refine WP_if_lt 14 dX10_isDay_1 rfl (fun c1 => ?_) (fun c1 => ?_)
  · refine WP_iconst (0) dX10_isDay_14 rfl ?_
    exact WP_zret dX10_isDay_15 rfl rfl ⟨(by (all_goals (try simp only [le32, lt32, eq32, Int32.reduceToInt] at c0 c1)); first | (rw [if_pos (by omega)]; done) | (rw [if_neg (by omega)]; done)), rfl, rfl, rfl⟩
  · refine WP_iload_n dX10_isDay_4 rfl ?_
    refine WP_bipush (7) dX10_isDay_5 rfl ?_
    refine WP_icmp_ge 14 dX10_isDay_7 rfl (fun c7 => ?_) (fun c7 => ?_)
    · refine WP_iconst (0) dX10_isDay_14 rfl ?_
      exact WP_zret dX10_isDay_15 rfl rfl ⟨(by (all_goals (try simp only [le32, lt32, eq32, Int32.reduceToInt] at c0 c1 c7)); first | (rw [if_pos (by omega)]; done) | (rw [if_neg (by omega)]; done)), rfl, rfl, rfl⟩
    · refine WP_iconst (1) dX10_isDay_10 rfl ?_
      refine WP_goto 15 dX10_isDay_11 rfl ?_
      exact WP_zret dX10_isDay_15 rfl rfl ⟨(by (all_goals (try simp only [le32, lt32, eq32, Int32.reduceToInt] at c0 c1 c7)); first | (rw [if_pos (by omega)]; done) | (rw [if_neg (by omega)]; done)), rfl, rfl, rfl⟩
set_option maxHeartbeats 4000000 in
set_option maxRecDepth 100000 in
theorem x_isWay {g : GG} {I : pI} {J : pJ} {R : pR} (hy : LyX g) (hr : RfX g R) (a : Int32) : SP g mX10_isWay [.int a] I J R (pq (.int (if 0 ≤ a.toInt ∧ a.toInt ≤ 4 then 1 else 0)) I J R) := by
  refine SP_of ⟨by decide, rfl⟩ (Nat.le_of_ble_eq_true rfl) ?_
  have c0 : True := trivial
  refine WP_iload_n dX10_isWay_0 rfl ?_
  refine WP_iconst (0) dX10_isWay_1 rfl ?_
  refine WP_iconst (4) dX10_isWay_2 rfl ?_
  refine WP_callS3p dX10_isWay_3 ⟨⟨⟨by decide, by decide⟩, zX10_within⟩, lX10_206, tX10_within⟩ (x_within hy hr _ _ _) (Nat.le_of_ble_eq_true rfl) ?_
  exact WP_zret dX10_isWay_6 rfl (by split <;> rfl) ⟨(by simp only [Int32.reduceToInt]), rfl, rfl, rfl⟩
set_option maxHeartbeats 4000000 in
set_option maxRecDepth 100000 in
theorem x_isWeeks {g : GG} {I : pI} {J : pJ} {R : pR} (hy : LyX g) (hr : RfX g R) (a : Int32) : SP g mX10_isWeeks [.int a] I J R (pq (.int (if 1 ≤ a.toInt ∧ a.toInt ≤ 4 then 1 else 0)) I J R) := by
  refine SP_of ⟨by decide, rfl⟩ (Nat.le_of_ble_eq_true rfl) ?_
  have c0 : True := trivial
  refine WP_iload_n dX10_isWeeks_0 rfl ?_
  refine WP_iconst (1) dX10_isWeeks_1 rfl ?_
  refine WP_iconst (4) dX10_isWeeks_2 rfl ?_
  refine WP_callS3p dX10_isWeeks_3 ⟨⟨⟨by decide, by decide⟩, zX10_within⟩, lX10_206, tX10_within⟩ (x_within hy hr _ _ _) (Nat.le_of_ble_eq_true rfl) ?_
  exact WP_zret dX10_isWeeks_6 rfl (by split <;> rfl) ⟨(by simp only [Int32.reduceToInt]), rfl, rfl, rfl⟩
set_option maxHeartbeats 4000000 in
set_option maxRecDepth 100000 in
theorem x_isHeld {g : GG} {I : pI} {J : pJ} {R : pR} (hy : LyX g) (hr : RfX g R) (a b : Int32) : SP g mX10_isHeld [.int a, .int b] I J R (pq (.int (if (0 ≤ a.toInt ∧ a.toInt ≤ 60) ∧ (0 ≤ b.toInt ∧ b.toInt ≤ 5) then 1 else 0)) I J R) := by
  refine SP_of ⟨by decide, rfl⟩ (Nat.le_of_ble_eq_true rfl) ?_
  have c0 : True := trivial
  refine WP_iload_n dX10_isHeld_0 rfl ?_
  refine WP_iconst (0) dX10_isHeld_1 rfl ?_
  refine WP_bipush (60) dX10_isHeld_2 rfl ?_
  refine WP_callS3p dX10_isHeld_4 ⟨⟨⟨by decide, by decide⟩, zX10_within⟩, lX10_206, tX10_within⟩ (x_within hy hr _ _ _) (Nat.le_of_ble_eq_true rfl) ?_
  refine WP_ifb_eq 23 dX10_isHeld_7 rfl (fun c7 => ?_) (fun c7 => ?_)
  · refine WP_iconst (0) dX10_isHeld_23 rfl ?_
    exact WP_zret dX10_isHeld_24 rfl rfl ⟨(by (try simp only [Int32.reduceToInt] at c0 c7); first | (rw [if_pos (by omega)]; done) | (rw [if_neg (by omega)]; done)), rfl, rfl, rfl⟩
  · refine WP_iload_n dX10_isHeld_10 rfl ?_
    refine WP_iconst (0) dX10_isHeld_11 rfl ?_
    refine WP_iconst (5) dX10_isHeld_12 rfl ?_
    refine WP_callS3p dX10_isHeld_13 ⟨⟨⟨by decide, by decide⟩, zX10_within⟩, lX10_206, tX10_within⟩ (x_within hy hr _ _ _) (Nat.le_of_ble_eq_true rfl) ?_
    refine WP_ifb_eq 23 dX10_isHeld_16 rfl (fun c16 => ?_) (fun c16 => ?_)
    · refine WP_iconst (0) dX10_isHeld_23 rfl ?_
      exact WP_zret dX10_isHeld_24 rfl rfl ⟨(by (try simp only [Int32.reduceToInt] at c0 c7 c16); first | (rw [if_pos (by omega)]; done) | (rw [if_neg (by omega)]; done)), rfl, rfl, rfl⟩
    · refine WP_iconst (1) dX10_isHeld_19 rfl ?_
      refine WP_goto 24 dX10_isHeld_20 rfl ?_
      exact WP_zret dX10_isHeld_24 rfl rfl ⟨(by (try simp only [Int32.reduceToInt] at c0 c7 c16); first | (rw [if_pos (by omega)]; done) | (rw [if_neg (by omega)]; done)), rfl, rfl, rfl⟩
set_option maxHeartbeats 4000000 in
set_option maxRecDepth 100000 in
theorem x_isMeeting {g : GG} {I : pI} {J : pJ} {R : pR} (hy : LyX g) (hr : RfX g R) (a b c : Int32) : SP g mX10_isMeeting [.int a, .int b, .int c] I J R (pq (.int (if (0 ≤ a.toInt ∧ a.toInt ≤ 100) ∧ (0 ≤ b.toInt ∧ b.toInt ≤ 900) ∧ (0 ≤ c.toInt ∧ c.toInt ≤ 40) then 1 else 0)) I J R) := by
  refine SP_of ⟨by decide, rfl⟩ (Nat.le_of_ble_eq_true rfl) ?_
  have c0 : True := trivial
  refine WP_iload_n dX10_isMeeting_0 rfl ?_
  refine WP_iconst (0) dX10_isMeeting_1 rfl ?_
  refine WP_bipush (100) dX10_isMeeting_2 rfl ?_
  refine WP_callS3p dX10_isMeeting_4 ⟨⟨⟨by decide, by decide⟩, zX10_within⟩, lX10_206, tX10_within⟩ (x_within hy hr _ _ _) (Nat.le_of_ble_eq_true rfl) ?_
  refine WP_ifb_eq 35 dX10_isMeeting_7 rfl (fun c7 => ?_) (fun c7 => ?_)
  · refine WP_iconst (0) dX10_isMeeting_35 rfl ?_
    exact WP_zret dX10_isMeeting_36 rfl rfl ⟨(by (try simp only [Int32.reduceToInt] at c0 c7); first | (rw [if_pos (by omega)]; done) | (rw [if_neg (by omega)]; done)), rfl, rfl, rfl⟩
  · refine WP_iload_n dX10_isMeeting_10 rfl ?_
    refine WP_iconst (0) dX10_isMeeting_11 rfl ?_
    refine WP_sipush (900) dX10_isMeeting_12 rfl ?_
    refine WP_callS3p dX10_isMeeting_15 ⟨⟨⟨by decide, by decide⟩, zX10_within⟩, lX10_206, tX10_within⟩ (x_within hy hr _ _ _) (Nat.le_of_ble_eq_true rfl) ?_
    refine WP_ifb_eq 35 dX10_isMeeting_18 rfl (fun c18 => ?_) (fun c18 => ?_)
    · refine WP_iconst (0) dX10_isMeeting_35 rfl ?_
      exact WP_zret dX10_isMeeting_36 rfl rfl ⟨(by (try simp only [Int32.reduceToInt] at c0 c7 c18); first | (rw [if_pos (by omega)]; done) | (rw [if_neg (by omega)]; done)), rfl, rfl, rfl⟩
    · refine WP_iload_n dX10_isMeeting_21 rfl ?_
      refine WP_iconst (0) dX10_isMeeting_22 rfl ?_
      refine WP_bipush (40) dX10_isMeeting_23 rfl ?_
      refine WP_callS3p dX10_isMeeting_25 ⟨⟨⟨by decide, by decide⟩, zX10_within⟩, lX10_206, tX10_within⟩ (x_within hy hr _ _ _) (Nat.le_of_ble_eq_true rfl) ?_
      refine WP_ifb_eq 35 dX10_isMeeting_28 rfl (fun c28 => ?_) (fun c28 => ?_)
      · refine WP_iconst (0) dX10_isMeeting_35 rfl ?_
        exact WP_zret dX10_isMeeting_36 rfl rfl ⟨(by (try simp only [Int32.reduceToInt] at c0 c7 c18 c28); first | (rw [if_pos (by omega)]; done) | (rw [if_neg (by omega)]; done)), rfl, rfl, rfl⟩
      · refine WP_iconst (1) dX10_isMeeting_31 rfl ?_
        refine WP_goto 36 dX10_isMeeting_32 rfl ?_
        exact WP_zret dX10_isMeeting_36 rfl rfl ⟨(by (try simp only [Int32.reduceToInt] at c0 c7 c18 c28); first | (rw [if_pos (by omega)]; done) | (rw [if_neg (by omega)]; done)), rfl, rfl, rfl⟩
set_option maxHeartbeats 4000000 in
set_option maxRecDepth 100000 in
theorem x_isSort {g : GG} {I : pI} {J : pJ} {R : pR} (hy : LyX g) (hr : RfX g R) (hxc : XC g I R) (a : Int32) : SP g mX10_isSort [.ref (ad g P_x), .int a] I J R (pq (.int 0) I J R) := by
  refine SP_of ⟨by decide, rfl⟩ (Nat.le_of_ble_eq_true rfl) ?_
  have c0 : True := trivial
  obtain ⟨h_town, h_sorts, h_things, h_chest, h_stored⟩ := hxc
  refine WP_iload_n dX10_isSort_0 rfl ?_
  refine WP_if_lt 22 dX10_isSort_1 rfl (fun c1 => ?_) (fun c1 => ?_)
  · refine WP_iconst (0) dX10_isSort_22 rfl ?_
    exact WP_zret dX10_isSort_23 rfl rfl ⟨(by (try simp only [h_sorts, h_things, h_chest, h_stored] at c0 c1); (all_goals (try simp only [le32, lt32, eq32, Int32.reduceToInt] at c0 c1)); all_goals (first | rfl | (exfalso; omega))), rfl, rfl, rfl⟩
  · refine WP_iload_n dX10_isSort_4 rfl ?_
    refine WP_aload_n dX10_isSort_5 rfl ?_
    refine WP_getr dX10_isSort_6 fX10_33 rfl (lyx_is hy _ _ rfl) (rfx hr 0 2 5 (by decide)) ?_
    refine WP_getr dX10_isSort_9 fX10_102 rfl (lyx_is hy _ _ rfl) h_town ?_
    refine WP_geti dX10_isSort_12 fX10_114 rfl (lyx_is hy _ _ rfl) ?_
    refine WP_icmp_ge 22 dX10_isSort_15 rfl (fun c15 => ?_) (fun c15 => ?_)
    · refine WP_iconst (0) dX10_isSort_22 rfl ?_
      exact WP_zret dX10_isSort_23 rfl rfl ⟨(by (try simp only [h_sorts, h_things, h_chest, h_stored] at c0 c1 c15); (all_goals (try simp only [le32, lt32, eq32, Int32.reduceToInt] at c0 c1 c15)); all_goals (first | rfl | (exfalso; omega))), rfl, rfl, rfl⟩
    · refine WP_iconst (1) dX10_isSort_18 rfl ?_
      refine WP_goto 23 dX10_isSort_19 rfl ?_
      exact WP_zret dX10_isSort_23 rfl rfl ⟨(by (try simp only [h_sorts, h_things, h_chest, h_stored] at c0 c1 c15); (all_goals (try simp only [le32, lt32, eq32, Int32.reduceToInt] at c0 c1 c15)); all_goals (first | rfl | (exfalso; omega))), rfl, rfl, rfl⟩
set_option maxHeartbeats 4000000 in
set_option maxRecDepth 100000 in
theorem x_isThing {g : GG} {I : pI} {J : pJ} {R : pR} (hy : LyX g) (hr : RfX g R) (hxc : XC g I R) (a : Int32) : SP g mX10_isThing [.ref (ad g P_x), .int a] I J R (pq (.int 0) I J R) := by
  refine SP_of ⟨by decide, rfl⟩ (Nat.le_of_ble_eq_true rfl) ?_
  have c0 : True := trivial
  obtain ⟨h_town, h_sorts, h_things, h_chest, h_stored⟩ := hxc
  refine WP_iload_n dX10_isThing_0 rfl ?_
  refine WP_if_lt 22 dX10_isThing_1 rfl (fun c1 => ?_) (fun c1 => ?_)
  · refine WP_iconst (0) dX10_isThing_22 rfl ?_
    exact WP_zret dX10_isThing_23 rfl rfl ⟨(by (try simp only [h_sorts, h_things, h_chest, h_stored] at c0 c1); (all_goals (try simp only [le32, lt32, eq32, Int32.reduceToInt] at c0 c1)); all_goals (first | rfl | (exfalso; omega))), rfl, rfl, rfl⟩
  · refine WP_iload_n dX10_isThing_4 rfl ?_
    refine WP_aload_n dX10_isThing_5 rfl ?_
    refine WP_getr dX10_isThing_6 fX10_33 rfl (lyx_is hy _ _ rfl) (rfx hr 0 2 5 (by decide)) ?_
    refine WP_getr dX10_isThing_9 fX10_102 rfl (lyx_is hy _ _ rfl) h_town ?_
    refine WP_geti dX10_isThing_12 fX10_117 rfl (lyx_is hy _ _ rfl) ?_
    refine WP_icmp_ge 22 dX10_isThing_15 rfl (fun c15 => ?_) (fun c15 => ?_)
    · refine WP_iconst (0) dX10_isThing_22 rfl ?_
      exact WP_zret dX10_isThing_23 rfl rfl ⟨(by (try simp only [h_sorts, h_things, h_chest, h_stored] at c0 c1 c15); (all_goals (try simp only [le32, lt32, eq32, Int32.reduceToInt] at c0 c1 c15)); all_goals (first | rfl | (exfalso; omega))), rfl, rfl, rfl⟩
    · refine WP_iconst (1) dX10_isThing_18 rfl ?_
      refine WP_goto 23 dX10_isThing_19 rfl ?_
      exact WP_zret dX10_isThing_23 rfl rfl ⟨(by (try simp only [h_sorts, h_things, h_chest, h_stored] at c0 c1 c15); (all_goals (try simp only [le32, lt32, eq32, Int32.reduceToInt] at c0 c1 c15)); all_goals (first | rfl | (exfalso; omega))), rfl, rfl, rfl⟩
set_option maxHeartbeats 4000000 in
set_option maxRecDepth 100000 in
theorem x_isPerson {g : GG} {I : pI} {J : pJ} {R : pR} (hy : LyX g) (hr : RfX g R) (hxc : XC g I R) (a b c e : Int32) : SP g mX10_isPerson [.ref (ad g P_x), .int a, .int b, .int c, .int e] I J R (pq (.int 0) I J R) := by
  refine SP_of ⟨by decide, rfl⟩ (Nat.le_of_ble_eq_true rfl) ?_
  have c0 : True := trivial
  have hxc0 := hxc
  obtain ⟨h_town, h_sorts, h_things, h_chest, h_stored⟩ := hxc
  refine WP_aload_n dX10_isPerson_0 rfl ?_
  refine WP_iload_n dX10_isPerson_1 rfl ?_
  refine WP_callV1p (k := 10) dX10_isPerson_2 ⟨⟨⟨by decide, by decide⟩, zX10_isSort⟩, lX10_152, by decide, rfl, vX10_isSort.1, vX10_isSort.2⟩ (lyx_is hy _ _ rfl) (x_isSort hy hr hxc0 _) (Nat.le_of_ble_eq_true rfl) ?_
  refine WP_if_eq 28 dX10_isPerson_5 rfl (fun c5 => ?_) (fun c5 => absurd c5 (fun h => h rfl))
  refine WP_iconst (0) dX10_isPerson_28 rfl ?_
  exact WP_zret dX10_isPerson_29 rfl rfl ⟨rfl, rfl, rfl, rfl⟩
set_option maxHeartbeats 4000000 in
set_option maxRecDepth 100000 in
theorem xr_restTurns {g : GG} {I : pI} {J : pJ} {R : pR} (hy : LyX g) (hr : RfX g R) (hf : XF g I J R)  : SP g mX10_restTurns [.ref (ad g P_x)] I J R (rq (-1)) := by
  refine SP_of ⟨by decide, rfl⟩ (Nat.le_of_ble_eq_true rfl) ?_
  have c0 : True := trivial
  have hf0 := hf
  obtain ⟨hxc, h_length, h_kind, h_place, h_clauses, h_turns, h_days, h_chestC, h_bought, h_held, h_cost0, h_s0, h_s1, h_s2, h_spare, h_loss, h_mloss, h_stamps⟩ := hf
  have hxc0 := hxc
  obtain ⟨h_town, h_sorts, h_things, h_chest, h_stored⟩ := hxc
  refine WP_aload_n dX10_restTurns_0 rfl ?_
  refine WP_geti dX10_restTurns_1 fX10_263 rfl (lyx_is hy _ _ rfl) ?_
  exact WP_iret dX10_restTurns_4 rfl (by unfold rq; (try simp only [h_sorts, h_things, h_chest, h_stored, h_length, h_kind, h_place, h_clauses, h_turns, h_days, h_chestC, h_bought, h_held, h_loss, h_mloss, h_cost0] at c0 ⊢); (all_goals (try simp only [cmp_lt, cmp_gt] at c0 ⊢)); (all_goals (try simp only [le32, lt32, eq32, t64, vp_in_iff, Int32.reduceToInt, Int64.reduceToInt] at c0)); (all_goals (try simp (disch := ((try simp (disch := ((try simp (disch := omega) only [ia, is', im, ja, js, ir, idv, Int32.reduceToInt, Int64.reduceToInt, t64]); omega)) only [ia, is', im, ja, js, ir, idv, Int32.reduceToInt, Int64.reduceToInt, t64]); omega)) only [ia, is', im, ja, js, ir, idv, Int32.reduceToInt, Int64.reduceToInt, t64] at c0 ⊢)); (all_goals (try simp only [h_sorts, h_things, h_chest, h_stored, h_length, h_kind, h_place, h_clauses, h_turns, h_days, h_chestC, h_bought, h_held, h_loss, h_mloss, h_cost0] at c0 ⊢)); (all_goals (first | rfl | (rw [if_pos (by omega)]; done) | (rw [if_neg (by omega)]; done) | (rw [if_neg (by omega), if_pos (by omega)]; done) | (rw [if_neg (by omega), if_neg (by omega)]; done) | (exfalso; omega))))
set_option maxHeartbeats 4000000 in
set_option maxRecDepth 100000 in
theorem xr_count {g : GG} {I : pI} {J : pJ} {R : pR} (hy : LyX g) (hr : RfX g R) (hf : XF g I J R) (a : Int32) : SP g mX10_count [.ref (ad g P_x), .int a] I J R (rq (if a.toInt = 0 ∨ a.toInt = 1 then 0 else -1)) := by
  refine SP_of ⟨by decide, rfl⟩ (Nat.le_of_ble_eq_true rfl) ?_
  have c0 : True := trivial
  have hf0 := hf
  obtain ⟨hxc, h_length, h_kind, h_place, h_clauses, h_turns, h_days, h_chestC, h_bought, h_held, h_cost0, h_s0, h_s1, h_s2, h_spare, h_loss, h_mloss, h_stamps⟩ := hf
  have hxc0 := hxc
  obtain ⟨h_town, h_sorts, h_things, h_chest, h_stored⟩ := hxc
  refine WP_iload_n dX10_count_0 rfl ?_
  refine WP_if_ne 17 dX10_count_1 rfl (fun c1 => ?_) (fun c1 => ?_)
  · refine WP_iload_n dX10_count_17 rfl ?_
    refine WP_iconst (1) dX10_count_18 rfl ?_
    refine WP_icmp_ne 32 dX10_count_19 rfl (fun c19 => ?_) (fun c19 => ?_)
    · refine WP_iconst (-1) dX10_count_32 rfl ?_
      exact WP_iret dX10_count_33 rfl (by unfold rq; (try simp only [h_sorts, h_things, h_chest, h_stored, h_length, h_kind, h_place, h_clauses, h_turns, h_days, h_chestC, h_bought, h_held, h_loss, h_mloss, h_cost0] at c0 c1 c19 ⊢); (all_goals (try simp only [cmp_lt, cmp_gt] at c0 c1 c19 ⊢)); (all_goals (try simp only [le32, lt32, eq32, t64, vp_in_iff, Int32.reduceToInt, Int64.reduceToInt] at c0 c1 c19)); (all_goals (try simp (disch := ((try simp (disch := ((try simp (disch := omega) only [ia, is', im, ja, js, ir, idv, Int32.reduceToInt, Int64.reduceToInt, t64]); omega)) only [ia, is', im, ja, js, ir, idv, Int32.reduceToInt, Int64.reduceToInt, t64]); omega)) only [ia, is', im, ja, js, ir, idv, Int32.reduceToInt, Int64.reduceToInt, t64] at c0 c1 c19 ⊢)); (all_goals (try simp only [h_sorts, h_things, h_chest, h_stored, h_length, h_kind, h_place, h_clauses, h_turns, h_days, h_chestC, h_bought, h_held, h_loss, h_mloss, h_cost0] at c0 c1 c19 ⊢)); (all_goals (first | rfl | (rw [if_pos (by omega)]; done) | (rw [if_neg (by omega)]; done) | (rw [if_neg (by omega), if_pos (by omega)]; done) | (rw [if_neg (by omega), if_neg (by omega)]; done) | (exfalso; omega))))
    · refine WP_aload_n dX10_count_22 rfl ?_
      refine WP_getr dX10_count_23 fX10_12 rfl (lyx_is hy _ _ rfl) (rfx hr 0 0 1 (by decide)) ?_
      refine WP_geti dX10_count_26 fX10_90 rfl (lyx_is hy _ _ rfl) ?_
      refine WP_goto 33 dX10_count_29 rfl ?_
      exact WP_iret dX10_count_33 rfl (by unfold rq; (try simp only [h_sorts, h_things, h_chest, h_stored, h_length, h_kind, h_place, h_clauses, h_turns, h_days, h_chestC, h_bought, h_held, h_loss, h_mloss, h_cost0] at c0 c1 c19 ⊢); (all_goals (try simp only [cmp_lt, cmp_gt] at c0 c1 c19 ⊢)); (all_goals (try simp only [le32, lt32, eq32, t64, vp_in_iff, Int32.reduceToInt, Int64.reduceToInt] at c0 c1 c19)); (all_goals (try simp (disch := ((try simp (disch := ((try simp (disch := omega) only [ia, is', im, ja, js, ir, idv, Int32.reduceToInt, Int64.reduceToInt, t64]); omega)) only [ia, is', im, ja, js, ir, idv, Int32.reduceToInt, Int64.reduceToInt, t64]); omega)) only [ia, is', im, ja, js, ir, idv, Int32.reduceToInt, Int64.reduceToInt, t64] at c0 c1 c19 ⊢)); (all_goals (try simp only [h_sorts, h_things, h_chest, h_stored, h_length, h_kind, h_place, h_clauses, h_turns, h_days, h_chestC, h_bought, h_held, h_loss, h_mloss, h_cost0] at c0 c1 c19 ⊢)); (all_goals (first | rfl | (rw [if_pos (by omega)]; done) | (rw [if_neg (by omega)]; done) | (rw [if_neg (by omega), if_pos (by omega)]; done) | (rw [if_neg (by omega), if_neg (by omega)]; done) | (exfalso; omega))))
  · refine WP_aload_n dX10_count_4 rfl ?_
    refine WP_getr dX10_count_5 fX10_33 rfl (lyx_is hy _ _ rfl) (rfx hr 0 2 5 (by decide)) ?_
    refine WP_getr dX10_count_8 fX10_102 rfl (lyx_is hy _ _ rfl) h_town ?_
    refine WP_geti dX10_count_11 fX10_105 rfl (lyx_is hy _ _ rfl) ?_
    refine WP_goto 33 dX10_count_14 rfl ?_
    exact WP_iret dX10_count_33 rfl (by unfold rq; (try simp only [h_sorts, h_things, h_chest, h_stored, h_length, h_kind, h_place, h_clauses, h_turns, h_days, h_chestC, h_bought, h_held, h_loss, h_mloss, h_cost0] at c0 c1 ⊢); (all_goals (try simp only [cmp_lt, cmp_gt] at c0 c1 ⊢)); (all_goals (try simp only [le32, lt32, eq32, t64, vp_in_iff, Int32.reduceToInt, Int64.reduceToInt] at c0 c1)); (all_goals (try simp (disch := ((try simp (disch := ((try simp (disch := omega) only [ia, is', im, ja, js, ir, idv, Int32.reduceToInt, Int64.reduceToInt, t64]); omega)) only [ia, is', im, ja, js, ir, idv, Int32.reduceToInt, Int64.reduceToInt, t64]); omega)) only [ia, is', im, ja, js, ir, idv, Int32.reduceToInt, Int64.reduceToInt, t64] at c0 c1 ⊢)); (all_goals (try simp only [h_sorts, h_things, h_chest, h_stored, h_length, h_kind, h_place, h_clauses, h_turns, h_days, h_chestC, h_bought, h_held, h_loss, h_mloss, h_cost0] at c0 c1 ⊢)); (all_goals (first | rfl | (rw [if_pos (by omega)]; done) | (rw [if_neg (by omega)]; done) | (rw [if_neg (by omega), if_pos (by omega)]; done) | (rw [if_neg (by omega), if_neg (by omega)]; done) | (exfalso; omega))))
set_option maxHeartbeats 4000000 in
set_option maxRecDepth 100000 in
theorem xr_fault {g : GG} {I : pI} {J : pJ} {R : pR} (hy : LyX g) (hr : RfX g R) (hf : XF g I J R) (a : Int32) : SP g mX10_fault [.ref (ad g P_x), .int a] I J R (rq (if a.toInt = 0 then 0 else -1)) := by
  refine SP_of ⟨by decide, rfl⟩ (Nat.le_of_ble_eq_true rfl) ?_
  have c0 : True := trivial
  have hf0 := hf
  obtain ⟨hxc, h_length, h_kind, h_place, h_clauses, h_turns, h_days, h_chestC, h_bought, h_held, h_cost0, h_s0, h_s1, h_s2, h_spare, h_loss, h_mloss, h_stamps⟩ := hf
  have hxc0 := hxc
  obtain ⟨h_town, h_sorts, h_things, h_chest, h_stored⟩ := hxc
  refine WP_iload_n dX10_fault_0 rfl ?_
  refine WP_if_ne 14 dX10_fault_1 rfl (fun c1 => ?_) (fun c1 => ?_)
  · refine WP_iload_n dX10_fault_14 rfl ?_
    refine WP_iconst (1) dX10_fault_15 rfl ?_
    refine WP_icmp_ne 29 dX10_fault_16 rfl (fun c16 => ?_) (fun c16 => ?_)
    · refine WP_iconst (-1) dX10_fault_29 rfl ?_
      exact WP_iret dX10_fault_30 rfl (by unfold rq; (try simp only [h_sorts, h_things, h_chest, h_stored, h_length, h_kind, h_place, h_clauses, h_turns, h_days, h_chestC, h_bought, h_held, h_loss, h_mloss, h_cost0] at c0 c1 c16 ⊢); (all_goals (try simp only [cmp_lt, cmp_gt] at c0 c1 c16 ⊢)); (all_goals (try simp only [le32, lt32, eq32, t64, vp_in_iff, Int32.reduceToInt, Int64.reduceToInt] at c0 c1 c16)); (all_goals (try simp (disch := ((try simp (disch := ((try simp (disch := omega) only [ia, is', im, ja, js, ir, idv, Int32.reduceToInt, Int64.reduceToInt, t64]); omega)) only [ia, is', im, ja, js, ir, idv, Int32.reduceToInt, Int64.reduceToInt, t64]); omega)) only [ia, is', im, ja, js, ir, idv, Int32.reduceToInt, Int64.reduceToInt, t64] at c0 c1 c16 ⊢)); (all_goals (try simp only [h_sorts, h_things, h_chest, h_stored, h_length, h_kind, h_place, h_clauses, h_turns, h_days, h_chestC, h_bought, h_held, h_loss, h_mloss, h_cost0] at c0 c1 c16 ⊢)); (all_goals (first | rfl | (rw [if_pos (by omega)]; done) | (rw [if_neg (by omega)]; done) | (rw [if_neg (by omega), if_pos (by omega)]; done) | (rw [if_neg (by omega), if_neg (by omega)]; done) | (exfalso; omega))))
    · refine WP_aload_n dX10_fault_19 rfl ?_
      refine WP_getr dX10_fault_20 fX10_21 rfl (lyx_is hy _ _ rfl) (rfx hr 0 1 3 (by decide)) ?_
      refine WP_geti dX10_fault_23 fX10_111 rfl (lyx_is hy _ _ rfl) ?_
      refine WP_goto 30 dX10_fault_26 rfl ?_
      exact WP_iret dX10_fault_30 rfl (by unfold rq; (try simp only [h_sorts, h_things, h_chest, h_stored, h_length, h_kind, h_place, h_clauses, h_turns, h_days, h_chestC, h_bought, h_held, h_loss, h_mloss, h_cost0] at c0 c1 c16 ⊢); (all_goals (try simp only [cmp_lt, cmp_gt] at c0 c1 c16 ⊢)); (all_goals (try simp only [le32, lt32, eq32, t64, vp_in_iff, Int32.reduceToInt, Int64.reduceToInt] at c0 c1 c16)); (all_goals (try simp (disch := ((try simp (disch := ((try simp (disch := omega) only [ia, is', im, ja, js, ir, idv, Int32.reduceToInt, Int64.reduceToInt, t64]); omega)) only [ia, is', im, ja, js, ir, idv, Int32.reduceToInt, Int64.reduceToInt, t64]); omega)) only [ia, is', im, ja, js, ir, idv, Int32.reduceToInt, Int64.reduceToInt, t64] at c0 c1 c16 ⊢)); (all_goals (try simp only [h_sorts, h_things, h_chest, h_stored, h_length, h_kind, h_place, h_clauses, h_turns, h_days, h_chestC, h_bought, h_held, h_loss, h_mloss, h_cost0] at c0 c1 c16 ⊢)); (all_goals (first | rfl | (rw [if_pos (by omega)]; done) | (rw [if_neg (by omega)]; done) | (rw [if_neg (by omega), if_pos (by omega)]; done) | (rw [if_neg (by omega), if_neg (by omega)]; done) | (exfalso; omega))))
  · refine WP_aload_n dX10_fault_4 rfl ?_
    refine WP_getr dX10_fault_5 fX10_21 rfl (lyx_is hy _ _ rfl) (rfx hr 0 1 3 (by decide)) ?_
    refine WP_geti dX10_fault_8 fX10_108 rfl (lyx_is hy _ _ rfl) ?_
    refine WP_goto 30 dX10_fault_11 rfl ?_
    exact WP_iret dX10_fault_30 rfl (by unfold rq; (try simp only [h_sorts, h_things, h_chest, h_stored, h_length, h_kind, h_place, h_clauses, h_turns, h_days, h_chestC, h_bought, h_held, h_loss, h_mloss, h_cost0] at c0 c1 ⊢); (all_goals (try simp only [cmp_lt, cmp_gt] at c0 c1 ⊢)); (all_goals (try simp only [le32, lt32, eq32, t64, vp_in_iff, Int32.reduceToInt, Int64.reduceToInt] at c0 c1)); (all_goals (try simp (disch := ((try simp (disch := ((try simp (disch := omega) only [ia, is', im, ja, js, ir, idv, Int32.reduceToInt, Int64.reduceToInt, t64]); omega)) only [ia, is', im, ja, js, ir, idv, Int32.reduceToInt, Int64.reduceToInt, t64]); omega)) only [ia, is', im, ja, js, ir, idv, Int32.reduceToInt, Int64.reduceToInt, t64] at c0 c1 ⊢)); (all_goals (try simp only [h_sorts, h_things, h_chest, h_stored, h_length, h_kind, h_place, h_clauses, h_turns, h_days, h_chestC, h_bought, h_held, h_loss, h_mloss, h_cost0] at c0 c1 ⊢)); (all_goals (first | rfl | (rw [if_pos (by omega)]; done) | (rw [if_neg (by omega)]; done) | (rw [if_neg (by omega), if_pos (by omega)]; done) | (rw [if_neg (by omega), if_neg (by omega)]; done) | (exfalso; omega))))
set_option maxHeartbeats 4000000 in
set_option maxRecDepth 100000 in
theorem xr_end {g : GG} {I : pI} {J : pJ} {R : pR} (hy : LyX g) (hr : RfX g R) (hf : XF g I J R) (a : Int32) : SP g mX10_end [.ref (ad g P_x), .int a] I J R (rq (if a.toInt = 0 then 0 else -1)) := by
  refine SP_of ⟨by decide, rfl⟩ (Nat.le_of_ble_eq_true rfl) ?_
  have c0 : True := trivial
  have hf0 := hf
  obtain ⟨hxc, h_length, h_kind, h_place, h_clauses, h_turns, h_days, h_chestC, h_bought, h_held, h_cost0, h_s0, h_s1, h_s2, h_spare, h_loss, h_mloss, h_stamps⟩ := hf
  have hxc0 := hxc
  obtain ⟨h_town, h_sorts, h_things, h_chest, h_stored⟩ := hxc
  refine WP_iload_n dX10_end_0 rfl ?_
  refine WP_if_lt 15 dX10_end_1 rfl (fun c1 => ?_) (fun c1 => ?_)
  · refine WP_iconst (-1) dX10_end_15 rfl ?_
    exact WP_iret dX10_end_16 rfl (by unfold rq; (try simp only [h_sorts, h_things, h_chest, h_stored, h_length, h_kind, h_place, h_clauses, h_turns, h_days, h_chestC, h_bought, h_held, h_loss, h_mloss, h_cost0] at c0 c1 ⊢); (all_goals (try simp only [cmp_lt, cmp_gt] at c0 c1 ⊢)); (all_goals (try simp only [le32, lt32, eq32, t64, vp_in_iff, Int32.reduceToInt, Int64.reduceToInt] at c0 c1)); (all_goals (try simp (disch := ((try simp (disch := ((try simp (disch := omega) only [ia, is', im, ja, js, ir, idv, Int32.reduceToInt, Int64.reduceToInt, t64]); omega)) only [ia, is', im, ja, js, ir, idv, Int32.reduceToInt, Int64.reduceToInt, t64]); omega)) only [ia, is', im, ja, js, ir, idv, Int32.reduceToInt, Int64.reduceToInt, t64] at c0 c1 ⊢)); (all_goals (try simp only [h_sorts, h_things, h_chest, h_stored, h_length, h_kind, h_place, h_clauses, h_turns, h_days, h_chestC, h_bought, h_held, h_loss, h_mloss, h_cost0] at c0 c1 ⊢)); (all_goals (first | rfl | (rw [if_pos (by omega)]; done) | (rw [if_neg (by omega)]; done) | (rw [if_neg (by omega), if_pos (by omega)]; done) | (rw [if_neg (by omega), if_neg (by omega)]; done) | (exfalso; omega))))
  · refine WP_iload_n dX10_end_4 rfl ?_
    refine WP_aload_n dX10_end_5 rfl ?_
    refine WP_getr dX10_end_6 fX10_12 rfl (lyx_is hy _ _ rfl) (rfx hr 0 0 1 (by decide)) ?_
    refine WP_geti dX10_end_9 fX10_90 rfl (lyx_is hy _ _ rfl) ?_
    refine WP_icmp_le 17 dX10_end_12 rfl (fun c12 => ?_) (fun c12 => ?_)
    · refine WP_aload_n dX10_end_17 rfl ?_
      refine WP_getr dX10_end_18 fX10_12 rfl (lyx_is hy _ _ rfl) (rfx hr 0 0 1 (by decide)) ?_
      refine WP_iload_n dX10_end_21 rfl ?_
      refine WP_puti dX10_end_22 fX10_90 rfl rfl (lyx_is hy _ _ rfl) ?_
      refine WP_iload_n dX10_end_25 rfl ?_
      exact WP_iret dX10_end_26 rfl (by have e : a = 0 := (eq32 _ _).mpr (by (try simp only [h_sorts, h_things, h_chest, h_stored, h_length, h_kind, h_place, h_clauses, h_turns, h_days, h_chestC, h_bought, h_held, h_loss, h_mloss, h_cost0] at c0 c1 c12 ⊢); (all_goals (try simp only [le32, lt32, eq32, Int32.reduceToInt] at c0 c1 c12 ⊢)); omega); subst e; rfl)
    · refine WP_iconst (-1) dX10_end_15 rfl ?_
      exact WP_iret dX10_end_16 rfl (by unfold rq; (try simp only [h_sorts, h_things, h_chest, h_stored, h_length, h_kind, h_place, h_clauses, h_turns, h_days, h_chestC, h_bought, h_held, h_loss, h_mloss, h_cost0] at c0 c1 c12 ⊢); (all_goals (try simp only [cmp_lt, cmp_gt] at c0 c1 c12 ⊢)); (all_goals (try simp only [le32, lt32, eq32, t64, vp_in_iff, Int32.reduceToInt, Int64.reduceToInt] at c0 c1 c12)); (all_goals (try simp (disch := ((try simp (disch := ((try simp (disch := omega) only [ia, is', im, ja, js, ir, idv, Int32.reduceToInt, Int64.reduceToInt, t64]); omega)) only [ia, is', im, ja, js, ir, idv, Int32.reduceToInt, Int64.reduceToInt, t64]); omega)) only [ia, is', im, ja, js, ir, idv, Int32.reduceToInt, Int64.reduceToInt, t64] at c0 c1 c12 ⊢)); (all_goals (try simp only [h_sorts, h_things, h_chest, h_stored, h_length, h_kind, h_place, h_clauses, h_turns, h_days, h_chestC, h_bought, h_held, h_loss, h_mloss, h_cost0] at c0 c1 c12 ⊢)); (all_goals (first | rfl | (rw [if_pos (by omega)]; done) | (rw [if_neg (by omega)]; done) | (rw [if_neg (by omega), if_pos (by omega)]; done) | (rw [if_neg (by omega), if_neg (by omega)]; done) | (exfalso; omega))))
set_option maxHeartbeats 4000000 in
set_option maxRecDepth 100000 in
theorem xr_earns {g : GG} {I : pI} {J : pJ} {R : pR} (hy : LyX g) (hr : RfX g R) (hf : XF g I J R) (a b : Int32) : SP g mX10_earns [.ref (ad g P_x), .int a, .int b] I J R (rq (-2)) := by
  refine SP_of ⟨by decide, rfl⟩ (Nat.le_of_ble_eq_true rfl) ?_
  have c0 : True := trivial
  have hf0 := hf
  obtain ⟨hxc, h_length, h_kind, h_place, h_clauses, h_turns, h_days, h_chestC, h_bought, h_held, h_cost0, h_s0, h_s1, h_s2, h_spare, h_loss, h_mloss, h_stamps⟩ := hf
  have hxc0 := hxc
  obtain ⟨h_town, h_sorts, h_things, h_chest, h_stored⟩ := hxc
  refine WP_aload_n dX10_earns_0 rfl ?_
  refine WP_iload_n dX10_earns_1 rfl ?_
  refine WP_callV1p (k := 10) dX10_earns_2 ⟨⟨⟨by decide, by decide⟩, zX10_isSort⟩, lX10_152, by decide, rfl, vX10_isSort.1, vX10_isSort.2⟩ (lyx_is hy _ _ rfl) (x_isSort hy hr hxc0 _) (Nat.le_of_ble_eq_true rfl) ?_
  refine WP_if_eq 35 dX10_earns_5 rfl (fun c5 => ?_) (fun c5 => absurd c5 (fun h => h rfl))
  refine WP_bipush (-2) dX10_earns_35 rfl ?_
  exact WP_iret dX10_earns_37 rfl (by unfold rq; (try simp only [h_sorts, h_things, h_chest, h_stored, h_length, h_kind, h_place, h_clauses, h_turns, h_days, h_chestC, h_bought, h_held, h_loss, h_mloss, h_cost0] at c0 c5 ⊢); (all_goals (try simp only [cmp_lt, cmp_gt] at c0 c5 ⊢)); (all_goals (try simp only [le32, lt32, eq32, t64, vp_in_iff, Int32.reduceToInt, Int64.reduceToInt] at c0 c5)); (all_goals (try simp (disch := ((try simp (disch := ((try simp (disch := omega) only [ia, is', im, ja, js, ir, idv, Int32.reduceToInt, Int64.reduceToInt, t64]); omega)) only [ia, is', im, ja, js, ir, idv, Int32.reduceToInt, Int64.reduceToInt, t64]); omega)) only [ia, is', im, ja, js, ir, idv, Int32.reduceToInt, Int64.reduceToInt, t64] at c0 c5 ⊢)); (all_goals (try simp only [h_sorts, h_things, h_chest, h_stored, h_length, h_kind, h_place, h_clauses, h_turns, h_days, h_chestC, h_bought, h_held, h_loss, h_mloss, h_cost0] at c0 c5 ⊢)); (all_goals (first | rfl | (rw [if_pos (by omega)]; done) | (rw [if_neg (by omega)]; done) | (rw [if_neg (by omega), if_pos (by omega)]; done) | (rw [if_neg (by omega), if_neg (by omega)]; done) | (exfalso; omega))))
set_option maxHeartbeats 4000000 in
set_option maxRecDepth 100000 in
theorem xr_price {g : GG} {I : pI} {J : pJ} {R : pR} (hy : LyX g) (hr : RfX g R) (hf : XF g I J R) (a b : Int32) : SP g mX10_price [.ref (ad g P_x), .int a, .int b] I J R (rq (-2)) := by
  refine SP_of ⟨by decide, rfl⟩ (Nat.le_of_ble_eq_true rfl) ?_
  have c0 : True := trivial
  have hf0 := hf
  obtain ⟨hxc, h_length, h_kind, h_place, h_clauses, h_turns, h_days, h_chestC, h_bought, h_held, h_cost0, h_s0, h_s1, h_s2, h_spare, h_loss, h_mloss, h_stamps⟩ := hf
  have hxc0 := hxc
  obtain ⟨h_town, h_sorts, h_things, h_chest, h_stored⟩ := hxc
  refine WP_aload_n dX10_price_0 rfl ?_
  refine WP_iload_n dX10_price_1 rfl ?_
  refine WP_callV1p (k := 10) dX10_price_2 ⟨⟨⟨by decide, by decide⟩, zX10_isThing⟩, lX10_162, by decide, rfl, vX10_isThing.1, vX10_isThing.2⟩ (lyx_is hy _ _ rfl) (x_isThing hy hr hxc0 _) (Nat.le_of_ble_eq_true rfl) ?_
  refine WP_if_eq 32 dX10_price_5 rfl (fun c5 => ?_) (fun c5 => absurd c5 (fun h => h rfl))
  refine WP_bipush (-2) dX10_price_32 rfl ?_
  exact WP_iret dX10_price_34 rfl (by unfold rq; (try simp only [h_sorts, h_things, h_chest, h_stored, h_length, h_kind, h_place, h_clauses, h_turns, h_days, h_chestC, h_bought, h_held, h_loss, h_mloss, h_cost0] at c0 c5 ⊢); (all_goals (try simp only [cmp_lt, cmp_gt] at c0 c5 ⊢)); (all_goals (try simp only [le32, lt32, eq32, t64, vp_in_iff, Int32.reduceToInt, Int64.reduceToInt] at c0 c5)); (all_goals (try simp (disch := ((try simp (disch := ((try simp (disch := omega) only [ia, is', im, ja, js, ir, idv, Int32.reduceToInt, Int64.reduceToInt, t64]); omega)) only [ia, is', im, ja, js, ir, idv, Int32.reduceToInt, Int64.reduceToInt, t64]); omega)) only [ia, is', im, ja, js, ir, idv, Int32.reduceToInt, Int64.reduceToInt, t64] at c0 c5 ⊢)); (all_goals (try simp only [h_sorts, h_things, h_chest, h_stored, h_length, h_kind, h_place, h_clauses, h_turns, h_days, h_chestC, h_bought, h_held, h_loss, h_mloss, h_cost0] at c0 c5 ⊢)); (all_goals (first | rfl | (rw [if_pos (by omega)]; done) | (rw [if_neg (by omega)]; done) | (rw [if_neg (by omega), if_pos (by omega)]; done) | (rw [if_neg (by omega), if_neg (by omega)]; done) | (exfalso; omega))))
set_option maxHeartbeats 4000000 in
set_option maxRecDepth 100000 in
theorem xr_made {g : GG} {I : pI} {J : pJ} {R : pR} (hy : LyX g) (hr : RfX g R) (hf : XF g I J R) (a b : Int32) : SP g mX10_made [.ref (ad g P_x), .int a, .int b] I J R (rq (-2)) := by
  refine SP_of ⟨by decide, rfl⟩ (Nat.le_of_ble_eq_true rfl) ?_
  have c0 : True := trivial
  have hf0 := hf
  obtain ⟨hxc, h_length, h_kind, h_place, h_clauses, h_turns, h_days, h_chestC, h_bought, h_held, h_cost0, h_s0, h_s1, h_s2, h_spare, h_loss, h_mloss, h_stamps⟩ := hf
  have hxc0 := hxc
  obtain ⟨h_town, h_sorts, h_things, h_chest, h_stored⟩ := hxc
  refine WP_aload_n dX10_made_0 rfl ?_
  refine WP_iload_n dX10_made_1 rfl ?_
  refine WP_callV1p (k := 10) dX10_made_2 ⟨⟨⟨by decide, by decide⟩, zX10_isThing⟩, lX10_162, by decide, rfl, vX10_isThing.1, vX10_isThing.2⟩ (lyx_is hy _ _ rfl) (x_isThing hy hr hxc0 _) (Nat.le_of_ble_eq_true rfl) ?_
  refine WP_if_eq 35 dX10_made_5 rfl (fun c5 => ?_) (fun c5 => absurd c5 (fun h => h rfl))
  refine WP_bipush (-2) dX10_made_35 rfl ?_
  exact WP_iret dX10_made_37 rfl (by unfold rq; (try simp only [h_sorts, h_things, h_chest, h_stored, h_length, h_kind, h_place, h_clauses, h_turns, h_days, h_chestC, h_bought, h_held, h_loss, h_mloss, h_cost0] at c0 c5 ⊢); (all_goals (try simp only [cmp_lt, cmp_gt] at c0 c5 ⊢)); (all_goals (try simp only [le32, lt32, eq32, t64, vp_in_iff, Int32.reduceToInt, Int64.reduceToInt] at c0 c5)); (all_goals (try simp (disch := ((try simp (disch := ((try simp (disch := omega) only [ia, is', im, ja, js, ir, idv, Int32.reduceToInt, Int64.reduceToInt, t64]); omega)) only [ia, is', im, ja, js, ir, idv, Int32.reduceToInt, Int64.reduceToInt, t64]); omega)) only [ia, is', im, ja, js, ir, idv, Int32.reduceToInt, Int64.reduceToInt, t64] at c0 c5 ⊢)); (all_goals (try simp only [h_sorts, h_things, h_chest, h_stored, h_length, h_kind, h_place, h_clauses, h_turns, h_days, h_chestC, h_bought, h_held, h_loss, h_mloss, h_cost0] at c0 c5 ⊢)); (all_goals (first | rfl | (rw [if_pos (by omega)]; done) | (rw [if_neg (by omega)]; done) | (rw [if_neg (by omega), if_pos (by omega)]; done) | (rw [if_neg (by omega), if_neg (by omega)]; done) | (exfalso; omega))))
set_option maxHeartbeats 4000000 in
set_option maxRecDepth 100000 in
theorem xr_wants {g : GG} {I : pI} {J : pJ} {R : pR} (hy : LyX g) (hr : RfX g R) (hf : XF g I J R) (a b c : Int32) : SP g mX10_wants [.ref (ad g P_x), .int a, .int b, .int c] I J R (rq (-2)) := by
  refine SP_of ⟨by decide, rfl⟩ (Nat.le_of_ble_eq_true rfl) ?_
  have c0 : True := trivial
  have hf0 := hf
  obtain ⟨hxc, h_length, h_kind, h_place, h_clauses, h_turns, h_days, h_chestC, h_bought, h_held, h_cost0, h_s0, h_s1, h_s2, h_spare, h_loss, h_mloss, h_stamps⟩ := hf
  have hxc0 := hxc
  obtain ⟨h_town, h_sorts, h_things, h_chest, h_stored⟩ := hxc
  refine WP_aload_n dX10_wants_0 rfl ?_
  refine WP_iload_n dX10_wants_1 rfl ?_
  refine WP_callV1p (k := 10) dX10_wants_2 ⟨⟨⟨by decide, by decide⟩, zX10_isSort⟩, lX10_152, by decide, rfl, vX10_isSort.1, vX10_isSort.2⟩ (lyx_is hy _ _ rfl) (x_isSort hy hr hxc0 _) (Nat.le_of_ble_eq_true rfl) ?_
  refine WP_if_eq 15 dX10_wants_5 rfl (fun c5 => ?_) (fun c5 => absurd c5 (fun h => h rfl))
  refine WP_bipush (-2) dX10_wants_15 rfl ?_
  exact WP_iret dX10_wants_17 rfl (by unfold rq; (try simp only [h_sorts, h_things, h_chest, h_stored, h_length, h_kind, h_place, h_clauses, h_turns, h_days, h_chestC, h_bought, h_held, h_loss, h_mloss, h_cost0] at c0 c5 ⊢); (all_goals (try simp only [cmp_lt, cmp_gt] at c0 c5 ⊢)); (all_goals (try simp only [le32, lt32, eq32, t64, vp_in_iff, Int32.reduceToInt, Int64.reduceToInt] at c0 c5)); (all_goals (try simp (disch := ((try simp (disch := ((try simp (disch := omega) only [ia, is', im, ja, js, ir, idv, Int32.reduceToInt, Int64.reduceToInt, t64]); omega)) only [ia, is', im, ja, js, ir, idv, Int32.reduceToInt, Int64.reduceToInt, t64]); omega)) only [ia, is', im, ja, js, ir, idv, Int32.reduceToInt, Int64.reduceToInt, t64] at c0 c5 ⊢)); (all_goals (try simp only [h_sorts, h_things, h_chest, h_stored, h_length, h_kind, h_place, h_clauses, h_turns, h_days, h_chestC, h_bought, h_held, h_loss, h_mloss, h_cost0] at c0 c5 ⊢)); (all_goals (first | rfl | (rw [if_pos (by omega)]; done) | (rw [if_neg (by omega)]; done) | (rw [if_neg (by omega), if_pos (by omega)]; done) | (rw [if_neg (by omega), if_neg (by omega)]; done) | (exfalso; omega))))
set_option maxHeartbeats 4000000 in
set_option maxRecDepth 100000 in
theorem xr_may {g : GG} {I : pI} {J : pJ} {R : pR} (hy : LyX g) (hr : RfX g R) (hf : XF g I J R) (a b c e f : Int32) : SP g mX10_may [.ref (ad g P_x), .int a, .int b, .int c, .int e, .int f] I J R (rq (-2)) := by
  refine SP_of ⟨by decide, rfl⟩ (Nat.le_of_ble_eq_true rfl) ?_
  have c0 : True := trivial
  have hf0 := hf
  obtain ⟨hxc, h_length, h_kind, h_place, h_clauses, h_turns, h_days, h_chestC, h_bought, h_held, h_cost0, h_s0, h_s1, h_s2, h_spare, h_loss, h_mloss, h_stamps⟩ := hf
  have hxc0 := hxc
  obtain ⟨h_town, h_sorts, h_things, h_chest, h_stored⟩ := hxc
  refine WP_aload_n dX10_may_0 rfl ?_
  refine WP_iload_n dX10_may_1 rfl ?_
  refine WP_iload_n dX10_may_2 rfl ?_
  refine WP_iload_n dX10_may_3 rfl ?_
  refine WP_iload dX10_may_4 rfl ?_
  refine WP_callV4p (k := 10) dX10_may_6 ⟨⟨⟨by decide, by decide⟩, zX10_isPerson⟩, lX10_188, by decide, rfl, vX10_isPerson.1, vX10_isPerson.2⟩ (lyx_is hy _ _ rfl) (x_isPerson hy hr hxc0 _ _ _ _) (Nat.le_of_ble_eq_true rfl) ?_
  refine WP_if_eq 24 dX10_may_9 rfl (fun c9 => ?_) (fun c9 => absurd c9 (fun h => h rfl))
  refine WP_bipush (-2) dX10_may_24 rfl ?_
  exact WP_iret dX10_may_26 rfl (by unfold rq; (try simp only [h_sorts, h_things, h_chest, h_stored, h_length, h_kind, h_place, h_clauses, h_turns, h_days, h_chestC, h_bought, h_held, h_loss, h_mloss, h_cost0] at c0 c9 ⊢); (all_goals (try simp only [cmp_lt, cmp_gt] at c0 c9 ⊢)); (all_goals (try simp only [le32, lt32, eq32, t64, vp_in_iff, Int32.reduceToInt, Int64.reduceToInt] at c0 c9)); (all_goals (try simp (disch := ((try simp (disch := ((try simp (disch := omega) only [ia, is', im, ja, js, ir, idv, Int32.reduceToInt, Int64.reduceToInt, t64]); omega)) only [ia, is', im, ja, js, ir, idv, Int32.reduceToInt, Int64.reduceToInt, t64]); omega)) only [ia, is', im, ja, js, ir, idv, Int32.reduceToInt, Int64.reduceToInt, t64] at c0 c9 ⊢)); (all_goals (try simp only [h_sorts, h_things, h_chest, h_stored, h_length, h_kind, h_place, h_clauses, h_turns, h_days, h_chestC, h_bought, h_held, h_loss, h_mloss, h_cost0] at c0 c9 ⊢)); (all_goals (first | rfl | (rw [if_pos (by omega)]; done) | (rw [if_neg (by omega)]; done) | (rw [if_neg (by omega), if_pos (by omega)]; done) | (rw [if_neg (by omega), if_neg (by omega)]; done) | (exfalso; omega))))
set_option maxHeartbeats 4000000 in
set_option maxRecDepth 100000 in
theorem xr_best {g : GG} {I : pI} {J : pJ} {R : pR} (hy : LyX g) (hr : RfX g R) (hf : XF g I J R) (a b c e f : Int32) : SP g mX10_best [.ref (ad g P_x), .int a, .int b, .int c, .int e, .int f] I J R (rq (-2)) := by
  refine SP_of ⟨by decide, rfl⟩ (Nat.le_of_ble_eq_true rfl) ?_
  have c0 : True := trivial
  have hf0 := hf
  obtain ⟨hxc, h_length, h_kind, h_place, h_clauses, h_turns, h_days, h_chestC, h_bought, h_held, h_cost0, h_s0, h_s1, h_s2, h_spare, h_loss, h_mloss, h_stamps⟩ := hf
  have hxc0 := hxc
  obtain ⟨h_town, h_sorts, h_things, h_chest, h_stored⟩ := hxc
  refine WP_aload_n dX10_best_0 rfl ?_
  refine WP_iload_n dX10_best_1 rfl ?_
  refine WP_iload_n dX10_best_2 rfl ?_
  refine WP_iload_n dX10_best_3 rfl ?_
  refine WP_iload dX10_best_4 rfl ?_
  refine WP_callV4p (k := 10) dX10_best_6 ⟨⟨⟨by decide, by decide⟩, zX10_isPerson⟩, lX10_188, by decide, rfl, vX10_isPerson.1, vX10_isPerson.2⟩ (lyx_is hy _ _ rfl) (x_isPerson hy hr hxc0 _ _ _ _) (Nat.le_of_ble_eq_true rfl) ?_
  refine WP_if_eq 23 dX10_best_9 rfl (fun c9 => ?_) (fun c9 => absurd c9 (fun h => h rfl))
  refine WP_bipush (-2) dX10_best_23 rfl ?_
  exact WP_iret dX10_best_25 rfl (by unfold rq; (try simp only [h_sorts, h_things, h_chest, h_stored, h_length, h_kind, h_place, h_clauses, h_turns, h_days, h_chestC, h_bought, h_held, h_loss, h_mloss, h_cost0] at c0 c9 ⊢); (all_goals (try simp only [cmp_lt, cmp_gt] at c0 c9 ⊢)); (all_goals (try simp only [le32, lt32, eq32, t64, vp_in_iff, Int32.reduceToInt, Int64.reduceToInt] at c0 c9)); (all_goals (try simp (disch := ((try simp (disch := ((try simp (disch := omega) only [ia, is', im, ja, js, ir, idv, Int32.reduceToInt, Int64.reduceToInt, t64]); omega)) only [ia, is', im, ja, js, ir, idv, Int32.reduceToInt, Int64.reduceToInt, t64]); omega)) only [ia, is', im, ja, js, ir, idv, Int32.reduceToInt, Int64.reduceToInt, t64] at c0 c9 ⊢)); (all_goals (try simp only [h_sorts, h_things, h_chest, h_stored, h_length, h_kind, h_place, h_clauses, h_turns, h_days, h_chestC, h_bought, h_held, h_loss, h_mloss, h_cost0] at c0 c9 ⊢)); (all_goals (first | rfl | (rw [if_pos (by omega)]; done) | (rw [if_neg (by omega)]; done) | (rw [if_neg (by omega), if_pos (by omega)]; done) | (rw [if_neg (by omega), if_neg (by omega)]; done) | (exfalso; omega))))
set_option maxHeartbeats 4000000 in
set_option maxRecDepth 100000 in
theorem xr_bestAct {g : GG} {I : pI} {J : pJ} {R : pR} (hy : LyX g) (hr : RfX g R) (hf : XF g I J R) (a b c e f : Int32) : SP g mX10_bestAct [.ref (ad g P_x), .int a, .int b, .int c, .int e, .int f] I J R (rq (-2)) := by
  refine SP_of ⟨by decide, rfl⟩ (Nat.le_of_ble_eq_true rfl) ?_
  have c0 : True := trivial
  have hf0 := hf
  obtain ⟨hxc, h_length, h_kind, h_place, h_clauses, h_turns, h_days, h_chestC, h_bought, h_held, h_cost0, h_s0, h_s1, h_s2, h_spare, h_loss, h_mloss, h_stamps⟩ := hf
  have hxc0 := hxc
  obtain ⟨h_town, h_sorts, h_things, h_chest, h_stored⟩ := hxc
  refine WP_aload_n dX10_bestAct_0 rfl ?_
  refine WP_iload_n dX10_bestAct_1 rfl ?_
  refine WP_iload_n dX10_bestAct_2 rfl ?_
  refine WP_iload_n dX10_bestAct_3 rfl ?_
  refine WP_iload dX10_bestAct_4 rfl ?_
  refine WP_callV4p (k := 10) dX10_bestAct_6 ⟨⟨⟨by decide, by decide⟩, zX10_isPerson⟩, lX10_188, by decide, rfl, vX10_isPerson.1, vX10_isPerson.2⟩ (lyx_is hy _ _ rfl) (x_isPerson hy hr hxc0 _ _ _ _) (Nat.le_of_ble_eq_true rfl) ?_
  refine WP_if_eq 23 dX10_bestAct_9 rfl (fun c9 => ?_) (fun c9 => absurd c9 (fun h => h rfl))
  refine WP_bipush (-2) dX10_bestAct_23 rfl ?_
  exact WP_iret dX10_bestAct_25 rfl (by unfold rq; (try simp only [h_sorts, h_things, h_chest, h_stored, h_length, h_kind, h_place, h_clauses, h_turns, h_days, h_chestC, h_bought, h_held, h_loss, h_mloss, h_cost0] at c0 c9 ⊢); (all_goals (try simp only [cmp_lt, cmp_gt] at c0 c9 ⊢)); (all_goals (try simp only [le32, lt32, eq32, t64, vp_in_iff, Int32.reduceToInt, Int64.reduceToInt] at c0 c9)); (all_goals (try simp (disch := ((try simp (disch := ((try simp (disch := omega) only [ia, is', im, ja, js, ir, idv, Int32.reduceToInt, Int64.reduceToInt, t64]); omega)) only [ia, is', im, ja, js, ir, idv, Int32.reduceToInt, Int64.reduceToInt, t64]); omega)) only [ia, is', im, ja, js, ir, idv, Int32.reduceToInt, Int64.reduceToInt, t64] at c0 c9 ⊢)); (all_goals (try simp only [h_sorts, h_things, h_chest, h_stored, h_length, h_kind, h_place, h_clauses, h_turns, h_days, h_chestC, h_bought, h_held, h_loss, h_mloss, h_cost0] at c0 c9 ⊢)); (all_goals (first | rfl | (rw [if_pos (by omega)]; done) | (rw [if_neg (by omega)]; done) | (rw [if_neg (by omega), if_pos (by omega)]; done) | (rw [if_neg (by omega), if_neg (by omega)]; done) | (exfalso; omega))))
set_option maxHeartbeats 4000000 in
set_option maxRecDepth 100000 in
theorem xr_wayAct {g : GG} {I : pI} {J : pJ} {R : pR} (hy : LyX g) (hr : RfX g R) (hf : XF g I J R) (a b c e f : Int32) : SP g mX10_wayAct [.ref (ad g P_x), .int a, .int b, .int c, .int e, .int f] I J R (rq (-2)) := by
  refine SP_of ⟨by decide, rfl⟩ (Nat.le_of_ble_eq_true rfl) ?_
  have c0 : True := trivial
  have hf0 := hf
  obtain ⟨hxc, h_length, h_kind, h_place, h_clauses, h_turns, h_days, h_chestC, h_bought, h_held, h_cost0, h_s0, h_s1, h_s2, h_spare, h_loss, h_mloss, h_stamps⟩ := hf
  have hxc0 := hxc
  obtain ⟨h_town, h_sorts, h_things, h_chest, h_stored⟩ := hxc
  refine WP_iload_n dX10_wayAct_0 rfl ?_
  refine WP_callS1p dX10_wayAct_1 ⟨⟨⟨by decide, by decide⟩, zX10_isWay⟩, lX10_219, tX10_isWay⟩ (x_isWay hy hr _) (Nat.le_of_ble_eq_true rfl) ?_
  refine WP_ifb_eq 20 dX10_wayAct_4 rfl (fun c4 => ?_) (fun c4 => ?_)
  · refine WP_bipush (-2) dX10_wayAct_20 rfl ?_
    exact WP_iret dX10_wayAct_22 rfl (by unfold rq; (try simp only [h_sorts, h_things, h_chest, h_stored, h_length, h_kind, h_place, h_clauses, h_turns, h_days, h_chestC, h_bought, h_held, h_loss, h_mloss, h_cost0] at c0 c4 ⊢); (all_goals (try simp only [cmp_lt, cmp_gt] at c0 c4 ⊢)); (all_goals (try simp only [le32, lt32, eq32, t64, vp_in_iff, Int32.reduceToInt, Int64.reduceToInt] at c0 c4)); (all_goals (try simp (disch := ((try simp (disch := ((try simp (disch := omega) only [ia, is', im, ja, js, ir, idv, Int32.reduceToInt, Int64.reduceToInt, t64]); omega)) only [ia, is', im, ja, js, ir, idv, Int32.reduceToInt, Int64.reduceToInt, t64]); omega)) only [ia, is', im, ja, js, ir, idv, Int32.reduceToInt, Int64.reduceToInt, t64] at c0 c4 ⊢)); (all_goals (try simp only [h_sorts, h_things, h_chest, h_stored, h_length, h_kind, h_place, h_clauses, h_turns, h_days, h_chestC, h_bought, h_held, h_loss, h_mloss, h_cost0] at c0 c4 ⊢)); (all_goals (first | rfl | (rw [if_pos (by omega)]; done) | (rw [if_neg (by omega)]; done) | (rw [if_neg (by omega), if_pos (by omega)]; done) | (rw [if_neg (by omega), if_neg (by omega)]; done) | (exfalso; omega))))
  · refine WP_aload_n dX10_wayAct_7 rfl ?_
    refine WP_iload_n dX10_wayAct_8 rfl ?_
    refine WP_iload_n dX10_wayAct_9 rfl ?_
    refine WP_iload dX10_wayAct_10 rfl ?_
    refine WP_iload dX10_wayAct_12 rfl ?_
    refine WP_callV4p (k := 10) dX10_wayAct_14 ⟨⟨⟨by decide, by decide⟩, zX10_isPerson⟩, lX10_188, by decide, rfl, vX10_isPerson.1, vX10_isPerson.2⟩ (lyx_is hy _ _ rfl) (x_isPerson hy hr hxc0 _ _ _ _) (Nat.le_of_ble_eq_true rfl) ?_
    refine WP_if_ne 23 dX10_wayAct_17 rfl (fun c17 => absurd c17 (fun h => h rfl)) (fun c17 => ?_)
    refine WP_bipush (-2) dX10_wayAct_20 rfl ?_
    exact WP_iret dX10_wayAct_22 rfl (by unfold rq; (try simp only [h_sorts, h_things, h_chest, h_stored, h_length, h_kind, h_place, h_clauses, h_turns, h_days, h_chestC, h_bought, h_held, h_loss, h_mloss, h_cost0] at c0 c4 c17 ⊢); (all_goals (try simp only [cmp_lt, cmp_gt] at c0 c4 c17 ⊢)); (all_goals (try simp only [le32, lt32, eq32, t64, vp_in_iff, Int32.reduceToInt, Int64.reduceToInt] at c0 c4 c17)); (all_goals (try simp (disch := ((try simp (disch := ((try simp (disch := omega) only [ia, is', im, ja, js, ir, idv, Int32.reduceToInt, Int64.reduceToInt, t64]); omega)) only [ia, is', im, ja, js, ir, idv, Int32.reduceToInt, Int64.reduceToInt, t64]); omega)) only [ia, is', im, ja, js, ir, idv, Int32.reduceToInt, Int64.reduceToInt, t64] at c0 c4 c17 ⊢)); (all_goals (try simp only [h_sorts, h_things, h_chest, h_stored, h_length, h_kind, h_place, h_clauses, h_turns, h_days, h_chestC, h_bought, h_held, h_loss, h_mloss, h_cost0] at c0 c4 c17 ⊢)); (all_goals (first | rfl | (rw [if_pos (by omega)]; done) | (rw [if_neg (by omega)]; done) | (rw [if_neg (by omega), if_pos (by omega)]; done) | (rw [if_neg (by omega), if_neg (by omega)]; done) | (exfalso; omega))))
set_option maxHeartbeats 4000000 in
set_option maxRecDepth 100000 in
theorem xr_way {g : GG} {I : pI} {J : pJ} {R : pR} (hy : LyX g) (hr : RfX g R) (hf : XF g I J R) (a b : Int32) : SP g mX10_way [.ref (ad g P_x), .int a, .int b] I J R (rq (-2)) := by
  refine SP_of ⟨by decide, rfl⟩ (Nat.le_of_ble_eq_true rfl) ?_
  have c0 : True := trivial
  have hf0 := hf
  obtain ⟨hxc, h_length, h_kind, h_place, h_clauses, h_turns, h_days, h_chestC, h_bought, h_held, h_cost0, h_s0, h_s1, h_s2, h_spare, h_loss, h_mloss, h_stamps⟩ := hf
  have hxc0 := hxc
  obtain ⟨h_town, h_sorts, h_things, h_chest, h_stored⟩ := hxc
  refine WP_aload_n dX10_way_0 rfl ?_
  refine WP_iload_n dX10_way_1 rfl ?_
  refine WP_callV1p (k := 10) dX10_way_2 ⟨⟨⟨by decide, by decide⟩, zX10_isSort⟩, lX10_152, by decide, rfl, vX10_isSort.1, vX10_isSort.2⟩ (lyx_is hy _ _ rfl) (x_isSort hy hr hxc0 _) (Nat.le_of_ble_eq_true rfl) ?_
  refine WP_if_eq 15 dX10_way_5 rfl (fun c5 => ?_) (fun c5 => absurd c5 (fun h => h rfl))
  refine WP_bipush (-2) dX10_way_15 rfl ?_
  exact WP_iret dX10_way_17 rfl (by unfold rq; (try simp only [h_sorts, h_things, h_chest, h_stored, h_length, h_kind, h_place, h_clauses, h_turns, h_days, h_chestC, h_bought, h_held, h_loss, h_mloss, h_cost0] at c0 c5 ⊢); (all_goals (try simp only [cmp_lt, cmp_gt] at c0 c5 ⊢)); (all_goals (try simp only [le32, lt32, eq32, t64, vp_in_iff, Int32.reduceToInt, Int64.reduceToInt] at c0 c5)); (all_goals (try simp (disch := ((try simp (disch := ((try simp (disch := omega) only [ia, is', im, ja, js, ir, idv, Int32.reduceToInt, Int64.reduceToInt, t64]); omega)) only [ia, is', im, ja, js, ir, idv, Int32.reduceToInt, Int64.reduceToInt, t64]); omega)) only [ia, is', im, ja, js, ir, idv, Int32.reduceToInt, Int64.reduceToInt, t64] at c0 c5 ⊢)); (all_goals (try simp only [h_sorts, h_things, h_chest, h_stored, h_length, h_kind, h_place, h_clauses, h_turns, h_days, h_chestC, h_bought, h_held, h_loss, h_mloss, h_cost0] at c0 c5 ⊢)); (all_goals (first | rfl | (rw [if_pos (by omega)]; done) | (rw [if_neg (by omega)]; done) | (rw [if_neg (by omega), if_pos (by omega)]; done) | (rw [if_neg (by omega), if_neg (by omega)]; done) | (exfalso; omega))))
set_option maxHeartbeats 4000000 in
set_option maxRecDepth 100000 in
theorem xr_run {g : GG} {I : pI} {J : pJ} {R : pR} (hy : LyX g) (hr : RfX g R) (hf : XF g I J R) (a b : Int32) : SP g mX10_run [.ref (ad g P_x), .int a, .int b] I J R (rq (-2)) := by
  refine SP_of ⟨by decide, rfl⟩ (Nat.le_of_ble_eq_true rfl) ?_
  have c0 : True := trivial
  have hf0 := hf
  obtain ⟨hxc, h_length, h_kind, h_place, h_clauses, h_turns, h_days, h_chestC, h_bought, h_held, h_cost0, h_s0, h_s1, h_s2, h_spare, h_loss, h_mloss, h_stamps⟩ := hf
  have hxc0 := hxc
  obtain ⟨h_town, h_sorts, h_things, h_chest, h_stored⟩ := hxc
  refine WP_aload_n dX10_run_0 rfl ?_
  refine WP_iload_n dX10_run_1 rfl ?_
  refine WP_callV1p (k := 10) dX10_run_2 ⟨⟨⟨by decide, by decide⟩, zX10_isSort⟩, lX10_152, by decide, rfl, vX10_isSort.1, vX10_isSort.2⟩ (lyx_is hy _ _ rfl) (x_isSort hy hr hxc0 _) (Nat.le_of_ble_eq_true rfl) ?_
  refine WP_if_eq 18 dX10_run_5 rfl (fun c5 => ?_) (fun c5 => absurd c5 (fun h => h rfl))
  refine WP_bipush (-2) dX10_run_18 rfl ?_
  exact WP_iret dX10_run_20 rfl (by unfold rq; (try simp only [h_sorts, h_things, h_chest, h_stored, h_length, h_kind, h_place, h_clauses, h_turns, h_days, h_chestC, h_bought, h_held, h_loss, h_mloss, h_cost0] at c0 c5 ⊢); (all_goals (try simp only [cmp_lt, cmp_gt] at c0 c5 ⊢)); (all_goals (try simp only [le32, lt32, eq32, t64, vp_in_iff, Int32.reduceToInt, Int64.reduceToInt] at c0 c5)); (all_goals (try simp (disch := ((try simp (disch := ((try simp (disch := omega) only [ia, is', im, ja, js, ir, idv, Int32.reduceToInt, Int64.reduceToInt, t64]); omega)) only [ia, is', im, ja, js, ir, idv, Int32.reduceToInt, Int64.reduceToInt, t64]); omega)) only [ia, is', im, ja, js, ir, idv, Int32.reduceToInt, Int64.reduceToInt, t64] at c0 c5 ⊢)); (all_goals (try simp only [h_sorts, h_things, h_chest, h_stored, h_length, h_kind, h_place, h_clauses, h_turns, h_days, h_chestC, h_bought, h_held, h_loss, h_mloss, h_cost0] at c0 c5 ⊢)); (all_goals (first | rfl | (rw [if_pos (by omega)]; done) | (rw [if_neg (by omega)]; done) | (rw [if_neg (by omega), if_pos (by omega)]; done) | (rw [if_neg (by omega), if_neg (by omega)]; done) | (exfalso; omega))))
set_option maxHeartbeats 4000000 in
set_option maxRecDepth 100000 in
theorem x_round0 {g : GG} {I : pI} {J : pJ} {R : pR} (hy : LyX g) (hr : RfX g R) (hh : J (ad g P_course) 3 = 0) : SP g mX4_round [.ref (ad g P_course)] I J R (pq (.int (-1)) I J R) := by
  refine SP_of ⟨by decide, rfl⟩ (Nat.le_of_ble_eq_true rfl) ?_
  have c0 : True := trivial
  refine WP_aload_n dX4_round_0 rfl ?_
  refine WP_getl dX4_round_1 fX4_28 rfl (lyx_is hy _ _ rfl) ?_
  refine WP_lconst (0) dX4_round_4 rfl ?_
  refine WP_lcmp dX4_round_5 ?_
  refine WP_if_ne 11 dX4_round_6 rfl (fun c6 => absurd c6 (by rw [hh]; decide)) (fun c6 => ?_)
  refine WP_iconst (-1) dX4_round_9 rfl ?_
  exact WP_iret dX4_round_10 rfl ⟨rfl, rfl, rfl, rfl⟩
set_option maxHeartbeats 4000000 in
set_option maxRecDepth 100000 in
theorem xr_all {g : GG} {I : pI} {J : pJ} {R : pR} (hy : LyX g) (hr : RfX g R) (hf : XF g I J R) (a : Int32) : SP g mX10_all [.ref (ad g P_x), .int a] I J R (rq (if a.toInt = 0 ∨ a.toInt = 1 ∨ a.toInt = 3 then 0 else -1)) := by
  refine SP_of ⟨by decide, rfl⟩ (Nat.le_of_ble_eq_true rfl) ?_
  have c0 : True := trivial
  have hf0 := hf
  obtain ⟨hxc, h_length, h_kind, h_place, h_clauses, h_turns, h_days, h_chestC, h_bought, h_held, h_cost0, h_s0, h_s1, h_s2, h_spare, h_loss, h_mloss, h_stamps⟩ := hf
  have hxc0 := hxc
  obtain ⟨h_town, h_sorts, h_things, h_chest, h_stored⟩ := hxc
  refine WP_iload_n dX10_all_0 rfl ?_
  refine WP_tab 64 dX10_all_1 rfl rfl (fun c1 => ?_) (fun j off c1 hj => ?_) (by decide)
  · refine WP_iconst (-1) dX10_all_64 rfl ?_
    exact WP_iret dX10_all_65 rfl (by unfold rq; rw [if_neg (by omega)])
  · have hlt : j < 4 := by have := (Array.getElem?_eq_some_iff.mp hj).1; simpa using this
    have hcs : (j = 0 ∧ off = 31) ∨ (j = 1 ∧ off = 39) ∨ (j = 2 ∧ off = 47) ∨ (j = 3 ∧ off = 55) := by
      match j, hlt, hj with
      | 0, _, hj => exact Or.inl ⟨rfl, (Option.some.inj hj).symm⟩
      | 1, _, hj => exact Or.inr (Or.inl ⟨rfl, (Option.some.inj hj).symm⟩)
      | 2, _, hj => exact Or.inr (Or.inr (Or.inl ⟨rfl, (Option.some.inj hj).symm⟩))
      | 3, _, hj => exact Or.inr (Or.inr (Or.inr (⟨rfl, (Option.some.inj hj).symm⟩)))
    clear hj hlt
    rcases hcs with ⟨rfl, rfl⟩ | ⟨rfl, rfl⟩ | ⟨rfl, rfl⟩ | ⟨rfl, rfl⟩
    · show WP _ _ 32 _ _ _ _ _ _
      refine WP_aload_n dX10_all_32 rfl ?_
      refine WP_getr dX10_all_33 fX10_62 rfl (lyx_is hy _ _ rfl) (rfx hr 0 5 53 (by decide)) ?_
      refine WP_geti dX10_all_36 fX10_238 rfl (lyx_is hy _ _ rfl) ?_
      exact WP_iret dX10_all_39 rfl (by unfold rq; rw [h_chestC, if_pos (by omega)])
    · show WP _ _ 40 _ _ _ _ _ _
      refine WP_aload_n dX10_all_40 rfl ?_
      refine WP_getr dX10_all_41 fX10_62 rfl (lyx_is hy _ _ rfl) (rfx hr 0 5 53 (by decide)) ?_
      refine WP_geti dX10_all_44 fX10_232 rfl (lyx_is hy _ _ rfl) ?_
      exact WP_iret dX10_all_47 rfl (by unfold rq; rw [h_days, if_pos (by omega)])
    · show WP _ _ 48 _ _ _ _ _ _
      refine WP_aload_n dX10_all_48 rfl ?_
      refine WP_getr dX10_all_49 fX10_62 rfl (lyx_is hy _ _ rfl) (rfx hr 0 5 53 (by decide)) ?_
      refine WP_callV0p (k := 4) dX10_all_52 ⟨⟨⟨by decide, by decide⟩, zX4_round⟩, lX10_239, by decide, rfl, vX4_round.1, vX4_round.2⟩ (lyx_is hy _ _ rfl) (x_round0 hy hr h_held) (Nat.le_of_ble_eq_true rfl) ?_
      exact WP_iret dX10_all_55 rfl (by unfold rq; rw [if_neg (by omega)])
    · show WP _ _ 56 _ _ _ _ _ _
      refine WP_aload_n dX10_all_56 rfl ?_
      refine WP_getr dX10_all_57 fX10_62 rfl (lyx_is hy _ _ rfl) (rfx hr 0 5 53 (by decide)) ?_
      refine WP_geti dX10_all_60 fX10_243 rfl (lyx_is hy _ _ rfl) ?_
      exact WP_iret dX10_all_63 rfl (by unfold rq; rw [h_bought, if_pos (by omega)])
set_option maxHeartbeats 4000000 in
set_option maxRecDepth 100000 in
theorem x_coinsBehind0 {g : GG} {I : pI} {J : pJ} {R : pR} (hy : LyX g) (hr : RfX g R) (a b c : Int32) (ha : 0 ≤ a.toInt ∧ a.toInt ≤ 60) (hb : b = 0) (hc : 0 ≤ c.toInt ∧ c.toInt < 7) (h_cost0 : I (ad g P_market_storeCosts) 0 = 0) (h_stamps : ∀ d c, d < 7 → c < 61 → I (ad g P_market_behindStamps) (61 * d + c) = nI c) : SP g mX0_coinsBehind [.ref (ad g P_market), .int a, .int b, .int c] I J R (pq (.int a) I J R) := by
  refine SP_of ⟨by decide, rfl⟩ (Nat.le_of_ble_eq_true rfl) ?_
  have c0 : True := trivial
  have e61 : (61 : Int32).toInt = 61 := rfl
  have b1 : (c * 61).toInt = c.toInt * 61 := by rw [im (by rw [e61]; omega) (by rw [e61]; omega), e61]
  have b2 : (c * 61 + a).toInt = c.toInt * 61 + a.toInt := by rw [ia (by rw [b1]; omega) (by rw [b1]; omega), b1]
  have e3 : I (ad g P_market_behindStamps) (c * 61 + a).toNatClampNeg = a := by rw [cl (n := 61 * c.toInt.toNat + a.toInt.toNat) (by rw [b2]; omega), h_stamps _ _ (by omega) (by omega)]; exact (eq32 _ _).mpr (by rw [nI_toInt (by omega)]; omega)
  refine WP_aload_n dX0_coinsBehind_0 rfl ?_
  refine WP_getr dX0_coinsBehind_1 fX0_18 rfl (lyx_is hy _ _ rfl) (rfx hr 5 3 24 (by decide)) ?_
  refine WP_iload_n dX0_coinsBehind_4 rfl ?_
  refine WP_bipush (61) dX0_coinsBehind_5 rfl ?_
  refine WP_imul dX0_coinsBehind_7 ?_
  refine WP_iload_n dX0_coinsBehind_8 rfl ?_
  refine WP_iadd dX0_coinsBehind_9 ?_
  refine WP_iald dX0_coinsBehind_10 (lyx_is hy _ _ rfl) (lyx_in hy _ _ rfl (vin (by rw [b2]; omega) (by rw [b2]; omega))) ?_
  refine WP_aload_n dX0_coinsBehind_11 rfl ?_
  refine WP_getr dX0_coinsBehind_12 fX0_21 rfl (lyx_is hy _ _ rfl) (rfx hr 5 4 25 (by decide)) ?_
  refine WP_iload_n dX0_coinsBehind_15 rfl ?_
  refine WP_iald dX0_coinsBehind_16 (lyx_is hy _ _ rfl) (lyx_in hy _ _ rfl (by rw [hb, vp_in_iff]; decide)) ?_
  refine WP_isub dX0_coinsBehind_17 ?_
  refine WP_istore (ls' := [(0, _), (1, _), (2, _), (3, _), (4, _)]) dX0_coinsBehind_18 (by decide) rfl ?_
  obtain ⟨v, hv⟩ : ∃ v : Int32, v = I (ad g P_market_behindStamps) (c * 61 + a).toNatClampNeg - I (ad g P_market_storeCosts) b.toNatClampNeg := ⟨_, rfl⟩
  have e4 : v = a := by rw [hv, hb, e3]; show _ - I (ad g P_market_storeCosts) 0 = _; rw [h_cost0, Int32.sub_zero]
  rw [← hv, e4]
  refine WP_iload dX0_coinsBehind_20 rfl ?_
  refine WP_if_ge 29 dX0_coinsBehind_22 rfl (fun c22 => ?_) (fun c22 => absurd c22 (by intro cc; apply cc; rw [le32]; simp only [Int32.reduceToInt]; omega))
  refine WP_iload dX0_coinsBehind_29 rfl ?_
  exact WP_iret dX0_coinsBehind_31 rfl ⟨rfl, rfl, rfl, rfl⟩
set_option maxHeartbeats 4000000 in
set_option maxRecDepth 100000 in
theorem xr_night {g : GG} {I : pI} {J : pJ} {R : pR} (hy : LyX g) (hr : RfX g R) (hf : XF g I J R) (a b c : Int32) : SP g mX10_night [.ref (ad g P_x), .int a, .int b, .int c] I J R (rq (if (0 ≤ a.toInt ∧ a.toInt ≤ 60) ∧ b.toInt = 0 ∧ (0 ≤ c.toInt ∧ c.toInt < 7) then a else -2)) := by
  refine SP_of ⟨by decide, rfl⟩ (Nat.le_of_ble_eq_true rfl) ?_
  have c0 : True := trivial
  have hf0 := hf
  obtain ⟨hxc, h_length, h_kind, h_place, h_clauses, h_turns, h_days, h_chestC, h_bought, h_held, h_cost0, h_s0, h_s1, h_s2, h_spare, h_loss, h_mloss, h_stamps⟩ := hf
  have hxc0 := hxc
  obtain ⟨h_town, h_sorts, h_things, h_chest, h_stored⟩ := hxc
  refine WP_iload_n dX10_night_0 rfl ?_
  refine WP_iload_n dX10_night_1 rfl ?_
  refine WP_callS2p dX10_night_2 ⟨⟨⟨by decide, by decide⟩, zX10_isHeld⟩, lX10_180, tX10_isHeld⟩ (x_isHeld hy hr _ _) (Nat.le_of_ble_eq_true rfl) ?_
  refine WP_ifb_eq 32 dX10_night_5 rfl (fun c5 => ?_) (fun c5 => ?_)
  · refine WP_bipush (-2) dX10_night_32 rfl ?_
    exact WP_iret dX10_night_34 rfl (by unfold rq; (try simp only [h_sorts, h_things, h_chest, h_stored, h_length, h_kind, h_place, h_clauses, h_turns, h_days, h_chestC, h_bought, h_held, h_loss, h_mloss, h_cost0] at c0 c5 ⊢); (all_goals (try simp only [cmp_lt, cmp_gt] at c0 c5 ⊢)); (all_goals (try simp only [le32, lt32, eq32, t64, vp_in_iff, Int32.reduceToInt, Int64.reduceToInt] at c0 c5)); (all_goals (try simp (disch := ((try simp (disch := ((try simp (disch := omega) only [ia, is', im, ja, js, ir, idv, Int32.reduceToInt, Int64.reduceToInt, t64]); omega)) only [ia, is', im, ja, js, ir, idv, Int32.reduceToInt, Int64.reduceToInt, t64]); omega)) only [ia, is', im, ja, js, ir, idv, Int32.reduceToInt, Int64.reduceToInt, t64] at c0 c5 ⊢)); (all_goals (try simp only [h_sorts, h_things, h_chest, h_stored, h_length, h_kind, h_place, h_clauses, h_turns, h_days, h_chestC, h_bought, h_held, h_loss, h_mloss, h_cost0] at c0 c5 ⊢)); (all_goals (first | rfl | (rw [if_pos (by omega)]; done) | (rw [if_neg (by omega)]; done) | (rw [if_neg (by omega), if_pos (by omega)]; done) | (rw [if_neg (by omega), if_neg (by omega)]; done) | (exfalso; omega))))
  · refine WP_iload_n dX10_night_8 rfl ?_
    refine WP_callS1p dX10_night_9 ⟨⟨⟨by decide, by decide⟩, zX10_isDay⟩, lX10_156, tX10_isDay⟩ (x_isDay hy hr _) (Nat.le_of_ble_eq_true rfl) ?_
    refine WP_ifb_eq 32 dX10_night_12 rfl (fun c12 => ?_) (fun c12 => ?_)
    · refine WP_bipush (-2) dX10_night_32 rfl ?_
      exact WP_iret dX10_night_34 rfl (by unfold rq; (try simp only [h_sorts, h_things, h_chest, h_stored, h_length, h_kind, h_place, h_clauses, h_turns, h_days, h_chestC, h_bought, h_held, h_loss, h_mloss, h_cost0] at c0 c5 c12 ⊢); (all_goals (try simp only [cmp_lt, cmp_gt] at c0 c5 c12 ⊢)); (all_goals (try simp only [le32, lt32, eq32, t64, vp_in_iff, Int32.reduceToInt, Int64.reduceToInt] at c0 c5 c12)); (all_goals (try simp (disch := ((try simp (disch := ((try simp (disch := omega) only [ia, is', im, ja, js, ir, idv, Int32.reduceToInt, Int64.reduceToInt, t64]); omega)) only [ia, is', im, ja, js, ir, idv, Int32.reduceToInt, Int64.reduceToInt, t64]); omega)) only [ia, is', im, ja, js, ir, idv, Int32.reduceToInt, Int64.reduceToInt, t64] at c0 c5 c12 ⊢)); (all_goals (try simp only [h_sorts, h_things, h_chest, h_stored, h_length, h_kind, h_place, h_clauses, h_turns, h_days, h_chestC, h_bought, h_held, h_loss, h_mloss, h_cost0] at c0 c5 c12 ⊢)); (all_goals (first | rfl | (rw [if_pos (by omega)]; done) | (rw [if_neg (by omega)]; done) | (rw [if_neg (by omega), if_pos (by omega)]; done) | (rw [if_neg (by omega), if_neg (by omega)]; done) | (exfalso; omega))))
    · refine WP_aload_n dX10_night_15 rfl ?_
      refine WP_getr dX10_night_16 fX10_33 rfl (lyx_is hy _ _ rfl) (rfx hr 0 2 5 (by decide)) ?_
      refine WP_getr dX10_night_19 fX10_102 rfl (lyx_is hy _ _ rfl) h_town ?_
      refine WP_geti dX10_night_22 fX10_117 rfl (lyx_is hy _ _ rfl) ?_
      refine WP_if_ne 35 dX10_night_25 rfl (fun c25 => absurd c25 (by rw [h_things]; decide)) (fun c25 => ?_)
      refine WP_iload_n dX10_night_28 rfl ?_
      refine WP_if_le 35 dX10_night_29 rfl (fun c29 => ?_) (fun c29 => ?_)
      · refine WP_aload_n dX10_night_35 rfl ?_
        refine WP_getr dX10_night_36 fX10_33 rfl (lyx_is hy _ _ rfl) (rfx hr 0 2 5 (by decide)) ?_
        refine WP_iload_n dX10_night_39 rfl ?_
        refine WP_iload_n dX10_night_40 rfl ?_
        refine WP_iload_n dX10_night_41 rfl ?_
        refine WP_callV3p (k := 0) dX10_night_42 ⟨⟨⟨by decide, by decide⟩, zX0_coinsBehind⟩, lX10_184, by decide, rfl, vX0_coinsBehind.1, vX0_coinsBehind.2⟩ (lyx_is hy _ _ rfl) (x_coinsBehind0 hy hr _ _ _ (by omega) (by rw [eq32]; (try simp only [h_sorts, h_things, h_chest, h_stored, h_length, h_kind, h_place, h_clauses, h_turns, h_days, h_chestC, h_bought, h_held, h_loss, h_mloss, h_cost0] at c5 c12 c25 c29); (try simp only [le32, lt32, eq32, Int32.reduceToInt] at c25); (try simp only [le32, lt32, eq32, Int32.reduceToInt] at c29); simp only [Int32.reduceToInt]; omega) (by omega) h_cost0 h_stamps) (Nat.le_of_ble_eq_true rfl) ?_
        exact WP_iret dX10_night_45 rfl (by unfold rq; (try simp only [h_sorts, h_things, h_chest, h_stored, h_length, h_kind, h_place, h_clauses, h_turns, h_days, h_chestC, h_bought, h_held, h_loss, h_mloss, h_cost0] at c0 c5 c12 c25 c29 ⊢); (all_goals (try simp only [cmp_lt, cmp_gt] at c0 c5 c12 c25 c29 ⊢)); (all_goals (try simp only [le32, lt32, eq32, t64, vp_in_iff, Int32.reduceToInt, Int64.reduceToInt] at c0 c5 c12 c25 c29)); (all_goals (try simp (disch := ((try simp (disch := ((try simp (disch := omega) only [ia, is', im, ja, js, ir, idv, Int32.reduceToInt, Int64.reduceToInt, t64]); omega)) only [ia, is', im, ja, js, ir, idv, Int32.reduceToInt, Int64.reduceToInt, t64]); omega)) only [ia, is', im, ja, js, ir, idv, Int32.reduceToInt, Int64.reduceToInt, t64] at c0 c5 c12 c25 c29 ⊢)); (all_goals (try simp only [h_sorts, h_things, h_chest, h_stored, h_length, h_kind, h_place, h_clauses, h_turns, h_days, h_chestC, h_bought, h_held, h_loss, h_mloss, h_cost0] at c0 c5 c12 c25 c29 ⊢)); (all_goals (first | rfl | (rw [if_pos (by omega)]; done) | (rw [if_neg (by omega)]; done) | (rw [if_neg (by omega), if_pos (by omega)]; done) | (rw [if_neg (by omega), if_neg (by omega)]; done) | (exfalso; omega))))
      · refine WP_bipush (-2) dX10_night_32 rfl ?_
        exact WP_iret dX10_night_34 rfl (by unfold rq; (try simp only [h_sorts, h_things, h_chest, h_stored, h_length, h_kind, h_place, h_clauses, h_turns, h_days, h_chestC, h_bought, h_held, h_loss, h_mloss, h_cost0] at c0 c5 c12 c25 c29 ⊢); (all_goals (try simp only [cmp_lt, cmp_gt] at c0 c5 c12 c25 c29 ⊢)); (all_goals (try simp only [le32, lt32, eq32, t64, vp_in_iff, Int32.reduceToInt, Int64.reduceToInt] at c0 c5 c12 c25 c29)); (all_goals (try simp (disch := ((try simp (disch := ((try simp (disch := omega) only [ia, is', im, ja, js, ir, idv, Int32.reduceToInt, Int64.reduceToInt, t64]); omega)) only [ia, is', im, ja, js, ir, idv, Int32.reduceToInt, Int64.reduceToInt, t64]); omega)) only [ia, is', im, ja, js, ir, idv, Int32.reduceToInt, Int64.reduceToInt, t64] at c0 c5 c12 c25 c29 ⊢)); (all_goals (try simp only [h_sorts, h_things, h_chest, h_stored, h_length, h_kind, h_place, h_clauses, h_turns, h_days, h_chestC, h_bought, h_held, h_loss, h_mloss, h_cost0] at c0 c5 c12 c25 c29 ⊢)); (all_goals (first | rfl | (rw [if_pos (by omega)]; done) | (rw [if_neg (by omega)]; done) | (rw [if_neg (by omega), if_pos (by omega)]; done) | (rw [if_neg (by omega), if_neg (by omega)]; done) | (exfalso; omega))))
