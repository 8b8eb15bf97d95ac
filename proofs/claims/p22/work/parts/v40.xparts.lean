theorem TPX_fr {g : GG} (hy : LyX g) {B : Nat → Int} {n : Nat} {I I' : pI} {C : List Nat} (h : TPX g B n I) (hf : FC g C I I') (hc : ∀ i ∈ C, i ≠ 1 ∧ i ≠ 2 ∧ i < 74) : TPX g B n I' := by
  refine ⟨?_, fun q hq => ?_⟩
  · rw [FCx_at hy hf 1 (by decide) (fun i hi => ⟨Ne.symm (hc i hi).1, (hc i hi).2.2⟩)]; exact h.1
  · rw [FCx_at hy hf 2 (by decide) (fun i hi => ⟨Ne.symm (hc i hi).2.1, (hc i hi).2.2⟩)]; exact h.2 q hq
theorem CUX_fr {g : GG} (hy : LyX g) {B : Nat → Int} {n p : Nat} {I I' : pI} {J J' : pJ} {C D : List Nat} (h : CUX g B n p I J) (hf : FC g C I I') (hD : FC g D J J') (hc : ∀ i ∈ C, 1 ≠ i ∧ i < 74) (hd : ∀ i ∈ D, 1 ≠ i ∧ i < 74) : CUX g B n p I' J' := by
  unfold CUX
  rw [FCx_at hy hf 1 (by decide) hc, FCx_at hy hD 1 (by decide) hd]
  exact h
theorem prt_n {B : Nat → Int} {n cl i p : Nat} {S : TwS} {P : Nat → Int} (h : tK B n p = 1) : prt B n cl i 110 p S P = if fnS S (tW B n p) ≠ -1 then .error (3, tF B n p) else .ok ((pp S.1 14 (S.1 0 1).toNat (tW B n p), S.2), P) := by
  unfold prt
  rw [if_pos (by decide), if_neg (by omega), if_pos rfl]
theorem prt_m {B : Nat → Int} {n cl i p : Nat} {S : TwS} {P : Nat → Int} (h : tK B n p = 1) : prt B n cl i 109 p S P = if fnT S (tW B n p) ≠ -1 then .error (3, tF B n p) else .ok ((pp S.1 14 (4 + (S.1 0 2).toNat) (tW B n p), S.2), P) := by
  unfold prt
  rw [if_pos (by decide), if_neg (by omega), if_neg (by decide), if_pos rfl]
theorem prt_s {B : Nat → Int} {n cl i p : Nat} {S : TwS} {P : Nat → Int} (h : tK B n p = 1) : prt B n cl i 115 p S P = if fnS S (tW B n p) = -1 then .error (5, tF B n p)
      else if cl = 7 ∧ S.2 (28 + (fnS S (tW B n p)).toNat) 0 = true then .error (3, tF B n p)
      else .ok (S, fun j => if j = i then fnS S (tW B n p) else P j) := by
  unfold prt
  rw [if_pos (by decide), if_neg (by omega), if_neg (by decide), if_neg (by decide), if_pos rfl]
theorem prt_t {B : Nat → Int} {n cl i p : Nat} {S : TwS} {P : Nat → Int} (h : tK B n p = 1) : prt B n cl i 116 p S P = if fnT S (tW B n p) = -1 then .error (5, tF B n p)
      else .ok (S, fun j => if j = i then fnT S (tW B n p) else P j) := by
  unfold prt
  rw [if_pos (by decide), if_neg (by omega), if_neg (by decide), if_neg (by decide), if_neg (by decide)]
theorem prt_u {B : Nat → Int} {n cl i ch p : Nat} {S : TwS} {P : Nat → Int} (hc : ch < 97) (h : tK B n p = 2) : prt B n cl i ch p S P = if tV B n p < loB ch ∨ hiB ch < tV B n p then .error (2, tF B n p)
    else if ch = 68 ∧ S.2 (cl * 4 + (if cl = 0 then 0 else (P 0).toNat)) (tV B n p).toNat = true then .error (3, tF B n p)
    else .ok (S, fun j => if j = i then tV B n p else P j) := by
  unfold prt
  rw [if_neg (by omega), if_neg (by omega)]
theorem prt_x {B : Nat → Int} {n cl i ch p : Nat} {S : TwS} {P : Nat → Int} (h : 97 ≤ ch ∧ tK B n p ≠ 1 ∨ ch < 97 ∧ tK B n p ≠ 2) : prt B n cl i ch p S P = .error (1, tF B n p) := by
  unfold prt
  rcases h with ⟨h1, h2⟩ | ⟨h1, h2⟩
  · rw [if_pos h1, if_pos h2]
  · rw [if_neg (by omega), if_pos h2]
theorem PRX_v {g : GG} {P : Nat → Int} {c i : Nat} {I : pI} (h : i = 0 ∧ (c = 1 ∨ c = 2)) : PRX g P (loP c) (i + 1) I := fun j h1 h2 => by
  unfold loP at h1
  rw [if_pos h.2] at h1
  omega
theorem PRX_set {g : GG} {P : Nat → Int} {lo i : Nat} {I : pI} {v : Int32} {y : Int} (h : PRX g P lo i I) (hv : v.toInt = y) : PRX g (fun j => if j = i then y else P j) lo (i + 1) (pp I (ad g 4) i v) := fun j h1 h2 => by
  rw [pp_at]
  by_cases e : j = i
  · rw [if_pos e]; show _ = if j = i then y else P j; rw [if_pos e]; exact hv
  · rw [if_neg e]; show _ = if j = i then y else P j; rw [if_neg e]; exact h j h1 (by omega)
theorem SHP_t0 : ∀ c, c < 12 → ∀ i, i < (SHP c).length → ((SHP c).getD i 0 < 97 ∨ (SHP c).getD i 0 = 110 ∨ (SHP c).getD i 0 = 109 ∨ (SHP c).getD i 0 = 115 ∨ (SHP c).getD i 0 = 116) := by decide
theorem SHP_t1 : ∀ c, c < 12 → ∀ i, i < (SHP c).length → ((SHP c).getD i 0 = 110 ∨ (SHP c).getD i 0 = 109 → i = 0 ∧ (c = 1 ∨ c = 2)) := by decide
theorem SHP_t2 : ∀ c, c < 12 → ∀ i, i < (SHP c).length → ((SHP c).getD i 0 = 110 → c = 1) := by decide
theorem SHP_t3 : ∀ c, c < 12 → ∀ i, i < (SHP c).length → ((SHP c).getD i 0 = 109 → c = 2) := by decide
theorem SHP_t4 : ∀ c, c < 12 → ∀ i, i < (SHP c).length → ((SHP c).getD i 0 = 116 → c ≠ 7) := by decide
theorem m5 {c : Nat} : c ∈ [3, 4, 5, 6, 10] ↔ (c = 3 ∨ c = 4 ∨ c = 5 ∨ c = 6 ∨ c = 10) := by simp
theorem SHP_ta0 : ∀ c, c < 12 → ∀ i, i < (SHP c).length → ((SHP c).getD i 0 = 68 ∧ (c == 0) = false → (decide (1 ≤ i) && [3, 4, 5, 6, 10].contains c) = true) := by decide
theorem SHP_ta (c : Nat) (hc : c < 12) (i : Nat) (hi : i < (SHP c).length) (h : (SHP c).getD i 0 = 68 ∧ c ≠ 0) : 1 ≤ i ∧ c ∈ [3, 4, 5, 6, 10] := by
  have := SHP_ta0 c hc i hi ⟨h.1, by simpa using h.2⟩
  rw [Bool.and_eq_true, decide_eq_true_eq, List.contains_iff_mem] at this
  exact this
theorem SHP_tb : ∀ c, c < 12 → ∀ i, i < (SHP c).length → i = 0 ∧ c ∈ [3, 4, 5, 6, 10] → (SHP c).getD i 0 = 115 ∨ (SHP c).getD i 0 = 116 := by decide
theorem SHP_t5 (c : Nat) (hc : c < 12) (i : Nat) (hi : i < (SHP c).length) : ((SHP c).getD i 0 = 68 → c ≠ 0 → 1 ≤ i ∧ (c = 3 ∨ c = 4 ∨ c = 5 ∨ c = 6 ∨ c = 10)) := fun h1 h2 => ⟨(SHP_ta c hc i hi ⟨h1, h2⟩).1, m5.mp (SHP_ta c hc i hi ⟨h1, h2⟩).2⟩
theorem SHP_t6 (c : Nat) (hc : c < 12) (i : Nat) (hi : i < (SHP c).length) : (i = 0 → (c = 3 ∨ c = 4 ∨ c = 5 ∨ c = 6 ∨ c = 10) → (SHP c).getD i 0 = 115 ∨ (SHP c).getD i 0 = 116) := fun h1 h2 => SHP_tb c hc i hi ⟨h1, m5.mpr h2⟩
def TBL (c i ch : Nat) : Prop := (ch < 97 ∨ ch = 110 ∨ ch = 109 ∨ ch = 115 ∨ ch = 116) ∧ (ch = 110 ∨ ch = 109 → i = 0 ∧ (c = 1 ∨ c = 2)) ∧ (ch = 110 → c = 1) ∧ (ch = 109 → c = 2) ∧ (ch = 116 → c ≠ 7) ∧ (ch = 68 → c ≠ 0 → 1 ≤ i ∧ (c = 3 ∨ c = 4 ∨ c = 5 ∨ c = 6 ∨ c = 10)) ∧ (i = 0 → (c = 3 ∨ c = 4 ∨ c = 5 ∨ c = 6 ∨ c = 10) → ch = 115 ∨ ch = 116)
theorem SHP_t {c i ch : Nat} (hc : c < 12) (hi : i < (SHP c).length) (e : (SHP c).getD i 0 = ch) : TBL c i ch := by
  subst e
  exact ⟨SHP_t0 c hc i hi, SHP_t1 c hc i hi, SHP_t2 c hc i hi, SHP_t3 c hc i hi, SHP_t4 c hc i hi, SHP_t5 c hc i hi, SHP_t6 c hc i hi⟩
theorem prts_er {B : Nat → Int} {n cl i p : Nat} {l : List Nat} {S : TwS} {P : Nat → Int} {e : ER} (hi : i < l.length) (h : prt B n cl i (l.getD i 0) p S P = .error e) : prts B n cl (l.drop i) i p S P = .error e := by
  rw [prts_at hi, h]
theorem prts_go {B : Nat → Int} {n cl i p : Nat} {l : List Nat} {S S2 : TwS} {P P2 : Nat → Int} (hi : i < l.length) (h : prt B n cl i (l.getD i 0) p S P = .ok (S2, P2)) : prts B n cl (l.drop i) i p S P = prts B n cl (l.drop (i + 1)) (i + 1) (tT B n p) S2 P2 := by
  rw [prts_at hi, h]
theorem prts_nil {B : Nat → Int} {n cl i p : Nat} {l : List Nat} {S : TwS} {P : Nat → Int} (hi : l.length ≤ i) : prts B n cl (l.drop i) i p S P = .ok (S, P, p) := by
  rw [List.drop_eq_nil_of_le hi, prts]
theorem clz_er {B : Nat → Int} {n cl p : Nat} {S : TwS} {e : ER} (h : prts B n cl (SHP cl) 0 p S (fun _ => 0) = .error e) : clz B n cl p S = .error e := by
  unfold clz
  rw [h]
theorem clz_go {B : Nat → Int} {n cl p p2 : Nat} {S S2 : TwS} {P2 : Nat → Int} (h : prts B n cl (SHP cl) 0 p S (fun _ => 0) = .ok (S2, P2, p2)) : clz B n cl p S = if tK B n p2 ≠ 3 then .error (1, tF B n p2) else .ok (S2, P2, p2) := by
  unfold clz
  rw [h]
set_option maxHeartbeats 4000000 in
set_option maxRecDepth 100000 in
theorem ex_fon110a {g : GG} {I : pI} {J : pJ} {R : pR} (hy : LyX g) (hr : RfX g R) {B : Nat → Int} {n p c i : Nat} {S : TwS} {P : Nat → Int} (pt : Int32) (cl : Int32) (ix : Int32) (hpt : pt.toInt = 110) (hcl : cl.toInt = (c : Int)) (hc12 : c < 12) (hix : ix.toInt = (i : Int)) (hi5 : i < 5) (hC : CUX g B n p I J) (hR : RTX g 6 S I J) (hB : SBn S) (hP : PRX g P (loP c) i I) (hk : tK B n p = 1) (hrs : 110 = 110 → S.1 0 1 < 4) (hrt : 110 = 109 → S.1 0 2 < 3) (hn0 : 110 = 110 ∨ 110 = 109 → i = 0 ∧ (c = 1 ∨ c = 2)) (h7 : 110 = 116 → c ≠ 7) : SP g mX3_faultOfName [.ref (ad g 3), .int pt, .int cl, .int ix, .ref (ad g 6)] I J R (fun r I' J' R' => R' = R ∧ FC g [4] I I' ∧ FC g [20] J J' ∧ ∃ v : Int32, r = some (.int v) ∧ ((∃ k : Nat, v.toInt = (k : Int) ∧ k ≠ 0 ∧ prt B n c i 110 p S P = .error (k, tF B n p)) ∨ (v.toInt = 0 ∧ ∃ S2 P2, prt B n c i 110 p S P = .ok (S2, P2) ∧ RTX g 6 S2 I' J' ∧ PRX g P2 (loP c) (i + 1) I'))) := by
  refine SP_of ⟨by decide, rfl⟩ (Nat.le_of_ble_eq_true rfl) ?_
  have fI0 : FC g [4] I I := FC_rf
  have fJ0 : FC g [20] J J := FC_rf
  have c5 := hC.2.2.2.2 hk
  obtain ⟨w1760, ew1760⟩ : ∃ w : Int64, J (ad g 1) 5 = w := ⟨_, rfl⟩
  try simp only [ew1760] at c5
  obtain ⟨hi0, hc0⟩ := hn0 (by decide)
  refine WP_iload_n dX3_faultOfName_0 rfl ?_
  refine WQ_bipush (115) (115) dX3_faultOfName_1 rfl rfl (fun v1761 hv1761 => ?_)
  refine WQ_icmp_eq 12 dX3_faultOfName_3 rfl (fun c1761 => False.elim (by omega)) (fun c1761 => ?_)
  refine WP_iload_n dX3_faultOfName_6 rfl ?_
  refine WQ_bipush (110) (110) dX3_faultOfName_7 rfl rfl (fun v1763 hv1763 => ?_)
  refine WQ_icmp_ne 16 dX3_faultOfName_9 rfl (fun c1763 => False.elim (by omega)) (fun c1763 => ?_)
  refine WQ_iconst (1) (1) dX3_faultOfName_12 rfl rfl (fun v1765 hv1765 => ?_)
  refine WP_goto 17 dX3_faultOfName_13 rfl ?_
  refine WP_istore (ls' := [(0, _), (1, _), (2, _), (3, _), (4, _), (5, _)]) dX3_faultOfName_17 (by decide) rfl ?_
  refine WP_iload dX3_faultOfName_19 rfl ?_
  refine WQ_if_eq 39 dX3_faultOfName_21 rfl (fun c1765 => False.elim (by omega)) (fun c1765 => ?_)
  refine WP_aload dX3_faultOfName_24 rfl ?_
  refine WP_aload_n dX3_faultOfName_26 rfl ?_
  refine WP_getr dX3_faultOfName_27 fX3_15 rfl (lyx_is hy 3 3 rfl) (rfx hr 3 2 1 (by decide)) ?_
  refine WP_getl dX3_faultOfName_30 fX3_80 rfl (lyx_is hy 1 5 rfl) ?_
  rw [ew1760]
  refine WP_callV1 (k := 7) dX3_faultOfName_33 ⟨⟨⟨by decide, by decide⟩, zX7_sortNamed⟩, lX3_103, by decide, rfl, vX7_sortNamed.1, vX7_sortNamed.2⟩ (lyx_is hy 6 7 rfl) (ex_sortNameda hy hr _  hR hB) (Nat.le_of_ble_eq_true rfl) ?_
  intro r Ia Ja Ra hq
  obtain ⟨⟨ea, eb, ec⟩, v1768, er, p1767⟩ := hq
  rw [ea, eb, ec, er]
  clear ea eb ec er Ia Ja Ra r
  rw [c5] at p1767
  refine WP_goto 51 dX3_faultOfName_36 rfl ?_
  refine WP_istore (ls' := [(0, _), (1, _), (2, _), (3, _), (4, _), (5, _), (6, _)]) dX3_faultOfName_51 (by decide) rfl ?_
  refine WP_iload_n dX3_faultOfName_53 rfl ?_
  refine WQ_bipush (110) (110) dX3_faultOfName_54 rfl rfl (fun v1769 hv1769 => ?_)
  refine WQ_icmp_eq 65 dX3_faultOfName_56 rfl (fun c1769 => ?_) (fun c1769 => False.elim (by omega))
  refine WP_iload dX3_faultOfName_65 rfl ?_
  refine WQ_iconst (-1) (-1) dX3_faultOfName_67 rfl rfl (fun v1771 hv1771 => ?_)
  refine WQ_icmp_eq 73 dX3_faultOfName_68 rfl (fun c1771 => ?_) (fun c1771 => ?_)
  · refine WP_aload dX3_faultOfName_73 rfl ?_
    refine WP_iload_n dX3_faultOfName_75 rfl ?_
    refine WQ_bipush (110) (110) dX3_faultOfName_76 rfl rfl (fun v1773 hv1773 => ?_)
    refine WQ_icmp_ne 85 dX3_faultOfName_78 rfl (fun c1773 => False.elim (by omega)) (fun c1773 => ?_)
    refine WQ_iconst (1) (1) dX3_faultOfName_81 rfl rfl (fun v1775 hv1775 => ?_)
    refine WP_goto 86 dX3_faultOfName_82 rfl ?_
    refine WP_aload_n dX3_faultOfName_86 rfl ?_
    refine WP_getr dX3_faultOfName_87 fX3_15 rfl (lyx_is hy 3 3 rfl) (rfx hr 3 2 1 (by decide)) ?_
    refine WP_getl dX3_faultOfName_90 fX3_80 rfl (lyx_is hy 1 5 rfl) ?_
    rw [ew1760]
    refine WP_callV2 (k := 7) dX3_faultOfName_93 ⟨⟨⟨by decide, by decide⟩, zX7_name⟩, lX3_110, by decide, rfl, vX7_name.1, vX7_name.2⟩ (lyx_is hy 6 7 rfl) (ex_namea hy hr _ _  hR hB (by intro z; first | exact hrs rfl | exact absurd z (by omega)) (by intro z; first | exact hrt rfl | exact absurd z (by omega))) (Nat.le_of_ble_eq_true rfl) ?_
    intro r I1777 J1778 Ra hq
    obtain ⟨ec, g1779, g1780, er, p1776⟩ := hq
    rw [ec, er]
    clear ec er Ra r
    have e1782 : J1778 (ad g 1) 5 = w1760 := by rw [FCx_at hy g1780 1 (by decide) (by decide)]; exact ew1760
    have fI1783 : FC g [4] I I1777 := FC_tr fI0 (FC_mono g1779 (by decide))
    have fJ1784 : FC g [20] J J1778 := FC_tr fJ0 (FC_mono g1780 (by decide))
    try simp only [e1782, ew1760] at p1776
    refine WQ_iconst (0) (0) dX3_faultOfName_96 rfl rfl (fun v1785 hv1785 => ?_)
    exact WP_iret dX3_faultOfName_97 rfl ⟨rfl, fI1783, fJ1784, v1785, rfl, by
      try simp only [e1782, ew1760]
      have z9 := p1776.1 (by omega)
      rw [c5] at z9
      exact Or.inr ⟨by omega, _, _, (by rw [prt_n hk, if_neg (by omega)]), z9, PRX_v ⟨hi0, hc0⟩⟩⟩
  · refine WQ_iconst (3) (3) dX3_faultOfName_71 rfl rfl (fun v1786 hv1786 => ?_)
    exact WP_iret dX3_faultOfName_72 rfl ⟨rfl, fI0, fJ0, v1786, rfl, by
      try simp only [ew1760]
      refine Or.inl ⟨3, by omega, by decide, ?_⟩
      rw [prt_n hk, if_pos (by omega)]⟩
set_option maxHeartbeats 4000000 in
set_option maxRecDepth 100000 in
theorem ex_fon109a {g : GG} {I : pI} {J : pJ} {R : pR} (hy : LyX g) (hr : RfX g R) {B : Nat → Int} {n p c i : Nat} {S : TwS} {P : Nat → Int} (pt : Int32) (cl : Int32) (ix : Int32) (hpt : pt.toInt = 109) (hcl : cl.toInt = (c : Int)) (hc12 : c < 12) (hix : ix.toInt = (i : Int)) (hi5 : i < 5) (hC : CUX g B n p I J) (hR : RTX g 6 S I J) (hB : SBn S) (hP : PRX g P (loP c) i I) (hk : tK B n p = 1) (hrs : 109 = 110 → S.1 0 1 < 4) (hrt : 109 = 109 → S.1 0 2 < 3) (hn0 : 109 = 110 ∨ 109 = 109 → i = 0 ∧ (c = 1 ∨ c = 2)) (h7 : 109 = 116 → c ≠ 7) : SP g mX3_faultOfName [.ref (ad g 3), .int pt, .int cl, .int ix, .ref (ad g 6)] I J R (fun r I' J' R' => R' = R ∧ FC g [4] I I' ∧ FC g [20] J J' ∧ ∃ v : Int32, r = some (.int v) ∧ ((∃ k : Nat, v.toInt = (k : Int) ∧ k ≠ 0 ∧ prt B n c i 109 p S P = .error (k, tF B n p)) ∨ (v.toInt = 0 ∧ ∃ S2 P2, prt B n c i 109 p S P = .ok (S2, P2) ∧ RTX g 6 S2 I' J' ∧ PRX g P2 (loP c) (i + 1) I'))) := by
  refine SP_of ⟨by decide, rfl⟩ (Nat.le_of_ble_eq_true rfl) ?_
  have fI0 : FC g [4] I I := FC_rf
  have fJ0 : FC g [20] J J := FC_rf
  have c5 := hC.2.2.2.2 hk
  obtain ⟨w1787, ew1787⟩ : ∃ w : Int64, J (ad g 1) 5 = w := ⟨_, rfl⟩
  try simp only [ew1787] at c5
  obtain ⟨hi0, hc0⟩ := hn0 (by decide)
  refine WP_iload_n dX3_faultOfName_0 rfl ?_
  refine WQ_bipush (115) (115) dX3_faultOfName_1 rfl rfl (fun v1788 hv1788 => ?_)
  refine WQ_icmp_eq 12 dX3_faultOfName_3 rfl (fun c1788 => False.elim (by omega)) (fun c1788 => ?_)
  refine WP_iload_n dX3_faultOfName_6 rfl ?_
  refine WQ_bipush (110) (110) dX3_faultOfName_7 rfl rfl (fun v1790 hv1790 => ?_)
  refine WQ_icmp_ne 16 dX3_faultOfName_9 rfl (fun c1790 => ?_) (fun c1790 => False.elim (by omega))
  refine WQ_iconst (0) (0) dX3_faultOfName_16 rfl rfl (fun v1792 hv1792 => ?_)
  refine WP_istore (ls' := [(0, _), (1, _), (2, _), (3, _), (4, _), (5, _)]) dX3_faultOfName_17 (by decide) rfl ?_
  refine WP_iload dX3_faultOfName_19 rfl ?_
  refine WQ_if_eq 39 dX3_faultOfName_21 rfl (fun c1792 => ?_) (fun c1792 => False.elim (by omega))
  refine WP_aload dX3_faultOfName_39 rfl ?_
  refine WP_aload_n dX3_faultOfName_41 rfl ?_
  refine WP_getr dX3_faultOfName_42 fX3_15 rfl (lyx_is hy 3 3 rfl) (rfx hr 3 2 1 (by decide)) ?_
  refine WP_getl dX3_faultOfName_45 fX3_80 rfl (lyx_is hy 1 5 rfl) ?_
  rw [ew1787]
  refine WP_callV1 (k := 7) dX3_faultOfName_48 ⟨⟨⟨by decide, by decide⟩, zX7_thingNamed⟩, lX3_107, by decide, rfl, vX7_thingNamed.1, vX7_thingNamed.2⟩ (lyx_is hy 6 7 rfl) (ex_thingNameda hy hr _  hR hB) (Nat.le_of_ble_eq_true rfl) ?_
  intro r Ia Ja Ra hq
  obtain ⟨⟨ea, eb, ec⟩, v1795, er, p1794⟩ := hq
  rw [ea, eb, ec, er]
  clear ea eb ec er Ia Ja Ra r
  rw [c5] at p1794
  refine WP_istore (ls' := [(0, _), (1, _), (2, _), (3, _), (4, _), (5, _), (6, _)]) dX3_faultOfName_51 (by decide) rfl ?_
  refine WP_iload_n dX3_faultOfName_53 rfl ?_
  refine WQ_bipush (110) (110) dX3_faultOfName_54 rfl rfl (fun v1796 hv1796 => ?_)
  refine WQ_icmp_eq 65 dX3_faultOfName_56 rfl (fun c1796 => False.elim (by omega)) (fun c1796 => ?_)
  refine WP_iload_n dX3_faultOfName_59 rfl ?_
  refine WQ_bipush (109) (109) dX3_faultOfName_60 rfl rfl (fun v1798 hv1798 => ?_)
  refine WQ_icmp_ne 98 dX3_faultOfName_62 rfl (fun c1798 => False.elim (by omega)) (fun c1798 => ?_)
  refine WP_iload dX3_faultOfName_65 rfl ?_
  refine WQ_iconst (-1) (-1) dX3_faultOfName_67 rfl rfl (fun v1800 hv1800 => ?_)
  refine WQ_icmp_eq 73 dX3_faultOfName_68 rfl (fun c1800 => ?_) (fun c1800 => ?_)
  · refine WP_aload dX3_faultOfName_73 rfl ?_
    refine WP_iload_n dX3_faultOfName_75 rfl ?_
    refine WQ_bipush (110) (110) dX3_faultOfName_76 rfl rfl (fun v1802 hv1802 => ?_)
    refine WQ_icmp_ne 85 dX3_faultOfName_78 rfl (fun c1802 => ?_) (fun c1802 => False.elim (by omega))
    refine WQ_iconst (0) (0) dX3_faultOfName_85 rfl rfl (fun v1804 hv1804 => ?_)
    refine WP_aload_n dX3_faultOfName_86 rfl ?_
    refine WP_getr dX3_faultOfName_87 fX3_15 rfl (lyx_is hy 3 3 rfl) (rfx hr 3 2 1 (by decide)) ?_
    refine WP_getl dX3_faultOfName_90 fX3_80 rfl (lyx_is hy 1 5 rfl) ?_
    rw [ew1787]
    refine WP_callV2 (k := 7) dX3_faultOfName_93 ⟨⟨⟨by decide, by decide⟩, zX7_name⟩, lX3_110, by decide, rfl, vX7_name.1, vX7_name.2⟩ (lyx_is hy 6 7 rfl) (ex_namea hy hr _ _  hR hB (by intro z; first | exact hrs rfl | exact absurd z (by omega)) (by intro z; first | exact hrt rfl | exact absurd z (by omega))) (Nat.le_of_ble_eq_true rfl) ?_
    intro r I1806 J1807 Ra hq
    obtain ⟨ec, g1808, g1809, er, p1805⟩ := hq
    rw [ec, er]
    clear ec er Ra r
    have e1811 : J1807 (ad g 1) 5 = w1787 := by rw [FCx_at hy g1809 1 (by decide) (by decide)]; exact ew1787
    have fI1812 : FC g [4] I I1806 := FC_tr fI0 (FC_mono g1808 (by decide))
    have fJ1813 : FC g [20] J J1807 := FC_tr fJ0 (FC_mono g1809 (by decide))
    try simp only [e1811, ew1787] at p1805
    refine WQ_iconst (0) (0) dX3_faultOfName_96 rfl rfl (fun v1814 hv1814 => ?_)
    exact WP_iret dX3_faultOfName_97 rfl ⟨rfl, fI1812, fJ1813, v1814, rfl, by
      try simp only [e1811, ew1787]
      have z9 := p1805.2 (by omega)
      rw [c5] at z9
      exact Or.inr ⟨by omega, _, _, (by rw [prt_m hk, if_neg (by omega)]), z9, PRX_v ⟨hi0, hc0⟩⟩⟩
  · refine WQ_iconst (3) (3) dX3_faultOfName_71 rfl rfl (fun v1815 hv1815 => ?_)
    exact WP_iret dX3_faultOfName_72 rfl ⟨rfl, fI0, fJ0, v1815, rfl, by
      try simp only [ew1787]
      refine Or.inl ⟨3, by omega, by decide, ?_⟩
      rw [prt_m hk, if_pos (by omega)]⟩
set_option maxHeartbeats 4000000 in
set_option maxRecDepth 100000 in
theorem ex_fon115a {g : GG} {I : pI} {J : pJ} {R : pR} (hy : LyX g) (hr : RfX g R) {B : Nat → Int} {n p c i : Nat} {S : TwS} {P : Nat → Int} (pt : Int32) (cl : Int32) (ix : Int32) (hpt : pt.toInt = 115) (hcl : cl.toInt = (c : Int)) (hc12 : c < 12) (hix : ix.toInt = (i : Int)) (hi5 : i < 5) (hC : CUX g B n p I J) (hR : RTX g 6 S I J) (hB : SBn S) (hP : PRX g P (loP c) i I) (hk : tK B n p = 1) (hrs : 115 = 110 → S.1 0 1 < 4) (hrt : 115 = 109 → S.1 0 2 < 3) (hn0 : 115 = 110 ∨ 115 = 109 → i = 0 ∧ (c = 1 ∨ c = 2)) (h7 : 115 = 116 → c ≠ 7) : SP g mX3_faultOfName [.ref (ad g 3), .int pt, .int cl, .int ix, .ref (ad g 6)] I J R (fun r I' J' R' => R' = R ∧ FC g [4] I I' ∧ FC g [20] J J' ∧ ∃ v : Int32, r = some (.int v) ∧ ((∃ k : Nat, v.toInt = (k : Int) ∧ k ≠ 0 ∧ prt B n c i 115 p S P = .error (k, tF B n p)) ∨ (v.toInt = 0 ∧ ∃ S2 P2, prt B n c i 115 p S P = .ok (S2, P2) ∧ RTX g 6 S2 I' J' ∧ PRX g P2 (loP c) (i + 1) I'))) := by
  refine SP_of ⟨by decide, rfl⟩ (Nat.le_of_ble_eq_true rfl) ?_
  have fI0 : FC g [4] I I := FC_rf
  have fJ0 : FC g [20] J J := FC_rf
  have c5 := hC.2.2.2.2 hk
  obtain ⟨w1816, ew1816⟩ : ∃ w : Int64, J (ad g 1) 5 = w := ⟨_, rfl⟩
  try simp only [ew1816] at c5
  refine WP_iload_n dX3_faultOfName_0 rfl ?_
  refine WQ_bipush (115) (115) dX3_faultOfName_1 rfl rfl (fun v1817 hv1817 => ?_)
  refine WQ_icmp_eq 12 dX3_faultOfName_3 rfl (fun c1817 => ?_) (fun c1817 => False.elim (by omega))
  refine WQ_iconst (1) (1) dX3_faultOfName_12 rfl rfl (fun v1819 hv1819 => ?_)
  refine WP_goto 17 dX3_faultOfName_13 rfl ?_
  refine WP_istore (ls' := [(0, _), (1, _), (2, _), (3, _), (4, _), (5, _)]) dX3_faultOfName_17 (by decide) rfl ?_
  refine WP_iload dX3_faultOfName_19 rfl ?_
  refine WQ_if_eq 39 dX3_faultOfName_21 rfl (fun c1819 => False.elim (by omega)) (fun c1819 => ?_)
  refine WP_aload dX3_faultOfName_24 rfl ?_
  refine WP_aload_n dX3_faultOfName_26 rfl ?_
  refine WP_getr dX3_faultOfName_27 fX3_15 rfl (lyx_is hy 3 3 rfl) (rfx hr 3 2 1 (by decide)) ?_
  refine WP_getl dX3_faultOfName_30 fX3_80 rfl (lyx_is hy 1 5 rfl) ?_
  rw [ew1816]
  refine WP_callV1 (k := 7) dX3_faultOfName_33 ⟨⟨⟨by decide, by decide⟩, zX7_sortNamed⟩, lX3_103, by decide, rfl, vX7_sortNamed.1, vX7_sortNamed.2⟩ (lyx_is hy 6 7 rfl) (ex_sortNameda hy hr _  hR hB) (Nat.le_of_ble_eq_true rfl) ?_
  intro r Ia Ja Ra hq
  obtain ⟨⟨ea, eb, ec⟩, v1822, er, p1821⟩ := hq
  rw [ea, eb, ec, er]
  clear ea eb ec er Ia Ja Ra r
  rw [c5] at p1821
  refine WP_goto 51 dX3_faultOfName_36 rfl ?_
  refine WP_istore (ls' := [(0, _), (1, _), (2, _), (3, _), (4, _), (5, _), (6, _)]) dX3_faultOfName_51 (by decide) rfl ?_
  refine WP_iload_n dX3_faultOfName_53 rfl ?_
  refine WQ_bipush (110) (110) dX3_faultOfName_54 rfl rfl (fun v1823 hv1823 => ?_)
  refine WQ_icmp_eq 65 dX3_faultOfName_56 rfl (fun c1823 => False.elim (by omega)) (fun c1823 => ?_)
  refine WP_iload_n dX3_faultOfName_59 rfl ?_
  refine WQ_bipush (109) (109) dX3_faultOfName_60 rfl rfl (fun v1825 hv1825 => ?_)
  refine WQ_icmp_ne 98 dX3_faultOfName_62 rfl (fun c1825 => ?_) (fun c1825 => False.elim (by omega))
  refine WP_iload dX3_faultOfName_98 rfl ?_
  refine WQ_iconst (-1) (-1) dX3_faultOfName_100 rfl rfl (fun v1827 hv1827 => ?_)
  refine WQ_icmp_ne 106 dX3_faultOfName_101 rfl (fun c1827 => ?_) (fun c1827 => ?_)
  · refine WP_aload_n dX3_faultOfName_106 rfl ?_
    refine WP_getr dX3_faultOfName_107 fX3_9 rfl (lyx_is hy 3 3 rfl) (rfx hr 3 3 4 (by decide)) ?_
    refine WP_iload_n dX3_faultOfName_110 rfl ?_
    refine WP_iload dX3_faultOfName_111 rfl ?_
    refine WE_is dX3_faultOfName_113 (lyx_is hy 4 13 rfl) (lyx_n hy 4 5 rfl) (by omega) (by omega) (fun I1829 eI1829 => ?_)
    have fI1830 : FC g [4] I I1829 := by rw [eI1829]; exact FC_pp fI0 (by decide)
    have hb0 := fnS_b (S := S) (w := tW B n p) (by omega) (by unfold SBn at hB; omega)
    have hbB := hB
    unfold SBn at hbB
    have hR2 : RTX g 6 S I1829 J := RTX_fr hy (by decide) hR fI1830 (FC_rf (C := [])) (by decide) (by decide)
    have hP2 : PRX g (fun j => if j = i then fnS S (tW B n p) else P j) (loP c) (i + 1) I1829 := by
      rw [eI1829, show ix.toInt.toNat = i by omega]
      exact PRX_set hP (by omega)
    refine WP_iload_n dX3_faultOfName_114 rfl ?_
    refine WQ_bipush (7) (7) dX3_faultOfName_115 rfl rfl (fun v1831 hv1831 => ?_)
    refine WQ_icmp_ne 137 dX3_faultOfName_117 rfl (fun c1831 => ?_) (fun c1831 => ?_)
    · refine WQ_iconst (0) (0) dX3_faultOfName_137 rfl rfl (fun v1833 hv1833 => ?_)
      exact WP_iret dX3_faultOfName_138 rfl ⟨rfl, fI1830, fJ0, v1833, rfl, by
        try simp only [ew1816]
        refine Or.inr ⟨by omega, _, _, (by rw [prt_s hk, if_neg (by omega), if_neg (by rintro ⟨z3, -⟩; omega)]), hR2, hP2⟩⟩
    · refine WP_aload dX3_faultOfName_120 rfl ?_
      refine WQ_bipush (7) (7) dX3_faultOfName_122 rfl rfl (fun v1834 hv1834 => ?_)
      refine WP_iload dX3_faultOfName_124 rfl ?_
      refine WQ_iconst (0) (0) dX3_faultOfName_126 rfl rfl (fun v1835 hv1835 => ?_)
      refine WP_callV3 (k := 7) dX3_faultOfName_127 ⟨⟨⟨by decide, by decide⟩, zX7_isTold⟩, lX3_114, by decide, rfl, vX7_isTold.1, vX7_isTold.2⟩ (lyx_is hy 6 7 rfl) (ex_isTolda hy hr _ _ _  (ro := 28 + (fnS S (tW B n p)).toNat) (d := 0) hR2 (by omega) (by omega) (by omega) (by omega) (by omega) (by decide)) (Nat.le_of_ble_eq_true rfl) ?_
      intro r Ia Ja Ra hq
      obtain ⟨⟨ea, eb, ec⟩, v1837, er, p1836⟩ := hq
      rw [ea, eb, ec, er]
      clear ea eb ec er Ia Ja Ra r
      refine WQ_if_eq 137 dX3_faultOfName_130 rfl (fun c1837 => ?_) (fun c1837 => ?_)
      · refine WQ_iconst (0) (0) dX3_faultOfName_137 rfl rfl (fun v1839 hv1839 => ?_)
        exact WP_iret dX3_faultOfName_138 rfl ⟨rfl, fI1830, fJ0, v1839, rfl, by
          try simp only [ew1816]
          rcases p1836 with ⟨z1, z2⟩ | ⟨z1, z2⟩
          · first
            | exact absurd z1 (by omega)
            | (refine Or.inl ⟨3, by omega, by decide, ?_⟩; rw [prt_s hk, if_neg (by omega), if_pos ⟨by omega, z2⟩])
          · first
            | exact absurd z1 (by omega)
            | (refine Or.inr ⟨by omega, _, _, (by rw [prt_s hk, if_neg (by omega), if_neg (by rintro ⟨-, z3⟩; rw [z2] at z3; exact absurd z3 (by decide))]), hR2, hP2⟩)⟩
      · refine WQ_iconst (3) (3) dX3_faultOfName_133 rfl rfl (fun v1840 hv1840 => ?_)
        refine WP_goto 138 dX3_faultOfName_134 rfl ?_
        exact WP_iret dX3_faultOfName_138 rfl ⟨rfl, fI1830, fJ0, v1840, rfl, by
          try simp only [ew1816]
          rcases p1836 with ⟨z1, z2⟩ | ⟨z1, z2⟩
          · first
            | exact absurd z1 (by omega)
            | (refine Or.inl ⟨3, by omega, by decide, ?_⟩; rw [prt_s hk, if_neg (by omega), if_pos ⟨by omega, z2⟩])
          · first
            | exact absurd z1 (by omega)
            | (refine Or.inr ⟨by omega, _, _, (by rw [prt_s hk, if_neg (by omega), if_neg (by rintro ⟨-, z3⟩; rw [z2] at z3; exact absurd z3 (by decide))]), hR2, hP2⟩)⟩
  · refine WQ_iconst (5) (5) dX3_faultOfName_104 rfl rfl (fun v1841 hv1841 => ?_)
    exact WP_iret dX3_faultOfName_105 rfl ⟨rfl, fI0, fJ0, v1841, rfl, by
      try simp only [ew1816]
      refine Or.inl ⟨5, by omega, by decide, ?_⟩
      rw [prt_s hk, if_pos (by omega)]⟩
set_option maxHeartbeats 4000000 in
set_option maxRecDepth 100000 in
theorem ex_fon116a {g : GG} {I : pI} {J : pJ} {R : pR} (hy : LyX g) (hr : RfX g R) {B : Nat → Int} {n p c i : Nat} {S : TwS} {P : Nat → Int} (pt : Int32) (cl : Int32) (ix : Int32) (hpt : pt.toInt = 116) (hcl : cl.toInt = (c : Int)) (hc12 : c < 12) (hix : ix.toInt = (i : Int)) (hi5 : i < 5) (hC : CUX g B n p I J) (hR : RTX g 6 S I J) (hB : SBn S) (hP : PRX g P (loP c) i I) (hk : tK B n p = 1) (hrs : 116 = 110 → S.1 0 1 < 4) (hrt : 116 = 109 → S.1 0 2 < 3) (hn0 : 116 = 110 ∨ 116 = 109 → i = 0 ∧ (c = 1 ∨ c = 2)) (h7 : 116 = 116 → c ≠ 7) : SP g mX3_faultOfName [.ref (ad g 3), .int pt, .int cl, .int ix, .ref (ad g 6)] I J R (fun r I' J' R' => R' = R ∧ FC g [4] I I' ∧ FC g [20] J J' ∧ ∃ v : Int32, r = some (.int v) ∧ ((∃ k : Nat, v.toInt = (k : Int) ∧ k ≠ 0 ∧ prt B n c i 116 p S P = .error (k, tF B n p)) ∨ (v.toInt = 0 ∧ ∃ S2 P2, prt B n c i 116 p S P = .ok (S2, P2) ∧ RTX g 6 S2 I' J' ∧ PRX g P2 (loP c) (i + 1) I'))) := by
  refine SP_of ⟨by decide, rfl⟩ (Nat.le_of_ble_eq_true rfl) ?_
  have fI0 : FC g [4] I I := FC_rf
  have fJ0 : FC g [20] J J := FC_rf
  have c5 := hC.2.2.2.2 hk
  obtain ⟨w1842, ew1842⟩ : ∃ w : Int64, J (ad g 1) 5 = w := ⟨_, rfl⟩
  try simp only [ew1842] at c5
  refine WP_iload_n dX3_faultOfName_0 rfl ?_
  refine WQ_bipush (115) (115) dX3_faultOfName_1 rfl rfl (fun v1843 hv1843 => ?_)
  refine WQ_icmp_eq 12 dX3_faultOfName_3 rfl (fun c1843 => False.elim (by omega)) (fun c1843 => ?_)
  refine WP_iload_n dX3_faultOfName_6 rfl ?_
  refine WQ_bipush (110) (110) dX3_faultOfName_7 rfl rfl (fun v1845 hv1845 => ?_)
  refine WQ_icmp_ne 16 dX3_faultOfName_9 rfl (fun c1845 => ?_) (fun c1845 => False.elim (by omega))
  refine WQ_iconst (0) (0) dX3_faultOfName_16 rfl rfl (fun v1847 hv1847 => ?_)
  refine WP_istore (ls' := [(0, _), (1, _), (2, _), (3, _), (4, _), (5, _)]) dX3_faultOfName_17 (by decide) rfl ?_
  refine WP_iload dX3_faultOfName_19 rfl ?_
  refine WQ_if_eq 39 dX3_faultOfName_21 rfl (fun c1847 => ?_) (fun c1847 => False.elim (by omega))
  refine WP_aload dX3_faultOfName_39 rfl ?_
  refine WP_aload_n dX3_faultOfName_41 rfl ?_
  refine WP_getr dX3_faultOfName_42 fX3_15 rfl (lyx_is hy 3 3 rfl) (rfx hr 3 2 1 (by decide)) ?_
  refine WP_getl dX3_faultOfName_45 fX3_80 rfl (lyx_is hy 1 5 rfl) ?_
  rw [ew1842]
  refine WP_callV1 (k := 7) dX3_faultOfName_48 ⟨⟨⟨by decide, by decide⟩, zX7_thingNamed⟩, lX3_107, by decide, rfl, vX7_thingNamed.1, vX7_thingNamed.2⟩ (lyx_is hy 6 7 rfl) (ex_thingNameda hy hr _  hR hB) (Nat.le_of_ble_eq_true rfl) ?_
  intro r Ia Ja Ra hq
  obtain ⟨⟨ea, eb, ec⟩, v1850, er, p1849⟩ := hq
  rw [ea, eb, ec, er]
  clear ea eb ec er Ia Ja Ra r
  rw [c5] at p1849
  refine WP_istore (ls' := [(0, _), (1, _), (2, _), (3, _), (4, _), (5, _), (6, _)]) dX3_faultOfName_51 (by decide) rfl ?_
  refine WP_iload_n dX3_faultOfName_53 rfl ?_
  refine WQ_bipush (110) (110) dX3_faultOfName_54 rfl rfl (fun v1851 hv1851 => ?_)
  refine WQ_icmp_eq 65 dX3_faultOfName_56 rfl (fun c1851 => False.elim (by omega)) (fun c1851 => ?_)
  refine WP_iload_n dX3_faultOfName_59 rfl ?_
  refine WQ_bipush (109) (109) dX3_faultOfName_60 rfl rfl (fun v1853 hv1853 => ?_)
  refine WQ_icmp_ne 98 dX3_faultOfName_62 rfl (fun c1853 => ?_) (fun c1853 => False.elim (by omega))
  refine WP_iload dX3_faultOfName_98 rfl ?_
  refine WQ_iconst (-1) (-1) dX3_faultOfName_100 rfl rfl (fun v1855 hv1855 => ?_)
  refine WQ_icmp_ne 106 dX3_faultOfName_101 rfl (fun c1855 => ?_) (fun c1855 => ?_)
  · refine WP_aload_n dX3_faultOfName_106 rfl ?_
    refine WP_getr dX3_faultOfName_107 fX3_9 rfl (lyx_is hy 3 3 rfl) (rfx hr 3 3 4 (by decide)) ?_
    refine WP_iload_n dX3_faultOfName_110 rfl ?_
    refine WP_iload dX3_faultOfName_111 rfl ?_
    refine WE_is dX3_faultOfName_113 (lyx_is hy 4 13 rfl) (lyx_n hy 4 5 rfl) (by omega) (by omega) (fun I1857 eI1857 => ?_)
    have fI1858 : FC g [4] I I1857 := by rw [eI1857]; exact FC_pp fI0 (by decide)
    have hb0 := fnT_b (S := S) (w := tW B n p) (by omega) (by unfold SBn at hB; omega)
    have hbB := hB
    unfold SBn at hbB
    have hR2 : RTX g 6 S I1857 J := RTX_fr hy (by decide) hR fI1858 (FC_rf (C := [])) (by decide) (by decide)
    have hP2 : PRX g (fun j => if j = i then fnT S (tW B n p) else P j) (loP c) (i + 1) I1857 := by
      rw [eI1857, show ix.toInt.toNat = i by omega]
      exact PRX_set hP (by omega)
    refine WP_iload_n dX3_faultOfName_114 rfl ?_
    refine WQ_bipush (7) (7) dX3_faultOfName_115 rfl rfl (fun v1859 hv1859 => ?_)
    refine WQ_icmp_ne 137 dX3_faultOfName_117 rfl (fun c1859 => ?_) (fun c1859 => ?_)
    · refine WQ_iconst (0) (0) dX3_faultOfName_137 rfl rfl (fun v1861 hv1861 => ?_)
      exact WP_iret dX3_faultOfName_138 rfl ⟨rfl, fI1858, fJ0, v1861, rfl, by
        try simp only [ew1842]
        refine Or.inr ⟨by omega, _, _, (by rw [prt_t hk, if_neg (by omega)]), hR2, hP2⟩⟩
    · refine WP_aload dX3_faultOfName_120 rfl ?_
      refine WQ_bipush (7) (7) dX3_faultOfName_122 rfl rfl (fun v1862 hv1862 => ?_)
      refine WP_iload dX3_faultOfName_124 rfl ?_
      refine WQ_iconst (0) (0) dX3_faultOfName_126 rfl rfl (fun v1863 hv1863 => ?_)
      refine WP_callV3 (k := 7) dX3_faultOfName_127 ⟨⟨⟨by decide, by decide⟩, zX7_isTold⟩, lX3_114, by decide, rfl, vX7_isTold.1, vX7_isTold.2⟩ (lyx_is hy 6 7 rfl) (ex_isTolda hy hr _ _ _  (ro := 28 + (fnS S (tW B n p)).toNat) (d := 0) hR2 (by omega) (by omega) (by omega) (by omega) (by omega) (by decide)) (Nat.le_of_ble_eq_true rfl) ?_
      intro r Ia Ja Ra hq
      obtain ⟨⟨ea, eb, ec⟩, v1865, er, p1864⟩ := hq
      rw [ea, eb, ec, er]
      clear ea eb ec er Ia Ja Ra r
      refine WQ_if_eq 137 dX3_faultOfName_130 rfl (fun c1865 => ?_) (fun c1865 => ?_)
      · refine WQ_iconst (0) (0) dX3_faultOfName_137 rfl rfl (fun v1867 hv1867 => ?_)
        exact WP_iret dX3_faultOfName_138 rfl ⟨rfl, fI1858, fJ0, v1867, rfl, by
          try simp only [ew1842]
          rcases p1864 with ⟨z1, z2⟩ | ⟨z1, z2⟩
          · first
            | exact absurd z1 (by omega)
            | (refine Or.inl ⟨3, by omega, by decide, ?_⟩; rw [prt_s hk, if_neg (by omega), if_pos ⟨by omega, z2⟩])
          · first
            | exact absurd z1 (by omega)
            | (refine Or.inr ⟨by omega, _, _, (by rw [prt_s hk, if_neg (by omega), if_neg (by rintro ⟨-, z3⟩; rw [z2] at z3; exact absurd z3 (by decide))]), hR2, hP2⟩)⟩
      · refine WQ_iconst (3) (3) dX3_faultOfName_133 rfl rfl (fun v1868 hv1868 => ?_)
        refine WP_goto 138 dX3_faultOfName_134 rfl ?_
        exact WP_iret dX3_faultOfName_138 rfl ⟨rfl, fI1858, fJ0, v1868, rfl, by
          try simp only [ew1842]
          rcases p1864 with ⟨z1, z2⟩ | ⟨z1, z2⟩
          · first
            | exact absurd z1 (by omega)
            | (refine Or.inl ⟨3, by omega, by decide, ?_⟩; rw [prt_s hk, if_neg (by omega), if_pos ⟨by omega, z2⟩])
          · first
            | exact absurd z1 (by omega)
            | (refine Or.inr ⟨by omega, _, _, (by rw [prt_s hk, if_neg (by omega), if_neg (by rintro ⟨-, z3⟩; rw [z2] at z3; exact absurd z3 (by decide))]), hR2, hP2⟩)⟩
  · refine WQ_iconst (5) (5) dX3_faultOfName_104 rfl rfl (fun v1869 hv1869 => ?_)
    exact WP_iret dX3_faultOfName_105 rfl ⟨rfl, fI0, fJ0, v1869, rfl, by
      try simp only [ew1842]
      refine Or.inl ⟨5, by omega, by decide, ?_⟩
      rw [prt_t hk, if_pos (by omega)]⟩
theorem ex_fona {g : GG} {I : pI} {J : pJ} {R : pR} (hy : LyX g) (hr : RfX g R) {B : Nat → Int} {n p c i ch : Nat} {S : TwS} {P : Nat → Int} (pt cl ix : Int32) (hch : pt.toInt = (ch : Int)) (hcl : cl.toInt = (c : Int)) (hc12 : c < 12) (hix : ix.toInt = (i : Int)) (hi5 : i < 5) (hC : CUX g B n p I J) (hR : RTX g 6 S I J) (hB : SBn S) (hP : PRX g P (loP c) i I) (hk : tK B n p = 1) (h4 : ch = 110 ∨ ch = 109 ∨ ch = 115 ∨ ch = 116) (hrs : ch = 110 → S.1 0 1 < 4) (hrt : ch = 109 → S.1 0 2 < 3) (hn0 : ch = 110 ∨ ch = 109 → i = 0 ∧ (c = 1 ∨ c = 2)) (h7 : ch = 116 → c ≠ 7) : SP g mX3_faultOfName [.ref (ad g 3), .int pt, .int cl, .int ix, .ref (ad g 6)] I J R (fun r I' J' R' => R' = R ∧ FC g [4] I I' ∧ FC g [20] J J' ∧ ∃ v : Int32, r = some (.int v) ∧ ((∃ k : Nat, v.toInt = (k : Int) ∧ k ≠ 0 ∧ prt B n c i ch p S P = .error (k, tF B n p)) ∨ (v.toInt = 0 ∧ ∃ S2 P2, prt B n c i ch p S P = .ok (S2, P2) ∧ RTX g 6 S2 I' J' ∧ PRX g P2 (loP c) (i + 1) I'))) := by
  rcases h4 with rfl | rfl | rfl | rfl
  · exact ex_fon110a hy hr pt cl ix hch hcl hc12 hix hi5 hC hR hB hP hk hrs hrt hn0 h7
  · exact ex_fon109a hy hr pt cl ix hch hcl hc12 hix hi5 hC hR hB hP hk hrs hrt hn0 h7
  · exact ex_fon115a hy hr pt cl ix hch hcl hc12 hix hi5 hC hR hB hP hk hrs hrt hn0 h7
  · exact ex_fon116a hy hr pt cl ix hch hcl hc12 hix hi5 hC hR hB hP hk hrs hrt hn0 h7
set_option maxHeartbeats 4000000 in
set_option maxRecDepth 100000 in
theorem ex_fnua {g : GG} {I : pI} {J : pJ} {R : pR} (hy : LyX g) (hr : RfX g R) {B : Nat → Int} {n p c i ch : Nat} {S : TwS} {P : Nat → Int} (pt : Int32) (cl : Int32) (ix : Int32) (hch : pt.toInt = (ch : Int)) (hcl : cl.toInt = (c : Int)) (hc12 : c < 12) (hix : ix.toInt = (i : Int)) (hi5 : i < 5) (hC : CUX g B n p I J) (hR : RTX g 6 S I J) (hB : SBn S) (hP : PRX g P (loP c) i I) (hk : tK B n p = 2) (h97 : ch < 97) (hD : ch = 68 → c ≠ 0 → 1 ≤ i ∧ loP c = 0 ∧ 0 ≤ P 0 ∧ P 0 < 4) : SP g mX3_faultOfNumber [.ref (ad g 3), .int pt, .int cl, .int ix, .ref (ad g 6)] I J R (fun r I' J' R' => R' = R ∧ FC g [4] I I' ∧ FC g [20] J J' ∧ ∃ v : Int32, r = some (.int v) ∧ ((∃ k : Nat, v.toInt = (k : Int) ∧ k ≠ 0 ∧ prt B n c i ch p S P = .error (k, tF B n p)) ∨ (v.toInt = 0 ∧ ∃ S2 P2, prt B n c i ch p S P = .ok (S2, P2) ∧ RTX g 6 S2 I' J' ∧ PRX g P2 (loP c) (i + 1) I'))) := by
  refine SP_of ⟨by decide, rfl⟩ (Nat.le_of_ble_eq_true rfl) ?_
  have fI0 : FC g [4] I I := FC_rf
  have fJ0 : FC g [20] J J := FC_rf
  have c4 := hC.2.2.2.1 hk
  obtain ⟨w1870, ew1870⟩ : ∃ w : Int32, I (ad g 1) 4 = w := ⟨_, rfl⟩
  try simp only [ew1870] at c4
  refine WP_aload_n dX3_faultOfNumber_0 rfl ?_
  refine WP_getr dX3_faultOfNumber_1 fX3_15 rfl (lyx_is hy 3 3 rfl) (rfx hr 3 2 1 (by decide)) ?_
  refine WQ_getim dX3_faultOfNumber_4 fX3_118 rfl (lyx_is hy 1 5 rfl) ew1870 ?_
  refine WP_istore (ls' := [(0, _), (1, _), (2, _), (3, _), (4, _), (5, _)]) dX3_faultOfNumber_7 (by decide) rfl ?_
  refine WP_iload dX3_faultOfNumber_9 rfl ?_
  refine WP_iload_n dX3_faultOfNumber_11 rfl ?_
  refine WP_callS1 dX3_faultOfNumber_12 ⟨⟨⟨by decide, by decide⟩, zX3_leastOf⟩, lX3_121, tX3_leastOf⟩ (ex_leastOf hy hr _  hch) (Nat.le_of_ble_eq_true rfl) ?_
  intro r Ia Ja Ra hq
  obtain ⟨⟨ea, eb, ec⟩, v1872, er, p1871⟩ := hq
  rw [ea, eb, ec, er]
  clear ea eb ec er Ia Ja Ra r
  refine WQ_icmp_lt 27 dX3_faultOfNumber_15 rfl (fun c1872 => ?_) (fun c1872 => ?_)
  · refine WQ_iconst (2) (2) dX3_faultOfNumber_27 rfl rfl (fun v1874 hv1874 => ?_)
    exact WP_iret dX3_faultOfNumber_28 rfl ⟨rfl, fI0, fJ0, v1874, rfl, by
      try simp only [ew1870]
      refine Or.inl ⟨2, by omega, by decide, ?_⟩
      rw [prt_u h97 hk, if_pos (by omega)]⟩
  · refine WP_iload dX3_faultOfNumber_18 rfl ?_
    refine WP_iload_n dX3_faultOfNumber_20 rfl ?_
    refine WP_callS1 dX3_faultOfNumber_21 ⟨⟨⟨by decide, by decide⟩, zX3_mostOf⟩, lX3_125, tX3_mostOf⟩ (ex_mostOf hy hr _  hch) (Nat.le_of_ble_eq_true rfl) ?_
    intro r Ia Ja Ra hq
    obtain ⟨⟨ea, eb, ec⟩, v1876, er, p1875⟩ := hq
    rw [ea, eb, ec, er]
    clear ea eb ec er Ia Ja Ra r
    refine WQ_icmp_le 29 dX3_faultOfNumber_24 rfl (fun c1876 => ?_) (fun c1876 => ?_)
    · refine WP_aload_n dX3_faultOfNumber_29 rfl ?_
      refine WP_getr dX3_faultOfNumber_30 fX3_9 rfl (lyx_is hy 3 3 rfl) (rfx hr 3 3 4 (by decide)) ?_
      refine WP_iload_n dX3_faultOfNumber_33 rfl ?_
      refine WP_iload dX3_faultOfNumber_34 rfl ?_
      refine WE_is dX3_faultOfNumber_36 (lyx_is hy 4 13 rfl) (lyx_n hy 4 5 rfl) (by omega) (by omega) (fun I1878 eI1878 => ?_)
      have e1879 : I1878 (ad g 1) 4 = w1870 := by rw [eI1878, pp_ne _ _ (Or.inl (lyx_ne hy (by decide) (by decide) (by decide)))]; exact ew1870
      have fI1880 : FC g [4] I I1878 := by rw [eI1878]; exact FC_pp fI0 (by decide)
      have hR2 : RTX g 6 S I1878 J := RTX_fr hy (by decide) hR fI1880 (FC_rf (C := [])) (by decide) (by decide)
      have hP2 : PRX g (fun j => if j = i then tV B n p else P j) (loP c) (i + 1) I1878 := by
        rw [eI1878, show ix.toInt.toNat = i by omega]
        exact PRX_set hP (by omega)
      refine WP_iload_n dX3_faultOfNumber_37 rfl ?_
      refine WQ_bipush (68) (68) dX3_faultOfNumber_38 rfl rfl (fun v1881 hv1881 => ?_)
      refine WQ_icmp_eq 45 dX3_faultOfNumber_40 rfl (fun c1881 => ?_) (fun c1881 => ?_)
      · have h68 : ch = 68 := by omega
        subst h68
        have hlo : loB 68 = 0 := rfl
        have hhi : hiB 68 = 6 := rfl
        refine WP_aload dX3_faultOfNumber_45 rfl ?_
        refine WP_iload_n dX3_faultOfNumber_47 rfl ?_
        refine WP_iload_n dX3_faultOfNumber_48 rfl ?_
        refine WQ_if_ne 56 dX3_faultOfNumber_49 rfl (fun c1882 => ?_) (fun c1882 => ?_)
        · obtain ⟨d1, d2, d3, d4⟩ := hD rfl (by omega)
          refine WP_aload_n dX3_faultOfNumber_56 rfl ?_
          refine WP_getr dX3_faultOfNumber_57 fX3_9 rfl (lyx_is hy 3 3 rfl) (rfx hr 3 3 4 (by decide)) ?_
          refine WQ_iconst (0) (0) dX3_faultOfNumber_60 rfl rfl (fun v1884 hv1884 => ?_)
          obtain ⟨w1886, ew1886⟩ : ∃ w : Int32, I1878 (ad g 4) 0 = w := ⟨_, rfl⟩
          refine WE_iak (z := 0) dX3_faultOfNumber_61 (lyx_is hy 4 13 rfl) (lyx_n hy 4 5 rfl) hv1884 (by decide) ew1886 ?_
          have hw0 : w1886.toInt = P 0 := by
            rw [← ew1886, eI1878, pp_ne _ _ (Or.inr (by omega))]
            exact hP 0 (by omega) (by omega)
          refine WP_iload dX3_faultOfNumber_62 rfl ?_
          refine WP_callV3 (k := 7) dX3_faultOfNumber_64 ⟨⟨⟨by decide, by decide⟩, zX7_isTold⟩, lX3_114, by decide, rfl, vX7_isTold.1, vX7_isTold.2⟩ (lyx_is hy 6 7 rfl) (ex_isTolda hy hr _ _ _  (ro := c * 4 + (if c = 0 then 0 else (P 0).toNat)) (d := (tV B n p).toNat) hR2 (by rw [if_neg (show ¬ c = 0 by omega)]; omega) (by rw [if_neg (show ¬ c = 0 by omega)]; omega) (by omega) (by omega) (by omega) (by omega)) (Nat.le_of_ble_eq_true rfl) ?_
          intro r Ia Ja Ra hq
          obtain ⟨⟨ea, eb, ec⟩, v1888, er, p1887⟩ := hq
          rw [ea, eb, ec, er]
          clear ea eb ec er Ia Ja Ra r
          refine WQ_if_eq 74 dX3_faultOfNumber_67 rfl (fun c1888 => ?_) (fun c1888 => ?_)
          · refine WQ_iconst (0) (0) dX3_faultOfNumber_74 rfl rfl (fun v1890 hv1890 => ?_)
            exact WP_iret dX3_faultOfNumber_75 rfl ⟨rfl, fI1880, fJ0, v1890, rfl, by
              try simp only [e1879, ew1886, ew1870]
              rcases p1887 with ⟨z1, z2⟩ | ⟨z1, z2⟩
              · first
                | exact absurd z1 (by omega)
                | (refine Or.inl ⟨3, by omega, by decide, ?_⟩; rw [prt_u h97 hk, if_neg (by omega), if_pos ⟨rfl, z2⟩])
              · first
                | exact absurd z1 (by omega)
                | (refine Or.inr ⟨by omega, _, _, (by rw [prt_u h97 hk, if_neg (by omega), if_neg (by rintro ⟨-, z3⟩; rw [z2] at z3; exact absurd z3 (by decide))]), hR2, hP2⟩)⟩
          · refine WQ_iconst (3) (3) dX3_faultOfNumber_70 rfl rfl (fun v1891 hv1891 => ?_)
            refine WP_goto 75 dX3_faultOfNumber_71 rfl ?_
            exact WP_iret dX3_faultOfNumber_75 rfl ⟨rfl, fI1880, fJ0, v1891, rfl, by
              try simp only [e1879, ew1886, ew1870]
              rcases p1887 with ⟨z1, z2⟩ | ⟨z1, z2⟩
              · first
                | exact absurd z1 (by omega)
                | (refine Or.inl ⟨3, by omega, by decide, ?_⟩; rw [prt_u h97 hk, if_neg (by omega), if_pos ⟨rfl, z2⟩])
              · first
                | exact absurd z1 (by omega)
                | (refine Or.inr ⟨by omega, _, _, (by rw [prt_u h97 hk, if_neg (by omega), if_neg (by rintro ⟨-, z3⟩; rw [z2] at z3; exact absurd z3 (by decide))]), hR2, hP2⟩)⟩
        · refine WQ_iconst (0) (0) dX3_faultOfNumber_52 rfl rfl (fun v1892 hv1892 => ?_)
          refine WP_goto 62 dX3_faultOfNumber_53 rfl ?_
          refine WP_iload dX3_faultOfNumber_62 rfl ?_
          refine WP_callV3 (k := 7) dX3_faultOfNumber_64 ⟨⟨⟨by decide, by decide⟩, zX7_isTold⟩, lX3_114, by decide, rfl, vX7_isTold.1, vX7_isTold.2⟩ (lyx_is hy 6 7 rfl) (ex_isTolda hy hr _ _ _  (ro := c * 4 + (if c = 0 then 0 else (P 0).toNat)) (d := (tV B n p).toNat) hR2 (by rw [if_pos (show c = 0 by omega)]; omega) (by rw [if_pos (show c = 0 by omega)]; omega) (by omega) (by omega) (by omega) (by omega)) (Nat.le_of_ble_eq_true rfl) ?_
          intro r Ia Ja Ra hq
          obtain ⟨⟨ea, eb, ec⟩, v1894, er, p1893⟩ := hq
          rw [ea, eb, ec, er]
          clear ea eb ec er Ia Ja Ra r
          refine WQ_if_eq 74 dX3_faultOfNumber_67 rfl (fun c1894 => ?_) (fun c1894 => ?_)
          · refine WQ_iconst (0) (0) dX3_faultOfNumber_74 rfl rfl (fun v1896 hv1896 => ?_)
            exact WP_iret dX3_faultOfNumber_75 rfl ⟨rfl, fI1880, fJ0, v1896, rfl, by
              try simp only [e1879, ew1870]
              rcases p1893 with ⟨z1, z2⟩ | ⟨z1, z2⟩
              · first
                | exact absurd z1 (by omega)
                | (refine Or.inl ⟨3, by omega, by decide, ?_⟩; rw [prt_u h97 hk, if_neg (by omega), if_pos ⟨rfl, z2⟩])
              · first
                | exact absurd z1 (by omega)
                | (refine Or.inr ⟨by omega, _, _, (by rw [prt_u h97 hk, if_neg (by omega), if_neg (by rintro ⟨-, z3⟩; rw [z2] at z3; exact absurd z3 (by decide))]), hR2, hP2⟩)⟩
          · refine WQ_iconst (3) (3) dX3_faultOfNumber_70 rfl rfl (fun v1897 hv1897 => ?_)
            refine WP_goto 75 dX3_faultOfNumber_71 rfl ?_
            exact WP_iret dX3_faultOfNumber_75 rfl ⟨rfl, fI1880, fJ0, v1897, rfl, by
              try simp only [e1879, ew1870]
              rcases p1893 with ⟨z1, z2⟩ | ⟨z1, z2⟩
              · first
                | exact absurd z1 (by omega)
                | (refine Or.inl ⟨3, by omega, by decide, ?_⟩; rw [prt_u h97 hk, if_neg (by omega), if_pos ⟨rfl, z2⟩])
              · first
                | exact absurd z1 (by omega)
                | (refine Or.inr ⟨by omega, _, _, (by rw [prt_u h97 hk, if_neg (by omega), if_neg (by rintro ⟨-, z3⟩; rw [z2] at z3; exact absurd z3 (by decide))]), hR2, hP2⟩)⟩
      · refine WQ_iconst (0) (0) dX3_faultOfNumber_43 rfl rfl (fun v1898 hv1898 => ?_)
        exact WP_iret dX3_faultOfNumber_44 rfl ⟨rfl, fI1880, fJ0, v1898, rfl, by
          try simp only [e1879, ew1870]
          exact Or.inr ⟨by omega, _, _, (by rw [prt_u h97 hk, if_neg (by omega), if_neg (by rintro ⟨z3, -⟩; omega)]), hR2, hP2⟩⟩
    · refine WQ_iconst (2) (2) dX3_faultOfNumber_27 rfl rfl (fun v1899 hv1899 => ?_)
      exact WP_iret dX3_faultOfNumber_28 rfl ⟨rfl, fI0, fJ0, v1899, rfl, by
        try simp only [ew1870]
        refine Or.inl ⟨2, by omega, by decide, ?_⟩
        rw [prt_u h97 hk, if_pos (by omega)]⟩
set_option maxHeartbeats 4000000 in
set_option maxRecDepth 100000 in
theorem ex_fon110b {g : GG} {I : pI} {J : pJ} {R : pR} (hy : LyX g) (hr : RfX g R) {B : Nat → Int} {n p c i : Nat} {S : TwS} {P : Nat → Int} (pt : Int32) (cl : Int32) (ix : Int32) (hpt : pt.toInt = 110) (hcl : cl.toInt = (c : Int)) (hc12 : c < 12) (hix : ix.toInt = (i : Int)) (hi5 : i < 5) (hC : CUX g B n p I J) (hR : RTX g 27 S I J) (hB : SBn S) (hP : PRX g P (loP c) i I) (hk : tK B n p = 1) (hrs : 110 = 110 → S.1 0 1 < 4) (hrt : 110 = 109 → S.1 0 2 < 3) (hn0 : 110 = 110 ∨ 110 = 109 → i = 0 ∧ (c = 1 ∨ c = 2)) (h7 : 110 = 116 → c ≠ 7) : SP g mX3_faultOfName [.ref (ad g 3), .int pt, .int cl, .int ix, .ref (ad g 27)] I J R (fun r I' J' R' => R' = R ∧ FC g [4] I I' ∧ FC g [41] J J' ∧ ∃ v : Int32, r = some (.int v) ∧ ((∃ k : Nat, v.toInt = (k : Int) ∧ k ≠ 0 ∧ prt B n c i 110 p S P = .error (k, tF B n p)) ∨ (v.toInt = 0 ∧ ∃ S2 P2, prt B n c i 110 p S P = .ok (S2, P2) ∧ RTX g 27 S2 I' J' ∧ PRX g P2 (loP c) (i + 1) I'))) := by
  refine SP_of ⟨by decide, rfl⟩ (Nat.le_of_ble_eq_true rfl) ?_
  have fI0 : FC g [4] I I := FC_rf
  have fJ0 : FC g [41] J J := FC_rf
  have c5 := hC.2.2.2.2 hk
  obtain ⟨w1900, ew1900⟩ : ∃ w : Int64, J (ad g 1) 5 = w := ⟨_, rfl⟩
  try simp only [ew1900] at c5
  obtain ⟨hi0, hc0⟩ := hn0 (by decide)
  refine WP_iload_n dX3_faultOfName_0 rfl ?_
  refine WQ_bipush (115) (115) dX3_faultOfName_1 rfl rfl (fun v1901 hv1901 => ?_)
  refine WQ_icmp_eq 12 dX3_faultOfName_3 rfl (fun c1901 => False.elim (by omega)) (fun c1901 => ?_)
  refine WP_iload_n dX3_faultOfName_6 rfl ?_
  refine WQ_bipush (110) (110) dX3_faultOfName_7 rfl rfl (fun v1903 hv1903 => ?_)
  refine WQ_icmp_ne 16 dX3_faultOfName_9 rfl (fun c1903 => False.elim (by omega)) (fun c1903 => ?_)
  refine WQ_iconst (1) (1) dX3_faultOfName_12 rfl rfl (fun v1905 hv1905 => ?_)
  refine WP_goto 17 dX3_faultOfName_13 rfl ?_
  refine WP_istore (ls' := [(0, _), (1, _), (2, _), (3, _), (4, _), (5, _)]) dX3_faultOfName_17 (by decide) rfl ?_
  refine WP_iload dX3_faultOfName_19 rfl ?_
  refine WQ_if_eq 39 dX3_faultOfName_21 rfl (fun c1905 => False.elim (by omega)) (fun c1905 => ?_)
  refine WP_aload dX3_faultOfName_24 rfl ?_
  refine WP_aload_n dX3_faultOfName_26 rfl ?_
  refine WP_getr dX3_faultOfName_27 fX3_15 rfl (lyx_is hy 3 3 rfl) (rfx hr 3 2 1 (by decide)) ?_
  refine WP_getl dX3_faultOfName_30 fX3_80 rfl (lyx_is hy 1 5 rfl) ?_
  rw [ew1900]
  refine WP_callV1 (k := 7) dX3_faultOfName_33 ⟨⟨⟨by decide, by decide⟩, zX7_sortNamed⟩, lX3_103, by decide, rfl, vX7_sortNamed.1, vX7_sortNamed.2⟩ (lyx_is hy 27 7 rfl) (ex_sortNamedb hy hr _  hR hB) (Nat.le_of_ble_eq_true rfl) ?_
  intro r Ia Ja Ra hq
  obtain ⟨⟨ea, eb, ec⟩, v1908, er, p1907⟩ := hq
  rw [ea, eb, ec, er]
  clear ea eb ec er Ia Ja Ra r
  rw [c5] at p1907
  refine WP_goto 51 dX3_faultOfName_36 rfl ?_
  refine WP_istore (ls' := [(0, _), (1, _), (2, _), (3, _), (4, _), (5, _), (6, _)]) dX3_faultOfName_51 (by decide) rfl ?_
  refine WP_iload_n dX3_faultOfName_53 rfl ?_
  refine WQ_bipush (110) (110) dX3_faultOfName_54 rfl rfl (fun v1909 hv1909 => ?_)
  refine WQ_icmp_eq 65 dX3_faultOfName_56 rfl (fun c1909 => ?_) (fun c1909 => False.elim (by omega))
  refine WP_iload dX3_faultOfName_65 rfl ?_
  refine WQ_iconst (-1) (-1) dX3_faultOfName_67 rfl rfl (fun v1911 hv1911 => ?_)
  refine WQ_icmp_eq 73 dX3_faultOfName_68 rfl (fun c1911 => ?_) (fun c1911 => ?_)
  · refine WP_aload dX3_faultOfName_73 rfl ?_
    refine WP_iload_n dX3_faultOfName_75 rfl ?_
    refine WQ_bipush (110) (110) dX3_faultOfName_76 rfl rfl (fun v1913 hv1913 => ?_)
    refine WQ_icmp_ne 85 dX3_faultOfName_78 rfl (fun c1913 => False.elim (by omega)) (fun c1913 => ?_)
    refine WQ_iconst (1) (1) dX3_faultOfName_81 rfl rfl (fun v1915 hv1915 => ?_)
    refine WP_goto 86 dX3_faultOfName_82 rfl ?_
    refine WP_aload_n dX3_faultOfName_86 rfl ?_
    refine WP_getr dX3_faultOfName_87 fX3_15 rfl (lyx_is hy 3 3 rfl) (rfx hr 3 2 1 (by decide)) ?_
    refine WP_getl dX3_faultOfName_90 fX3_80 rfl (lyx_is hy 1 5 rfl) ?_
    rw [ew1900]
    refine WP_callV2 (k := 7) dX3_faultOfName_93 ⟨⟨⟨by decide, by decide⟩, zX7_name⟩, lX3_110, by decide, rfl, vX7_name.1, vX7_name.2⟩ (lyx_is hy 27 7 rfl) (ex_nameb hy hr _ _  hR hB (by intro z; first | exact hrs rfl | exact absurd z (by omega)) (by intro z; first | exact hrt rfl | exact absurd z (by omega))) (Nat.le_of_ble_eq_true rfl) ?_
    intro r I1917 J1918 Ra hq
    obtain ⟨ec, g1919, g1920, er, p1916⟩ := hq
    rw [ec, er]
    clear ec er Ra r
    have e1922 : J1918 (ad g 1) 5 = w1900 := by rw [FCx_at hy g1920 1 (by decide) (by decide)]; exact ew1900
    have fI1923 : FC g [4] I I1917 := FC_tr fI0 (FC_mono g1919 (by decide))
    have fJ1924 : FC g [41] J J1918 := FC_tr fJ0 (FC_mono g1920 (by decide))
    try simp only [e1922, ew1900] at p1916
    refine WQ_iconst (0) (0) dX3_faultOfName_96 rfl rfl (fun v1925 hv1925 => ?_)
    exact WP_iret dX3_faultOfName_97 rfl ⟨rfl, fI1923, fJ1924, v1925, rfl, by
      try simp only [e1922, ew1900]
      have z9 := p1916.1 (by omega)
      rw [c5] at z9
      exact Or.inr ⟨by omega, _, _, (by rw [prt_n hk, if_neg (by omega)]), z9, PRX_v ⟨hi0, hc0⟩⟩⟩
  · refine WQ_iconst (3) (3) dX3_faultOfName_71 rfl rfl (fun v1926 hv1926 => ?_)
    exact WP_iret dX3_faultOfName_72 rfl ⟨rfl, fI0, fJ0, v1926, rfl, by
      try simp only [ew1900]
      refine Or.inl ⟨3, by omega, by decide, ?_⟩
      rw [prt_n hk, if_pos (by omega)]⟩
set_option maxHeartbeats 4000000 in
set_option maxRecDepth 100000 in
theorem ex_fon109b {g : GG} {I : pI} {J : pJ} {R : pR} (hy : LyX g) (hr : RfX g R) {B : Nat → Int} {n p c i : Nat} {S : TwS} {P : Nat → Int} (pt : Int32) (cl : Int32) (ix : Int32) (hpt : pt.toInt = 109) (hcl : cl.toInt = (c : Int)) (hc12 : c < 12) (hix : ix.toInt = (i : Int)) (hi5 : i < 5) (hC : CUX g B n p I J) (hR : RTX g 27 S I J) (hB : SBn S) (hP : PRX g P (loP c) i I) (hk : tK B n p = 1) (hrs : 109 = 110 → S.1 0 1 < 4) (hrt : 109 = 109 → S.1 0 2 < 3) (hn0 : 109 = 110 ∨ 109 = 109 → i = 0 ∧ (c = 1 ∨ c = 2)) (h7 : 109 = 116 → c ≠ 7) : SP g mX3_faultOfName [.ref (ad g 3), .int pt, .int cl, .int ix, .ref (ad g 27)] I J R (fun r I' J' R' => R' = R ∧ FC g [4] I I' ∧ FC g [41] J J' ∧ ∃ v : Int32, r = some (.int v) ∧ ((∃ k : Nat, v.toInt = (k : Int) ∧ k ≠ 0 ∧ prt B n c i 109 p S P = .error (k, tF B n p)) ∨ (v.toInt = 0 ∧ ∃ S2 P2, prt B n c i 109 p S P = .ok (S2, P2) ∧ RTX g 27 S2 I' J' ∧ PRX g P2 (loP c) (i + 1) I'))) := by
  refine SP_of ⟨by decide, rfl⟩ (Nat.le_of_ble_eq_true rfl) ?_
  have fI0 : FC g [4] I I := FC_rf
  have fJ0 : FC g [41] J J := FC_rf
  have c5 := hC.2.2.2.2 hk
  obtain ⟨w1927, ew1927⟩ : ∃ w : Int64, J (ad g 1) 5 = w := ⟨_, rfl⟩
  try simp only [ew1927] at c5
  obtain ⟨hi0, hc0⟩ := hn0 (by decide)
  refine WP_iload_n dX3_faultOfName_0 rfl ?_
  refine WQ_bipush (115) (115) dX3_faultOfName_1 rfl rfl (fun v1928 hv1928 => ?_)
  refine WQ_icmp_eq 12 dX3_faultOfName_3 rfl (fun c1928 => False.elim (by omega)) (fun c1928 => ?_)
  refine WP_iload_n dX3_faultOfName_6 rfl ?_
  refine WQ_bipush (110) (110) dX3_faultOfName_7 rfl rfl (fun v1930 hv1930 => ?_)
  refine WQ_icmp_ne 16 dX3_faultOfName_9 rfl (fun c1930 => ?_) (fun c1930 => False.elim (by omega))
  refine WQ_iconst (0) (0) dX3_faultOfName_16 rfl rfl (fun v1932 hv1932 => ?_)
  refine WP_istore (ls' := [(0, _), (1, _), (2, _), (3, _), (4, _), (5, _)]) dX3_faultOfName_17 (by decide) rfl ?_
  refine WP_iload dX3_faultOfName_19 rfl ?_
  refine WQ_if_eq 39 dX3_faultOfName_21 rfl (fun c1932 => ?_) (fun c1932 => False.elim (by omega))
  refine WP_aload dX3_faultOfName_39 rfl ?_
  refine WP_aload_n dX3_faultOfName_41 rfl ?_
  refine WP_getr dX3_faultOfName_42 fX3_15 rfl (lyx_is hy 3 3 rfl) (rfx hr 3 2 1 (by decide)) ?_
  refine WP_getl dX3_faultOfName_45 fX3_80 rfl (lyx_is hy 1 5 rfl) ?_
  rw [ew1927]
  refine WP_callV1 (k := 7) dX3_faultOfName_48 ⟨⟨⟨by decide, by decide⟩, zX7_thingNamed⟩, lX3_107, by decide, rfl, vX7_thingNamed.1, vX7_thingNamed.2⟩ (lyx_is hy 27 7 rfl) (ex_thingNamedb hy hr _  hR hB) (Nat.le_of_ble_eq_true rfl) ?_
  intro r Ia Ja Ra hq
  obtain ⟨⟨ea, eb, ec⟩, v1935, er, p1934⟩ := hq
  rw [ea, eb, ec, er]
  clear ea eb ec er Ia Ja Ra r
  rw [c5] at p1934
  refine WP_istore (ls' := [(0, _), (1, _), (2, _), (3, _), (4, _), (5, _), (6, _)]) dX3_faultOfName_51 (by decide) rfl ?_
  refine WP_iload_n dX3_faultOfName_53 rfl ?_
  refine WQ_bipush (110) (110) dX3_faultOfName_54 rfl rfl (fun v1936 hv1936 => ?_)
  refine WQ_icmp_eq 65 dX3_faultOfName_56 rfl (fun c1936 => False.elim (by omega)) (fun c1936 => ?_)
  refine WP_iload_n dX3_faultOfName_59 rfl ?_
  refine WQ_bipush (109) (109) dX3_faultOfName_60 rfl rfl (fun v1938 hv1938 => ?_)
  refine WQ_icmp_ne 98 dX3_faultOfName_62 rfl (fun c1938 => False.elim (by omega)) (fun c1938 => ?_)
  refine WP_iload dX3_faultOfName_65 rfl ?_
  refine WQ_iconst (-1) (-1) dX3_faultOfName_67 rfl rfl (fun v1940 hv1940 => ?_)
  refine WQ_icmp_eq 73 dX3_faultOfName_68 rfl (fun c1940 => ?_) (fun c1940 => ?_)
  · refine WP_aload dX3_faultOfName_73 rfl ?_
    refine WP_iload_n dX3_faultOfName_75 rfl ?_
    refine WQ_bipush (110) (110) dX3_faultOfName_76 rfl rfl (fun v1942 hv1942 => ?_)
    refine WQ_icmp_ne 85 dX3_faultOfName_78 rfl (fun c1942 => ?_) (fun c1942 => False.elim (by omega))
    refine WQ_iconst (0) (0) dX3_faultOfName_85 rfl rfl (fun v1944 hv1944 => ?_)
    refine WP_aload_n dX3_faultOfName_86 rfl ?_
    refine WP_getr dX3_faultOfName_87 fX3_15 rfl (lyx_is hy 3 3 rfl) (rfx hr 3 2 1 (by decide)) ?_
    refine WP_getl dX3_faultOfName_90 fX3_80 rfl (lyx_is hy 1 5 rfl) ?_
    rw [ew1927]
    refine WP_callV2 (k := 7) dX3_faultOfName_93 ⟨⟨⟨by decide, by decide⟩, zX7_name⟩, lX3_110, by decide, rfl, vX7_name.1, vX7_name.2⟩ (lyx_is hy 27 7 rfl) (ex_nameb hy hr _ _  hR hB (by intro z; first | exact hrs rfl | exact absurd z (by omega)) (by intro z; first | exact hrt rfl | exact absurd z (by omega))) (Nat.le_of_ble_eq_true rfl) ?_
    intro r I1946 J1947 Ra hq
    obtain ⟨ec, g1948, g1949, er, p1945⟩ := hq
    rw [ec, er]
    clear ec er Ra r
    have e1951 : J1947 (ad g 1) 5 = w1927 := by rw [FCx_at hy g1949 1 (by decide) (by decide)]; exact ew1927
    have fI1952 : FC g [4] I I1946 := FC_tr fI0 (FC_mono g1948 (by decide))
    have fJ1953 : FC g [41] J J1947 := FC_tr fJ0 (FC_mono g1949 (by decide))
    try simp only [e1951, ew1927] at p1945
    refine WQ_iconst (0) (0) dX3_faultOfName_96 rfl rfl (fun v1954 hv1954 => ?_)
    exact WP_iret dX3_faultOfName_97 rfl ⟨rfl, fI1952, fJ1953, v1954, rfl, by
      try simp only [e1951, ew1927]
      have z9 := p1945.2 (by omega)
      rw [c5] at z9
      exact Or.inr ⟨by omega, _, _, (by rw [prt_m hk, if_neg (by omega)]), z9, PRX_v ⟨hi0, hc0⟩⟩⟩
  · refine WQ_iconst (3) (3) dX3_faultOfName_71 rfl rfl (fun v1955 hv1955 => ?_)
    exact WP_iret dX3_faultOfName_72 rfl ⟨rfl, fI0, fJ0, v1955, rfl, by
      try simp only [ew1927]
      refine Or.inl ⟨3, by omega, by decide, ?_⟩
      rw [prt_m hk, if_pos (by omega)]⟩
set_option maxHeartbeats 4000000 in
set_option maxRecDepth 100000 in
theorem ex_fon115b {g : GG} {I : pI} {J : pJ} {R : pR} (hy : LyX g) (hr : RfX g R) {B : Nat → Int} {n p c i : Nat} {S : TwS} {P : Nat → Int} (pt : Int32) (cl : Int32) (ix : Int32) (hpt : pt.toInt = 115) (hcl : cl.toInt = (c : Int)) (hc12 : c < 12) (hix : ix.toInt = (i : Int)) (hi5 : i < 5) (hC : CUX g B n p I J) (hR : RTX g 27 S I J) (hB : SBn S) (hP : PRX g P (loP c) i I) (hk : tK B n p = 1) (hrs : 115 = 110 → S.1 0 1 < 4) (hrt : 115 = 109 → S.1 0 2 < 3) (hn0 : 115 = 110 ∨ 115 = 109 → i = 0 ∧ (c = 1 ∨ c = 2)) (h7 : 115 = 116 → c ≠ 7) : SP g mX3_faultOfName [.ref (ad g 3), .int pt, .int cl, .int ix, .ref (ad g 27)] I J R (fun r I' J' R' => R' = R ∧ FC g [4] I I' ∧ FC g [41] J J' ∧ ∃ v : Int32, r = some (.int v) ∧ ((∃ k : Nat, v.toInt = (k : Int) ∧ k ≠ 0 ∧ prt B n c i 115 p S P = .error (k, tF B n p)) ∨ (v.toInt = 0 ∧ ∃ S2 P2, prt B n c i 115 p S P = .ok (S2, P2) ∧ RTX g 27 S2 I' J' ∧ PRX g P2 (loP c) (i + 1) I'))) := by
  refine SP_of ⟨by decide, rfl⟩ (Nat.le_of_ble_eq_true rfl) ?_
  have fI0 : FC g [4] I I := FC_rf
  have fJ0 : FC g [41] J J := FC_rf
  have c5 := hC.2.2.2.2 hk
  obtain ⟨w1956, ew1956⟩ : ∃ w : Int64, J (ad g 1) 5 = w := ⟨_, rfl⟩
  try simp only [ew1956] at c5
  refine WP_iload_n dX3_faultOfName_0 rfl ?_
  refine WQ_bipush (115) (115) dX3_faultOfName_1 rfl rfl (fun v1957 hv1957 => ?_)
  refine WQ_icmp_eq 12 dX3_faultOfName_3 rfl (fun c1957 => ?_) (fun c1957 => False.elim (by omega))
  refine WQ_iconst (1) (1) dX3_faultOfName_12 rfl rfl (fun v1959 hv1959 => ?_)
  refine WP_goto 17 dX3_faultOfName_13 rfl ?_
  refine WP_istore (ls' := [(0, _), (1, _), (2, _), (3, _), (4, _), (5, _)]) dX3_faultOfName_17 (by decide) rfl ?_
  refine WP_iload dX3_faultOfName_19 rfl ?_
  refine WQ_if_eq 39 dX3_faultOfName_21 rfl (fun c1959 => False.elim (by omega)) (fun c1959 => ?_)
  refine WP_aload dX3_faultOfName_24 rfl ?_
  refine WP_aload_n dX3_faultOfName_26 rfl ?_
  refine WP_getr dX3_faultOfName_27 fX3_15 rfl (lyx_is hy 3 3 rfl) (rfx hr 3 2 1 (by decide)) ?_
  refine WP_getl dX3_faultOfName_30 fX3_80 rfl (lyx_is hy 1 5 rfl) ?_
  rw [ew1956]
  refine WP_callV1 (k := 7) dX3_faultOfName_33 ⟨⟨⟨by decide, by decide⟩, zX7_sortNamed⟩, lX3_103, by decide, rfl, vX7_sortNamed.1, vX7_sortNamed.2⟩ (lyx_is hy 27 7 rfl) (ex_sortNamedb hy hr _  hR hB) (Nat.le_of_ble_eq_true rfl) ?_
  intro r Ia Ja Ra hq
  obtain ⟨⟨ea, eb, ec⟩, v1962, er, p1961⟩ := hq
  rw [ea, eb, ec, er]
  clear ea eb ec er Ia Ja Ra r
  rw [c5] at p1961
  refine WP_goto 51 dX3_faultOfName_36 rfl ?_
  refine WP_istore (ls' := [(0, _), (1, _), (2, _), (3, _), (4, _), (5, _), (6, _)]) dX3_faultOfName_51 (by decide) rfl ?_
  refine WP_iload_n dX3_faultOfName_53 rfl ?_
  refine WQ_bipush (110) (110) dX3_faultOfName_54 rfl rfl (fun v1963 hv1963 => ?_)
  refine WQ_icmp_eq 65 dX3_faultOfName_56 rfl (fun c1963 => False.elim (by omega)) (fun c1963 => ?_)
  refine WP_iload_n dX3_faultOfName_59 rfl ?_
  refine WQ_bipush (109) (109) dX3_faultOfName_60 rfl rfl (fun v1965 hv1965 => ?_)
  refine WQ_icmp_ne 98 dX3_faultOfName_62 rfl (fun c1965 => ?_) (fun c1965 => False.elim (by omega))
  refine WP_iload dX3_faultOfName_98 rfl ?_
  refine WQ_iconst (-1) (-1) dX3_faultOfName_100 rfl rfl (fun v1967 hv1967 => ?_)
  refine WQ_icmp_ne 106 dX3_faultOfName_101 rfl (fun c1967 => ?_) (fun c1967 => ?_)
  · refine WP_aload_n dX3_faultOfName_106 rfl ?_
    refine WP_getr dX3_faultOfName_107 fX3_9 rfl (lyx_is hy 3 3 rfl) (rfx hr 3 3 4 (by decide)) ?_
    refine WP_iload_n dX3_faultOfName_110 rfl ?_
    refine WP_iload dX3_faultOfName_111 rfl ?_
    refine WE_is dX3_faultOfName_113 (lyx_is hy 4 13 rfl) (lyx_n hy 4 5 rfl) (by omega) (by omega) (fun I1969 eI1969 => ?_)
    have fI1970 : FC g [4] I I1969 := by rw [eI1969]; exact FC_pp fI0 (by decide)
    have hb0 := fnS_b (S := S) (w := tW B n p) (by omega) (by unfold SBn at hB; omega)
    have hbB := hB
    unfold SBn at hbB
    have hR2 : RTX g 27 S I1969 J := RTX_fr hy (by decide) hR fI1970 (FC_rf (C := [])) (by decide) (by decide)
    have hP2 : PRX g (fun j => if j = i then fnS S (tW B n p) else P j) (loP c) (i + 1) I1969 := by
      rw [eI1969, show ix.toInt.toNat = i by omega]
      exact PRX_set hP (by omega)
    refine WP_iload_n dX3_faultOfName_114 rfl ?_
    refine WQ_bipush (7) (7) dX3_faultOfName_115 rfl rfl (fun v1971 hv1971 => ?_)
    refine WQ_icmp_ne 137 dX3_faultOfName_117 rfl (fun c1971 => ?_) (fun c1971 => ?_)
    · refine WQ_iconst (0) (0) dX3_faultOfName_137 rfl rfl (fun v1973 hv1973 => ?_)
      exact WP_iret dX3_faultOfName_138 rfl ⟨rfl, fI1970, fJ0, v1973, rfl, by
        try simp only [ew1956]
        refine Or.inr ⟨by omega, _, _, (by rw [prt_s hk, if_neg (by omega), if_neg (by rintro ⟨z3, -⟩; omega)]), hR2, hP2⟩⟩
    · refine WP_aload dX3_faultOfName_120 rfl ?_
      refine WQ_bipush (7) (7) dX3_faultOfName_122 rfl rfl (fun v1974 hv1974 => ?_)
      refine WP_iload dX3_faultOfName_124 rfl ?_
      refine WQ_iconst (0) (0) dX3_faultOfName_126 rfl rfl (fun v1975 hv1975 => ?_)
      refine WP_callV3 (k := 7) dX3_faultOfName_127 ⟨⟨⟨by decide, by decide⟩, zX7_isTold⟩, lX3_114, by decide, rfl, vX7_isTold.1, vX7_isTold.2⟩ (lyx_is hy 27 7 rfl) (ex_isToldb hy hr _ _ _  (ro := 28 + (fnS S (tW B n p)).toNat) (d := 0) hR2 (by omega) (by omega) (by omega) (by omega) (by omega) (by decide)) (Nat.le_of_ble_eq_true rfl) ?_
      intro r Ia Ja Ra hq
      obtain ⟨⟨ea, eb, ec⟩, v1977, er, p1976⟩ := hq
      rw [ea, eb, ec, er]
      clear ea eb ec er Ia Ja Ra r
      refine WQ_if_eq 137 dX3_faultOfName_130 rfl (fun c1977 => ?_) (fun c1977 => ?_)
      · refine WQ_iconst (0) (0) dX3_faultOfName_137 rfl rfl (fun v1979 hv1979 => ?_)
        exact WP_iret dX3_faultOfName_138 rfl ⟨rfl, fI1970, fJ0, v1979, rfl, by
          try simp only [ew1956]
          rcases p1976 with ⟨z1, z2⟩ | ⟨z1, z2⟩
          · first
            | exact absurd z1 (by omega)
            | (refine Or.inl ⟨3, by omega, by decide, ?_⟩; rw [prt_s hk, if_neg (by omega), if_pos ⟨by omega, z2⟩])
          · first
            | exact absurd z1 (by omega)
            | (refine Or.inr ⟨by omega, _, _, (by rw [prt_s hk, if_neg (by omega), if_neg (by rintro ⟨-, z3⟩; rw [z2] at z3; exact absurd z3 (by decide))]), hR2, hP2⟩)⟩
      · refine WQ_iconst (3) (3) dX3_faultOfName_133 rfl rfl (fun v1980 hv1980 => ?_)
        refine WP_goto 138 dX3_faultOfName_134 rfl ?_
        exact WP_iret dX3_faultOfName_138 rfl ⟨rfl, fI1970, fJ0, v1980, rfl, by
          try simp only [ew1956]
          rcases p1976 with ⟨z1, z2⟩ | ⟨z1, z2⟩
          · first
            | exact absurd z1 (by omega)
            | (refine Or.inl ⟨3, by omega, by decide, ?_⟩; rw [prt_s hk, if_neg (by omega), if_pos ⟨by omega, z2⟩])
          · first
            | exact absurd z1 (by omega)
            | (refine Or.inr ⟨by omega, _, _, (by rw [prt_s hk, if_neg (by omega), if_neg (by rintro ⟨-, z3⟩; rw [z2] at z3; exact absurd z3 (by decide))]), hR2, hP2⟩)⟩
  · refine WQ_iconst (5) (5) dX3_faultOfName_104 rfl rfl (fun v1981 hv1981 => ?_)
    exact WP_iret dX3_faultOfName_105 rfl ⟨rfl, fI0, fJ0, v1981, rfl, by
      try simp only [ew1956]
      refine Or.inl ⟨5, by omega, by decide, ?_⟩
      rw [prt_s hk, if_pos (by omega)]⟩
set_option maxHeartbeats 4000000 in
set_option maxRecDepth 100000 in
theorem ex_fon116b {g : GG} {I : pI} {J : pJ} {R : pR} (hy : LyX g) (hr : RfX g R) {B : Nat → Int} {n p c i : Nat} {S : TwS} {P : Nat → Int} (pt : Int32) (cl : Int32) (ix : Int32) (hpt : pt.toInt = 116) (hcl : cl.toInt = (c : Int)) (hc12 : c < 12) (hix : ix.toInt = (i : Int)) (hi5 : i < 5) (hC : CUX g B n p I J) (hR : RTX g 27 S I J) (hB : SBn S) (hP : PRX g P (loP c) i I) (hk : tK B n p = 1) (hrs : 116 = 110 → S.1 0 1 < 4) (hrt : 116 = 109 → S.1 0 2 < 3) (hn0 : 116 = 110 ∨ 116 = 109 → i = 0 ∧ (c = 1 ∨ c = 2)) (h7 : 116 = 116 → c ≠ 7) : SP g mX3_faultOfName [.ref (ad g 3), .int pt, .int cl, .int ix, .ref (ad g 27)] I J R (fun r I' J' R' => R' = R ∧ FC g [4] I I' ∧ FC g [41] J J' ∧ ∃ v : Int32, r = some (.int v) ∧ ((∃ k : Nat, v.toInt = (k : Int) ∧ k ≠ 0 ∧ prt B n c i 116 p S P = .error (k, tF B n p)) ∨ (v.toInt = 0 ∧ ∃ S2 P2, prt B n c i 116 p S P = .ok (S2, P2) ∧ RTX g 27 S2 I' J' ∧ PRX g P2 (loP c) (i + 1) I'))) := by
  refine SP_of ⟨by decide, rfl⟩ (Nat.le_of_ble_eq_true rfl) ?_
  have fI0 : FC g [4] I I := FC_rf
  have fJ0 : FC g [41] J J := FC_rf
  have c5 := hC.2.2.2.2 hk
  obtain ⟨w1982, ew1982⟩ : ∃ w : Int64, J (ad g 1) 5 = w := ⟨_, rfl⟩
  try simp only [ew1982] at c5
  refine WP_iload_n dX3_faultOfName_0 rfl ?_
  refine WQ_bipush (115) (115) dX3_faultOfName_1 rfl rfl (fun v1983 hv1983 => ?_)
  refine WQ_icmp_eq 12 dX3_faultOfName_3 rfl (fun c1983 => False.elim (by omega)) (fun c1983 => ?_)
  refine WP_iload_n dX3_faultOfName_6 rfl ?_
  refine WQ_bipush (110) (110) dX3_faultOfName_7 rfl rfl (fun v1985 hv1985 => ?_)
  refine WQ_icmp_ne 16 dX3_faultOfName_9 rfl (fun c1985 => ?_) (fun c1985 => False.elim (by omega))
  refine WQ_iconst (0) (0) dX3_faultOfName_16 rfl rfl (fun v1987 hv1987 => ?_)
  refine WP_istore (ls' := [(0, _), (1, _), (2, _), (3, _), (4, _), (5, _)]) dX3_faultOfName_17 (by decide) rfl ?_
  refine WP_iload dX3_faultOfName_19 rfl ?_
  refine WQ_if_eq 39 dX3_faultOfName_21 rfl (fun c1987 => ?_) (fun c1987 => False.elim (by omega))
  refine WP_aload dX3_faultOfName_39 rfl ?_
  refine WP_aload_n dX3_faultOfName_41 rfl ?_
  refine WP_getr dX3_faultOfName_42 fX3_15 rfl (lyx_is hy 3 3 rfl) (rfx hr 3 2 1 (by decide)) ?_
  refine WP_getl dX3_faultOfName_45 fX3_80 rfl (lyx_is hy 1 5 rfl) ?_
  rw [ew1982]
  refine WP_callV1 (k := 7) dX3_faultOfName_48 ⟨⟨⟨by decide, by decide⟩, zX7_thingNamed⟩, lX3_107, by decide, rfl, vX7_thingNamed.1, vX7_thingNamed.2⟩ (lyx_is hy 27 7 rfl) (ex_thingNamedb hy hr _  hR hB) (Nat.le_of_ble_eq_true rfl) ?_
  intro r Ia Ja Ra hq
  obtain ⟨⟨ea, eb, ec⟩, v1990, er, p1989⟩ := hq
  rw [ea, eb, ec, er]
  clear ea eb ec er Ia Ja Ra r
  rw [c5] at p1989
  refine WP_istore (ls' := [(0, _), (1, _), (2, _), (3, _), (4, _), (5, _), (6, _)]) dX3_faultOfName_51 (by decide) rfl ?_
  refine WP_iload_n dX3_faultOfName_53 rfl ?_
  refine WQ_bipush (110) (110) dX3_faultOfName_54 rfl rfl (fun v1991 hv1991 => ?_)
  refine WQ_icmp_eq 65 dX3_faultOfName_56 rfl (fun c1991 => False.elim (by omega)) (fun c1991 => ?_)
  refine WP_iload_n dX3_faultOfName_59 rfl ?_
  refine WQ_bipush (109) (109) dX3_faultOfName_60 rfl rfl (fun v1993 hv1993 => ?_)
  refine WQ_icmp_ne 98 dX3_faultOfName_62 rfl (fun c1993 => ?_) (fun c1993 => False.elim (by omega))
  refine WP_iload dX3_faultOfName_98 rfl ?_
  refine WQ_iconst (-1) (-1) dX3_faultOfName_100 rfl rfl (fun v1995 hv1995 => ?_)
  refine WQ_icmp_ne 106 dX3_faultOfName_101 rfl (fun c1995 => ?_) (fun c1995 => ?_)
  · refine WP_aload_n dX3_faultOfName_106 rfl ?_
    refine WP_getr dX3_faultOfName_107 fX3_9 rfl (lyx_is hy 3 3 rfl) (rfx hr 3 3 4 (by decide)) ?_
    refine WP_iload_n dX3_faultOfName_110 rfl ?_
    refine WP_iload dX3_faultOfName_111 rfl ?_
    refine WE_is dX3_faultOfName_113 (lyx_is hy 4 13 rfl) (lyx_n hy 4 5 rfl) (by omega) (by omega) (fun I1997 eI1997 => ?_)
    have fI1998 : FC g [4] I I1997 := by rw [eI1997]; exact FC_pp fI0 (by decide)
    have hb0 := fnT_b (S := S) (w := tW B n p) (by omega) (by unfold SBn at hB; omega)
    have hbB := hB
    unfold SBn at hbB
    have hR2 : RTX g 27 S I1997 J := RTX_fr hy (by decide) hR fI1998 (FC_rf (C := [])) (by decide) (by decide)
    have hP2 : PRX g (fun j => if j = i then fnT S (tW B n p) else P j) (loP c) (i + 1) I1997 := by
      rw [eI1997, show ix.toInt.toNat = i by omega]
      exact PRX_set hP (by omega)
    refine WP_iload_n dX3_faultOfName_114 rfl ?_
    refine WQ_bipush (7) (7) dX3_faultOfName_115 rfl rfl (fun v1999 hv1999 => ?_)
    refine WQ_icmp_ne 137 dX3_faultOfName_117 rfl (fun c1999 => ?_) (fun c1999 => ?_)
    · refine WQ_iconst (0) (0) dX3_faultOfName_137 rfl rfl (fun v2001 hv2001 => ?_)
      exact WP_iret dX3_faultOfName_138 rfl ⟨rfl, fI1998, fJ0, v2001, rfl, by
        try simp only [ew1982]
        refine Or.inr ⟨by omega, _, _, (by rw [prt_t hk, if_neg (by omega)]), hR2, hP2⟩⟩
    · refine WP_aload dX3_faultOfName_120 rfl ?_
      refine WQ_bipush (7) (7) dX3_faultOfName_122 rfl rfl (fun v2002 hv2002 => ?_)
      refine WP_iload dX3_faultOfName_124 rfl ?_
      refine WQ_iconst (0) (0) dX3_faultOfName_126 rfl rfl (fun v2003 hv2003 => ?_)
      refine WP_callV3 (k := 7) dX3_faultOfName_127 ⟨⟨⟨by decide, by decide⟩, zX7_isTold⟩, lX3_114, by decide, rfl, vX7_isTold.1, vX7_isTold.2⟩ (lyx_is hy 27 7 rfl) (ex_isToldb hy hr _ _ _  (ro := 28 + (fnS S (tW B n p)).toNat) (d := 0) hR2 (by omega) (by omega) (by omega) (by omega) (by omega) (by decide)) (Nat.le_of_ble_eq_true rfl) ?_
      intro r Ia Ja Ra hq
      obtain ⟨⟨ea, eb, ec⟩, v2005, er, p2004⟩ := hq
      rw [ea, eb, ec, er]
      clear ea eb ec er Ia Ja Ra r
      refine WQ_if_eq 137 dX3_faultOfName_130 rfl (fun c2005 => ?_) (fun c2005 => ?_)
      · refine WQ_iconst (0) (0) dX3_faultOfName_137 rfl rfl (fun v2007 hv2007 => ?_)
        exact WP_iret dX3_faultOfName_138 rfl ⟨rfl, fI1998, fJ0, v2007, rfl, by
          try simp only [ew1982]
          rcases p2004 with ⟨z1, z2⟩ | ⟨z1, z2⟩
          · first
            | exact absurd z1 (by omega)
            | (refine Or.inl ⟨3, by omega, by decide, ?_⟩; rw [prt_s hk, if_neg (by omega), if_pos ⟨by omega, z2⟩])
          · first
            | exact absurd z1 (by omega)
            | (refine Or.inr ⟨by omega, _, _, (by rw [prt_s hk, if_neg (by omega), if_neg (by rintro ⟨-, z3⟩; rw [z2] at z3; exact absurd z3 (by decide))]), hR2, hP2⟩)⟩
      · refine WQ_iconst (3) (3) dX3_faultOfName_133 rfl rfl (fun v2008 hv2008 => ?_)
        refine WP_goto 138 dX3_faultOfName_134 rfl ?_
        exact WP_iret dX3_faultOfName_138 rfl ⟨rfl, fI1998, fJ0, v2008, rfl, by
          try simp only [ew1982]
          rcases p2004 with ⟨z1, z2⟩ | ⟨z1, z2⟩
          · first
            | exact absurd z1 (by omega)
            | (refine Or.inl ⟨3, by omega, by decide, ?_⟩; rw [prt_s hk, if_neg (by omega), if_pos ⟨by omega, z2⟩])
          · first
            | exact absurd z1 (by omega)
            | (refine Or.inr ⟨by omega, _, _, (by rw [prt_s hk, if_neg (by omega), if_neg (by rintro ⟨-, z3⟩; rw [z2] at z3; exact absurd z3 (by decide))]), hR2, hP2⟩)⟩
  · refine WQ_iconst (5) (5) dX3_faultOfName_104 rfl rfl (fun v2009 hv2009 => ?_)
    exact WP_iret dX3_faultOfName_105 rfl ⟨rfl, fI0, fJ0, v2009, rfl, by
      try simp only [ew1982]
      refine Or.inl ⟨5, by omega, by decide, ?_⟩
      rw [prt_t hk, if_pos (by omega)]⟩
theorem ex_fonb {g : GG} {I : pI} {J : pJ} {R : pR} (hy : LyX g) (hr : RfX g R) {B : Nat → Int} {n p c i ch : Nat} {S : TwS} {P : Nat → Int} (pt cl ix : Int32) (hch : pt.toInt = (ch : Int)) (hcl : cl.toInt = (c : Int)) (hc12 : c < 12) (hix : ix.toInt = (i : Int)) (hi5 : i < 5) (hC : CUX g B n p I J) (hR : RTX g 27 S I J) (hB : SBn S) (hP : PRX g P (loP c) i I) (hk : tK B n p = 1) (h4 : ch = 110 ∨ ch = 109 ∨ ch = 115 ∨ ch = 116) (hrs : ch = 110 → S.1 0 1 < 4) (hrt : ch = 109 → S.1 0 2 < 3) (hn0 : ch = 110 ∨ ch = 109 → i = 0 ∧ (c = 1 ∨ c = 2)) (h7 : ch = 116 → c ≠ 7) : SP g mX3_faultOfName [.ref (ad g 3), .int pt, .int cl, .int ix, .ref (ad g 27)] I J R (fun r I' J' R' => R' = R ∧ FC g [4] I I' ∧ FC g [41] J J' ∧ ∃ v : Int32, r = some (.int v) ∧ ((∃ k : Nat, v.toInt = (k : Int) ∧ k ≠ 0 ∧ prt B n c i ch p S P = .error (k, tF B n p)) ∨ (v.toInt = 0 ∧ ∃ S2 P2, prt B n c i ch p S P = .ok (S2, P2) ∧ RTX g 27 S2 I' J' ∧ PRX g P2 (loP c) (i + 1) I'))) := by
  rcases h4 with rfl | rfl | rfl | rfl
  · exact ex_fon110b hy hr pt cl ix hch hcl hc12 hix hi5 hC hR hB hP hk hrs hrt hn0 h7
  · exact ex_fon109b hy hr pt cl ix hch hcl hc12 hix hi5 hC hR hB hP hk hrs hrt hn0 h7
  · exact ex_fon115b hy hr pt cl ix hch hcl hc12 hix hi5 hC hR hB hP hk hrs hrt hn0 h7
  · exact ex_fon116b hy hr pt cl ix hch hcl hc12 hix hi5 hC hR hB hP hk hrs hrt hn0 h7
set_option maxHeartbeats 4000000 in
set_option maxRecDepth 100000 in
theorem ex_fnub {g : GG} {I : pI} {J : pJ} {R : pR} (hy : LyX g) (hr : RfX g R) {B : Nat → Int} {n p c i ch : Nat} {S : TwS} {P : Nat → Int} (pt : Int32) (cl : Int32) (ix : Int32) (hch : pt.toInt = (ch : Int)) (hcl : cl.toInt = (c : Int)) (hc12 : c < 12) (hix : ix.toInt = (i : Int)) (hi5 : i < 5) (hC : CUX g B n p I J) (hR : RTX g 27 S I J) (hB : SBn S) (hP : PRX g P (loP c) i I) (hk : tK B n p = 2) (h97 : ch < 97) (hD : ch = 68 → c ≠ 0 → 1 ≤ i ∧ loP c = 0 ∧ 0 ≤ P 0 ∧ P 0 < 4) : SP g mX3_faultOfNumber [.ref (ad g 3), .int pt, .int cl, .int ix, .ref (ad g 27)] I J R (fun r I' J' R' => R' = R ∧ FC g [4] I I' ∧ FC g [41] J J' ∧ ∃ v : Int32, r = some (.int v) ∧ ((∃ k : Nat, v.toInt = (k : Int) ∧ k ≠ 0 ∧ prt B n c i ch p S P = .error (k, tF B n p)) ∨ (v.toInt = 0 ∧ ∃ S2 P2, prt B n c i ch p S P = .ok (S2, P2) ∧ RTX g 27 S2 I' J' ∧ PRX g P2 (loP c) (i + 1) I'))) := by
  refine SP_of ⟨by decide, rfl⟩ (Nat.le_of_ble_eq_true rfl) ?_
  have fI0 : FC g [4] I I := FC_rf
  have fJ0 : FC g [41] J J := FC_rf
  have c4 := hC.2.2.2.1 hk
  obtain ⟨w2010, ew2010⟩ : ∃ w : Int32, I (ad g 1) 4 = w := ⟨_, rfl⟩
  try simp only [ew2010] at c4
  refine WP_aload_n dX3_faultOfNumber_0 rfl ?_
  refine WP_getr dX3_faultOfNumber_1 fX3_15 rfl (lyx_is hy 3 3 rfl) (rfx hr 3 2 1 (by decide)) ?_
  refine WQ_getim dX3_faultOfNumber_4 fX3_118 rfl (lyx_is hy 1 5 rfl) ew2010 ?_
  refine WP_istore (ls' := [(0, _), (1, _), (2, _), (3, _), (4, _), (5, _)]) dX3_faultOfNumber_7 (by decide) rfl ?_
  refine WP_iload dX3_faultOfNumber_9 rfl ?_
  refine WP_iload_n dX3_faultOfNumber_11 rfl ?_
  refine WP_callS1 dX3_faultOfNumber_12 ⟨⟨⟨by decide, by decide⟩, zX3_leastOf⟩, lX3_121, tX3_leastOf⟩ (ex_leastOf hy hr _  hch) (Nat.le_of_ble_eq_true rfl) ?_
  intro r Ia Ja Ra hq
  obtain ⟨⟨ea, eb, ec⟩, v2012, er, p2011⟩ := hq
  rw [ea, eb, ec, er]
  clear ea eb ec er Ia Ja Ra r
  refine WQ_icmp_lt 27 dX3_faultOfNumber_15 rfl (fun c2012 => ?_) (fun c2012 => ?_)
  · refine WQ_iconst (2) (2) dX3_faultOfNumber_27 rfl rfl (fun v2014 hv2014 => ?_)
    exact WP_iret dX3_faultOfNumber_28 rfl ⟨rfl, fI0, fJ0, v2014, rfl, by
      try simp only [ew2010]
      refine Or.inl ⟨2, by omega, by decide, ?_⟩
      rw [prt_u h97 hk, if_pos (by omega)]⟩
  · refine WP_iload dX3_faultOfNumber_18 rfl ?_
    refine WP_iload_n dX3_faultOfNumber_20 rfl ?_
    refine WP_callS1 dX3_faultOfNumber_21 ⟨⟨⟨by decide, by decide⟩, zX3_mostOf⟩, lX3_125, tX3_mostOf⟩ (ex_mostOf hy hr _  hch) (Nat.le_of_ble_eq_true rfl) ?_
    intro r Ia Ja Ra hq
    obtain ⟨⟨ea, eb, ec⟩, v2016, er, p2015⟩ := hq
    rw [ea, eb, ec, er]
    clear ea eb ec er Ia Ja Ra r
    refine WQ_icmp_le 29 dX3_faultOfNumber_24 rfl (fun c2016 => ?_) (fun c2016 => ?_)
    · refine WP_aload_n dX3_faultOfNumber_29 rfl ?_
      refine WP_getr dX3_faultOfNumber_30 fX3_9 rfl (lyx_is hy 3 3 rfl) (rfx hr 3 3 4 (by decide)) ?_
      refine WP_iload_n dX3_faultOfNumber_33 rfl ?_
      refine WP_iload dX3_faultOfNumber_34 rfl ?_
      refine WE_is dX3_faultOfNumber_36 (lyx_is hy 4 13 rfl) (lyx_n hy 4 5 rfl) (by omega) (by omega) (fun I2018 eI2018 => ?_)
      have e2019 : I2018 (ad g 1) 4 = w2010 := by rw [eI2018, pp_ne _ _ (Or.inl (lyx_ne hy (by decide) (by decide) (by decide)))]; exact ew2010
      have fI2020 : FC g [4] I I2018 := by rw [eI2018]; exact FC_pp fI0 (by decide)
      have hR2 : RTX g 27 S I2018 J := RTX_fr hy (by decide) hR fI2020 (FC_rf (C := [])) (by decide) (by decide)
      have hP2 : PRX g (fun j => if j = i then tV B n p else P j) (loP c) (i + 1) I2018 := by
        rw [eI2018, show ix.toInt.toNat = i by omega]
        exact PRX_set hP (by omega)
      refine WP_iload_n dX3_faultOfNumber_37 rfl ?_
      refine WQ_bipush (68) (68) dX3_faultOfNumber_38 rfl rfl (fun v2021 hv2021 => ?_)
      refine WQ_icmp_eq 45 dX3_faultOfNumber_40 rfl (fun c2021 => ?_) (fun c2021 => ?_)
      · have h68 : ch = 68 := by omega
        subst h68
        have hlo : loB 68 = 0 := rfl
        have hhi : hiB 68 = 6 := rfl
        refine WP_aload dX3_faultOfNumber_45 rfl ?_
        refine WP_iload_n dX3_faultOfNumber_47 rfl ?_
        refine WP_iload_n dX3_faultOfNumber_48 rfl ?_
        refine WQ_if_ne 56 dX3_faultOfNumber_49 rfl (fun c2022 => ?_) (fun c2022 => ?_)
        · obtain ⟨d1, d2, d3, d4⟩ := hD rfl (by omega)
          refine WP_aload_n dX3_faultOfNumber_56 rfl ?_
          refine WP_getr dX3_faultOfNumber_57 fX3_9 rfl (lyx_is hy 3 3 rfl) (rfx hr 3 3 4 (by decide)) ?_
          refine WQ_iconst (0) (0) dX3_faultOfNumber_60 rfl rfl (fun v2024 hv2024 => ?_)
          obtain ⟨w2026, ew2026⟩ : ∃ w : Int32, I2018 (ad g 4) 0 = w := ⟨_, rfl⟩
          refine WE_iak (z := 0) dX3_faultOfNumber_61 (lyx_is hy 4 13 rfl) (lyx_n hy 4 5 rfl) hv2024 (by decide) ew2026 ?_
          have hw0 : w2026.toInt = P 0 := by
            rw [← ew2026, eI2018, pp_ne _ _ (Or.inr (by omega))]
            exact hP 0 (by omega) (by omega)
          refine WP_iload dX3_faultOfNumber_62 rfl ?_
          refine WP_callV3 (k := 7) dX3_faultOfNumber_64 ⟨⟨⟨by decide, by decide⟩, zX7_isTold⟩, lX3_114, by decide, rfl, vX7_isTold.1, vX7_isTold.2⟩ (lyx_is hy 27 7 rfl) (ex_isToldb hy hr _ _ _  (ro := c * 4 + (if c = 0 then 0 else (P 0).toNat)) (d := (tV B n p).toNat) hR2 (by rw [if_neg (show ¬ c = 0 by omega)]; omega) (by rw [if_neg (show ¬ c = 0 by omega)]; omega) (by omega) (by omega) (by omega) (by omega)) (Nat.le_of_ble_eq_true rfl) ?_
          intro r Ia Ja Ra hq
          obtain ⟨⟨ea, eb, ec⟩, v2028, er, p2027⟩ := hq
          rw [ea, eb, ec, er]
          clear ea eb ec er Ia Ja Ra r
          refine WQ_if_eq 74 dX3_faultOfNumber_67 rfl (fun c2028 => ?_) (fun c2028 => ?_)
          · refine WQ_iconst (0) (0) dX3_faultOfNumber_74 rfl rfl (fun v2030 hv2030 => ?_)
            exact WP_iret dX3_faultOfNumber_75 rfl ⟨rfl, fI2020, fJ0, v2030, rfl, by
              try simp only [e2019, ew2026, ew2010]
              rcases p2027 with ⟨z1, z2⟩ | ⟨z1, z2⟩
              · first
                | exact absurd z1 (by omega)
                | (refine Or.inl ⟨3, by omega, by decide, ?_⟩; rw [prt_u h97 hk, if_neg (by omega), if_pos ⟨rfl, z2⟩])
              · first
                | exact absurd z1 (by omega)
                | (refine Or.inr ⟨by omega, _, _, (by rw [prt_u h97 hk, if_neg (by omega), if_neg (by rintro ⟨-, z3⟩; rw [z2] at z3; exact absurd z3 (by decide))]), hR2, hP2⟩)⟩
          · refine WQ_iconst (3) (3) dX3_faultOfNumber_70 rfl rfl (fun v2031 hv2031 => ?_)
            refine WP_goto 75 dX3_faultOfNumber_71 rfl ?_
            exact WP_iret dX3_faultOfNumber_75 rfl ⟨rfl, fI2020, fJ0, v2031, rfl, by
              try simp only [e2019, ew2026, ew2010]
              rcases p2027 with ⟨z1, z2⟩ | ⟨z1, z2⟩
              · first
                | exact absurd z1 (by omega)
                | (refine Or.inl ⟨3, by omega, by decide, ?_⟩; rw [prt_u h97 hk, if_neg (by omega), if_pos ⟨rfl, z2⟩])
              · first
                | exact absurd z1 (by omega)
                | (refine Or.inr ⟨by omega, _, _, (by rw [prt_u h97 hk, if_neg (by omega), if_neg (by rintro ⟨-, z3⟩; rw [z2] at z3; exact absurd z3 (by decide))]), hR2, hP2⟩)⟩
        · refine WQ_iconst (0) (0) dX3_faultOfNumber_52 rfl rfl (fun v2032 hv2032 => ?_)
          refine WP_goto 62 dX3_faultOfNumber_53 rfl ?_
          refine WP_iload dX3_faultOfNumber_62 rfl ?_
          refine WP_callV3 (k := 7) dX3_faultOfNumber_64 ⟨⟨⟨by decide, by decide⟩, zX7_isTold⟩, lX3_114, by decide, rfl, vX7_isTold.1, vX7_isTold.2⟩ (lyx_is hy 27 7 rfl) (ex_isToldb hy hr _ _ _  (ro := c * 4 + (if c = 0 then 0 else (P 0).toNat)) (d := (tV B n p).toNat) hR2 (by rw [if_pos (show c = 0 by omega)]; omega) (by rw [if_pos (show c = 0 by omega)]; omega) (by omega) (by omega) (by omega) (by omega)) (Nat.le_of_ble_eq_true rfl) ?_
          intro r Ia Ja Ra hq
          obtain ⟨⟨ea, eb, ec⟩, v2034, er, p2033⟩ := hq
          rw [ea, eb, ec, er]
          clear ea eb ec er Ia Ja Ra r
          refine WQ_if_eq 74 dX3_faultOfNumber_67 rfl (fun c2034 => ?_) (fun c2034 => ?_)
          · refine WQ_iconst (0) (0) dX3_faultOfNumber_74 rfl rfl (fun v2036 hv2036 => ?_)
            exact WP_iret dX3_faultOfNumber_75 rfl ⟨rfl, fI2020, fJ0, v2036, rfl, by
              try simp only [e2019, ew2010]
              rcases p2033 with ⟨z1, z2⟩ | ⟨z1, z2⟩
              · first
                | exact absurd z1 (by omega)
                | (refine Or.inl ⟨3, by omega, by decide, ?_⟩; rw [prt_u h97 hk, if_neg (by omega), if_pos ⟨rfl, z2⟩])
              · first
                | exact absurd z1 (by omega)
                | (refine Or.inr ⟨by omega, _, _, (by rw [prt_u h97 hk, if_neg (by omega), if_neg (by rintro ⟨-, z3⟩; rw [z2] at z3; exact absurd z3 (by decide))]), hR2, hP2⟩)⟩
          · refine WQ_iconst (3) (3) dX3_faultOfNumber_70 rfl rfl (fun v2037 hv2037 => ?_)
            refine WP_goto 75 dX3_faultOfNumber_71 rfl ?_
            exact WP_iret dX3_faultOfNumber_75 rfl ⟨rfl, fI2020, fJ0, v2037, rfl, by
              try simp only [e2019, ew2010]
              rcases p2033 with ⟨z1, z2⟩ | ⟨z1, z2⟩
              · first
                | exact absurd z1 (by omega)
                | (refine Or.inl ⟨3, by omega, by decide, ?_⟩; rw [prt_u h97 hk, if_neg (by omega), if_pos ⟨rfl, z2⟩])
              · first
                | exact absurd z1 (by omega)
                | (refine Or.inr ⟨by omega, _, _, (by rw [prt_u h97 hk, if_neg (by omega), if_neg (by rintro ⟨-, z3⟩; rw [z2] at z3; exact absurd z3 (by decide))]), hR2, hP2⟩)⟩
      · refine WQ_iconst (0) (0) dX3_faultOfNumber_43 rfl rfl (fun v2038 hv2038 => ?_)
        exact WP_iret dX3_faultOfNumber_44 rfl ⟨rfl, fI2020, fJ0, v2038, rfl, by
          try simp only [e2019, ew2010]
          exact Or.inr ⟨by omega, _, _, (by rw [prt_u h97 hk, if_neg (by omega), if_neg (by rintro ⟨z3, -⟩; omega)]), hR2, hP2⟩⟩
    · refine WQ_iconst (2) (2) dX3_faultOfNumber_27 rfl rfl (fun v2039 hv2039 => ?_)
      exact WP_iret dX3_faultOfNumber_28 rfl ⟨rfl, fI0, fJ0, v2039, rfl, by
        try simp only [ew2010]
        refine Or.inl ⟨2, by omega, by decide, ?_⟩
        rw [prt_u h97 hk, if_pos (by omega)]⟩
