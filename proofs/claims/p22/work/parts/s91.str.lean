/-! TEXTS: the literals of the class and of the reference; they lie below the pools and never change -/
def SO (i aK aV : Nat) (A : Nat → Prop) (U : State) (H : Heap) : Prop := va_O RJ0 aK A U H ∧ va_OF RJ0 "coder" "B" (.int 0) aK A U H ∧ va_OF RJ0 "value" "[B" (.ref aV) aK A U H ∧ va_T .byte aV (liN.getD i 0) (fun j => .int ((liB.getD i []).getD j 0)) A U H
def STR (aK aV : Nat → Nat) (fo : Option Nat) (A : Nat → Prop) (s : State) : Prop := (∀ i, i < 32 → SO i (aK i) (aV i) A s s.heap) ∧ (∀ (i : Nat) (e : String × Nat × String), liT[i]? = some e → vk_R e.1 e.2.1 e.2.2 (aK i) s) ∧ va_Z RJ0 "COMPACT_STRINGS" "Z" (.int 1) A s s.heap ∧ va_Z "jdk/internal/util/Preconditions" "SIOOBE_FORMATTER" "Ljava/util/function/BiFunction;" (va_rf fo) A s s.heap
theorem STR.narrow {aK aV : Nat → Nat} {fo : Option Nat} {A B : Nat → Prop} {s : State} (h : STR aK aV fo A s) (hAB : ∀ q, B q → A q) : STR aK aV fo B s :=
  ⟨fun i hi => ⟨(h.1 i hi).1.narrow hAB, (h.1 i hi).2.1.narrow hAB, (h.1 i hi).2.2.1.narrow hAB, (h.1 i hi).2.2.2.narrow hAB⟩, h.2.1, h.2.2.1.narrow hAB, h.2.2.2.narrow hAB⟩
theorem STR_zc {aK aV : Nat → Nat} {fo : Option Nat} {b : Nat} : ZC (STR aK aV fo (fun q => b ≤ q)) b := by
  refine ⟨fun s U h hW hk => ?_, fun s U h e eh => ?_⟩
  · have hq : ∀ a : Nat, a < s.heap.size → ¬ b ≤ a → U.heap[a]? = s.heap[a]? := fun a h1 h2 => hk a h1 (Nat.not_le.mp h2)
    exact ⟨fun i hi => ⟨(va_O.moved hW.alike (h.1 i hi).1).kept hq, (va_OF.moved hW.alike (h.1 i hi).2.1).kept hq, (va_OF.moved hW.alike (h.1 i hi).2.2.1).kept hq, (va_T.moved hW.alike (h.1 i hi).2.2.2).kept hq⟩,
      fun i e he => vk_R.warm hW (h.2.1 i e he), (va_Z.moved hW.alike h.2.2.1).kept hq, (va_Z.moved hW.alike h.2.2.2).kept hq⟩
  · have ha : s.vm.Alike U.vm := by rw [e]; exact Vm.Alike.refl U.vm
    unfold STR
    rw [← eh]
    exact ⟨fun i hi => ⟨va_O.moved ha (h.1 i hi).1, va_OF.moved ha (h.1 i hi).2.1, va_OF.moved ha (h.1 i hi).2.2.1, va_T.moved ha (h.1 i hi).2.2.2⟩,
      fun i x he => vk_R.same e.symm (h.2.1 i x he), va_Z.moved ha h.2.2.1, va_Z.moved ha h.2.2.2⟩
def HZ (g : GG) (aK aV : Nat → Nat) (fo : Option Nat) : Prop := ∀ s, g_Z g s → STR aK aV fo (fun q => g_b g ≤ q) s
section Rules
variable {g : GG} {d z : MD} {pc : Nat} {ls : List (Nat × Value)} {st : List Value} {I : pI} {J : pJ} {R : pR} {Q Q0 : Post} {idx n i : Nat} {As rest : List Value} {aK aV : Nat → Nat} {fo : Option Nat}
theorem str_C {p : Program} {s : State} {m : MethodId} {args : Array Value} {meth : Method} {c : Code} {H : Heap} {locs : List Loc} {la : Array Slot} (hz : HZ g aK aV fo) (C : g_C g d ls I J R p s m args meth c H locs la) : STR aK aV fo (g_A g) s :=
  (hz s C.2.2.2.2.2.2.2.2.1.2.2.2.1).narrow (fun q hq => C.2.2.2.2.2.2.2.2.1.2.2.1 q hq)
theorem WS_ldc {tx : String} (hz : HZ g aK aV fo) (i : Nat) (hi : liT[i]? = some (md_o d, idx, tx)) (h : decode (md_c d) pc = .ok (.ldc idx, 2)) (k : WP g d (pc + 2) ls (.ref (aK i) :: st) I J R Q) : WP g d pc ls st I J R Q :=
  fun p e s m a b mt c H lo la C => va_ldcS C.1 C.2.1 C.2.2.2.2.2.2.1 ((str_C hz C).2.1 i _ hi) h (k p e s m a b mt c H lo la C)
theorem WS_val (hz : HZ g aK aV fo) (hi : i < 32) (ho : md_o d = RJ0) (h : decode (md_c d) pc = .ok (.getfield 9, 3)) (k : WP g d (pc + 3) ls (.ref (aV i) :: st) I J R Q) : WP g d pc ls (.ref (aK i) :: st) I J R Q :=
  fun p e s m a b mt c H lo la C => vk_getf C.1 C.2.1 ((str_C hz C).1 i hi).2.2.1 C.2.2.2.2.2.2.2.2.2.2 (by rw [← ho]; exact C.2.2.2.2.2.2.1) (C.2.2.2.2.2.2.2.1 _ (List.mem_cons_of_mem _ fJ0_9)) (fun x hx => hx) h (k p e s m a b mt c H lo la C)
theorem WS_cod (hz : HZ g aK aV fo) (hi : i < 32) (ho : md_o d = RJ0) (h : decode (md_c d) pc = .ok (.getfield 15, 3)) (k : WP g d (pc + 3) ls (.int 0 :: st) I J R Q) : WP g d pc ls (.ref (aK i) :: st) I J R Q :=
  fun p e s m a b mt c H lo la C => vk_getf C.1 C.2.1 ((str_C hz C).1 i hi).2.1 C.2.2.2.2.2.2.2.2.2.2 (by rw [← ho]; exact C.2.2.2.2.2.2.1) (C.2.2.2.2.2.2.2.1 _ (List.mem_cons_of_mem _ fJ0_15)) (fun x hx => hx) h (k p e s m a b mt c H lo la C)
theorem WS_cmp (hz : HZ g aK aV fo) (ho : md_o d = RJ0) (h : decode (md_c d) pc = .ok (.getstatic 38, 3)) (k : WP g d (pc + 3) ls (.int 1 :: st) I J R Q) : WP g d pc ls st I J R Q :=
  fun p e s m a b mt c H lo la C => va_gets C.1 C.2.1 (str_C hz C).2.2.1 C.2.2.2.2.2.2.2.2.2.2 (by rw [← ho]; exact C.2.2.2.2.2.2.1) (C.2.2.2.2.2.2.2.1 _ (List.mem_cons_of_mem _ fJ0_38)) (fun x hx => hx) h (k p e s m a b mt c H lo la C)
theorem WS_fmt (hz : HZ g aK aV fo) (ho : md_o d = RJ0) (h : decode (md_c d) pc = .ok (.getstatic 1053, 3)) (k : WP g d (pc + 3) ls (va_rf fo :: st) I J R Q) : WP g d pc ls st I J R Q :=
  fun p e s m a b mt c H lo la C => va_gets C.1 C.2.1 (str_C hz C).2.2.2 C.2.2.2.2.2.2.2.2.2.2 (by rw [← ho]; exact C.2.2.2.2.2.2.1) (C.2.2.2.2.2.2.2.1 _ (List.mem_cons_of_mem _ fJ0_1053)) (fun x hx => hx) h (k p e s m a b mt c H lo la C)
theorem WS_alen (hz : HZ g aK aV fo) (hi : i < 32) (h : decode (md_c d) pc = .ok (.arraylength, 1)) (k : WP g d (pc + 1) ls (.int (Int32.ofNat (liN.getD i 0)) :: st) I J R Q) : WP g d pc ls (.ref (aV i) :: st) I J R Q :=
  fun p e s m a b mt c H lo la C => va_tlen C.1 C.2.1 ((str_C hz C).1 i hi).2.2.2 C.2.2.2.2.2.2.2.2.2.2 rfl h (k p e s m a b mt c H lo la C)
theorem WS_bald {k0 : Int32} (hz : HZ g aK aV fo) (hi : i < 32) (hk : vp_in k0 (liN.getD i 0)) (h : decode (md_c d) pc = .ok (.baload, 1)) (k : WP g d (pc + 1) ls (.int ((liB.getD i []).getD k0.toNatClampNeg 0) :: st) I J R Q) : WP g d pc ls (.int k0 :: .ref (aV i) :: st) I J R Q :=
  fun p e s m a b mt c H lo la C => va_tb C.1 C.2.1 ((str_C hz C).1 i hi).2.2.2 C.2.2.2.2.2.2.2.2.2.2 hk rfl h (k p e s m a b mt c H lo la C)
theorem WS_call (hz : HZ g aK aV fo) (hi : i < 32) (h : decode (md_c d) pc = .ok (.invokevirtual idx, 3)) (cs : csB d z n) (cl : Cond.methodLink (md_o d) idx (md_y z) ∈ wsL_law) (cv : Cond.instanceMethod (md_y z) ∈ wsL_law ∧ Cond.selects RJ0 (md_y z) (md_y z) ∈ wsL_law) (hs : SP g z (.ref (aK i) :: As) I J R Q0) (hn : As.length = n) (hst : st = As.reverse ++ .ref (aK i) :: rest) (hcat : (rest.map fun v => v.category).sum ≤ 8)
    (kk : ∀ (r : Option Value) (I' : pI) (J' : pJ) (R' : pR), Q0 r I' J' R' → WP g d (pc + 3) ls (r.toList ++ rest) I' J' R' Q) : WP g d pc ls st I J R Q := by
  intro p e s m as b2 mt c H lo la C
  have C0 := C
  obtain ⟨hx, hb, hl, hml, hre, hlk, hown, hts, hS, hP, hA⟩ := C
  obtain ⟨cr, cd, cc, ci⟩ := cs
  have ht : ∀ w ∈ wsL_law, w.before as s = true := fun w hw => hts w (List.mem_cons_of_mem _ hw)
  have cb : CallB (md_rm d) s as (md_o d) idx (md_y z) (md_c z) (md_n z) (md_r z) (md_w z) (md_rm z) 0 0 n := callB_of n hts (md_good cc) rfl rfl rfl (ht _ ci) (ht _ cl) cd cr
  have hrecv : ∃ cell : Cell, H[aK i]? = some cell ∧ cell.vm.isStatics = false ∧ s.vm.findClass RJ0 = some cell.cls := by
    obtain ⟨cell, h1, h2, h3, -⟩ := ((str_C hz C0).1 i hi).1.kept hA.2.1
    exact ⟨cell, h1, h2, h3⟩
  have hrun := va_runV (C := RJ0) (As := As) (rest := rest) (g := F0 m pc la st) (below := b2) (e := e) (locs := lo) (cells := 0) (slots := 0) (meth := mt) ⟨hx, hb, hml, hown, hts⟩ hs ⟨cb, ht _ cv.1, ht _ cv.2⟩
    ⟨SP_blind, hrecv, fun U hU hW => ⟨rfl, by rw [hU]; exact hP, hS.warmA hW hU hA⟩⟩ rfl hn hl.1 hst (lv_room hcat) h ⟨Nat.le_refl _, Nat.le_refl _⟩
  exact WP_back C0 hrun kk
theorem WP_aret {a : Nat} {nm : String} (h : decode (md_c d) pc = .ok (.areturn, 1)) (hr : md_r d = some (.object nm)) (hq : Q (some (.ref a)) I J R) : WP g d pc ls [.ref a] I J R Q := by
  intro p e s m as b mt c H lo la ⟨hx, hb, hl, hml, hre, hlk, hown, hts, hS, hP, hA⟩
  exact W.aret hx hb (hre.trans hr) (Or.inl ⟨nm, rfl⟩) (Or.inr ⟨a, rfl⟩) (fun t ht hW => ⟨⟨_, I, J, R, rfl, hq, by rw [ht]; exact hP⟩, hA.F ht⟩) hA.2.2 h hlk
end Rules
section Jdk
variable {g : GG} {I : pI} {J : pJ} {R : pR} {i : Nat} {aK aV : Nat → Nat} {fo : Option Nat}
theorem j_coder (hz : HZ g aK aV fo) (hi : i < 32) : SP g mJ0_coder_7d493 [.ref (aK i)] I J R (pq (.int 0) I J R) := by
  refine SP_of ⟨by decide, rfl⟩ (Nat.le_of_ble_eq_true rfl) ?_
  refine WS_cmp hz rfl dJ0_coder_7d493_0 ?_
  refine WP_if_eq 13 dJ0_coder_7d493_3 rfl (fun h => absurd h (by decide)) (fun _ => ?_)
  refine WP_aload_n dJ0_coder_7d493_6 rfl ?_
  refine WS_cod hz hi rfl dJ0_coder_7d493_7 ?_
  refine WP_goto 14 dJ0_coder_7d493_10 rfl ?_
  exact WP_zret dJ0_coder_7d493_14 rfl rfl ⟨rfl, rfl, rfl, rfl⟩
theorem j_isLatin1 (hz : HZ g aK aV fo) (hi : i < 32) : SP g mJ0_isLatin1_aae02 [.ref (aK i)] I J R (pq (.int 1) I J R) := by
  refine SP_of ⟨by decide, rfl⟩ (Nat.le_of_ble_eq_true rfl) ?_
  refine WS_cmp hz rfl dJ0_isLatin1_aae02_0 ?_
  refine WP_if_eq 17 dJ0_isLatin1_aae02_3 rfl (fun h => absurd h (by decide)) (fun _ => ?_)
  refine WP_aload_n dJ0_isLatin1_aae02_6 rfl ?_
  refine WS_cod hz hi rfl dJ0_isLatin1_aae02_7 ?_
  refine WP_if_ne 17 dJ0_isLatin1_aae02_10 rfl (fun h => absurd rfl h) (fun _ => ?_)
  refine WP_iconst 1 dJ0_isLatin1_aae02_13 rfl ?_
  refine WP_goto 18 dJ0_isLatin1_aae02_14 rfl ?_
  exact WP_zret dJ0_isLatin1_aae02_18 rfl rfl ⟨rfl, rfl, rfl, rfl⟩
theorem li_len : ∀ i, i < 32 → (Int32.ofNat (liN.getD i 0) >>> ((0 : Int32) &&& 31)).toInt = (liN.getD i 0 : Int) ∧ (Int32.ofNat (liN.getD i 0)).toInt = (liN.getD i 0 : Int) ∧ liN.getD i 0 ≤ 5 := by decide
theorem j_length (hz : HZ g aK aV fo) (hi : i < 32) : SP g mJ0_length_8abf5 [.ref (aK i)] I J R (fun r I' J' R' => (I' = I ∧ J' = J ∧ R' = R) ∧ ∃ v : Int32, r = some (.int v) ∧ v.toInt = (liN.getD i 0 : Int)) := by
  refine SP_of ⟨by decide, rfl⟩ (Nat.le_of_ble_eq_true rfl) ?_
  refine WP_aload_n dJ0_length_8abf5_0 rfl ?_
  refine WS_val hz hi rfl dJ0_length_8abf5_1 ?_
  refine WS_alen hz hi dJ0_length_8abf5_4 ?_
  refine WP_aload_n dJ0_length_8abf5_5 rfl ?_
  refine WS_call hz hi dJ0_length_8abf5_6 ⟨⟨by decide, by decide⟩, zJ0_coder_7d493⟩ lJ0_335 vJ0_coder_7d493 (As := []) (rest := [_]) (j_coder hz hi) rfl rfl (Nat.le_of_ble_eq_true rfl) ?_
  rintro r I' J' R' ⟨rfl, rfl, rfl, rfl⟩
  refine WP_ishr dJ0_length_8abf5_9 ?_
  exact WP_iret dJ0_length_8abf5_10 rfl ⟨⟨rfl, rfl, rfl⟩, _, rfl, (li_len i hi).1⟩
theorem j_check3 {k n : Int32} (h0 : 0 ≤ k.toInt) (h1 : k.toInt < n.toInt) : SP g mJ3_checkIndex_8e157 [.int k, .int n, va_rf fo] I J R (pq (.int k) I J R) := by
  cases fo with
  | none =>
    refine SP_of ⟨by decide, rfl⟩ (Nat.le_of_ble_eq_true rfl) ?_
    refine WP_iload_n dJ3_checkIndex_8e157_0 rfl ?_
    refine WQ_if_lt 9 dJ3_checkIndex_8e157_1 rfl (fun h => False.elim (by omega)) (fun _ => ?_)
    refine WP_iload_n dJ3_checkIndex_8e157_4 rfl ?_
    refine WP_iload_n dJ3_checkIndex_8e157_5 rfl ?_
    refine WQ_icmp_lt 16 dJ3_checkIndex_8e157_6 rfl (fun _ => ?_) (fun h => False.elim (by omega))
    refine WP_iload_n dJ3_checkIndex_8e157_16 rfl ?_
    exact WP_iret dJ3_checkIndex_8e157_17 rfl ⟨rfl, rfl, rfl, rfl⟩
  | some a =>
    refine SP_of ⟨by decide, rfl⟩ (Nat.le_of_ble_eq_true rfl) ?_
    refine WP_iload_n dJ3_checkIndex_8e157_0 rfl ?_
    refine WQ_if_lt 9 dJ3_checkIndex_8e157_1 rfl (fun h => False.elim (by omega)) (fun _ => ?_)
    refine WP_iload_n dJ3_checkIndex_8e157_4 rfl ?_
    refine WP_iload_n dJ3_checkIndex_8e157_5 rfl ?_
    refine WQ_icmp_lt 16 dJ3_checkIndex_8e157_6 rfl (fun _ => ?_) (fun h => False.elim (by omega))
    refine WP_iload_n dJ3_checkIndex_8e157_16 rfl ?_
    exact WP_iret dJ3_checkIndex_8e157_17 rfl ⟨rfl, rfl, rfl, rfl⟩
theorem j_check0 {k n : Int32} (hz : HZ g aK aV fo) (h0 : 0 ≤ k.toInt) (h1 : k.toInt < n.toInt) : SP g mJ0_checkIndex_df160 [.int k, .int n] I J R (pu I J R) := by
  refine SP_of ⟨by decide, rfl⟩ (Nat.le_of_ble_eq_true rfl) ?_
  refine WP_iload_n dJ0_checkIndex_df160_0 rfl ?_
  refine WP_iload_n dJ0_checkIndex_df160_1 rfl ?_
  refine WS_fmt hz rfl dJ0_checkIndex_df160_2 ?_
  refine WP_callS dJ0_checkIndex_df160_5 ⟨⟨⟨by decide, by decide⟩, zJ3_checkIndex_8e157⟩, lJ0_1059, tJ3_checkIndex_8e157⟩ (As := [.int k, .int n, va_rf fo]) (rest := []) (j_check3 h0 h1) rfl rfl (Nat.le_of_ble_eq_true rfl) ?_
  rintro r I' J' R' ⟨rfl, rfl, rfl, rfl⟩
  refine WP_pop dJ0_checkIndex_df160_8 rfl ?_
  exact WP_vret dJ0_checkIndex_df160_9 rfl ⟨rfl, rfl, rfl, rfl⟩
theorem li_ch : ∀ i, i < 32 → ∀ k, k < 5 → ((((liB.getD i []).getD k 0 &&& 255).toUInt32 % 65536).toInt32).toInt = ((liB.getD i []).getD k 0).toInt := by decide
theorem j_charAt1 {k : Int32} (hz : HZ g aK aV fo) (hi : i < 32) (h0 : 0 ≤ k.toInt) (h1 : k.toInt < (liN.getD i 0 : Int)) : SP g mJ1_charAt_3b067 [.ref (aV i), .int k] I J R (fun r I' J' R' => (I' = I ∧ J' = J ∧ R' = R) ∧ ∃ v : Int32, r = some (.int v) ∧ v.toInt = ((liB.getD i []).getD k.toInt.toNat 0).toInt ∧ narrow .char (.int v) = .int v) := by
  refine SP_of ⟨by decide, rfl⟩ (Nat.le_of_ble_eq_true rfl) ?_
  refine WP_iload_n dJ1_charAt_3b067_0 rfl ?_
  refine WP_aload_n dJ1_charAt_3b067_1 rfl ?_
  refine WS_alen hz hi dJ1_charAt_3b067_2 ?_
  refine WP_callS dJ1_charAt_3b067_3 ⟨⟨⟨by decide, by decide⟩, zJ0_checkIndex_df160⟩, lJ1_9, tJ0_checkIndex_df160⟩ (As := [.int k, .int _]) (rest := []) (j_check0 hz h0 (by rw [(li_len i hi).2.1]; exact h1)) rfl rfl (Nat.le_of_ble_eq_true rfl) ?_
  rintro r I' J' R' ⟨rfl, rfl, rfl, rfl⟩
  refine WP_aload_n dJ1_charAt_3b067_6 rfl ?_
  refine WP_iload_n dJ1_charAt_3b067_7 rfl ?_
  refine WS_bald hz hi (vin h0 h1) dJ1_charAt_3b067_8 ?_
  refine WP_sipush 255 dJ1_charAt_3b067_9 rfl ?_
  refine WP_iand dJ1_charAt_3b067_12 ?_
  refine WP_i2c dJ1_charAt_3b067_13 ?_
  refine WP_zret dJ1_charAt_3b067_14 rfl (pk_nc _) ⟨⟨rfl, rfl, rfl⟩, _, rfl, ?_, pk_nc _⟩
  have l5 := (li_len i hi).2.2
  rw [cl (x := k) (n := k.toInt.toNat) (by omega)]
  exact li_ch i hi k.toInt.toNat (by omega)
theorem j_charAt {k : Int32} (hz : HZ g aK aV fo) (hi : i < 32) (h0 : 0 ≤ k.toInt) (h1 : k.toInt < (liN.getD i 0 : Int)) : SP g mJ0_charAt_5068e [.ref (aK i), .int k] I J R (fun r I' J' R' => (I' = I ∧ J' = J ∧ R' = R) ∧ ∃ v : Int32, r = some (.int v) ∧ v.toInt = ((liB.getD i []).getD k.toInt.toNat 0).toInt) := by
  refine SP_of ⟨by decide, rfl⟩ (Nat.le_of_ble_eq_true rfl) ?_
  refine WP_aload_n dJ0_charAt_5068e_0 rfl ?_
  refine WS_call hz hi dJ0_charAt_5068e_1 ⟨⟨by decide, by decide⟩, zJ0_isLatin1_aae02⟩ lJ0_492 vJ0_isLatin1_aae02 (As := []) (rest := []) (j_isLatin1 hz hi) rfl rfl (Nat.le_of_ble_eq_true rfl) ?_
  rintro r I' J' R' ⟨rfl, rfl, rfl, rfl⟩
  refine WP_if_eq 16 dJ0_charAt_5068e_4 rfl (fun h => absurd h (by decide)) (fun _ => ?_)
  refine WP_aload_n dJ0_charAt_5068e_7 rfl ?_
  refine WS_val hz hi rfl dJ0_charAt_5068e_8 ?_
  refine WP_iload_n dJ0_charAt_5068e_11 rfl ?_
  refine WP_callS2 dJ0_charAt_5068e_12 ⟨⟨⟨by decide, by decide⟩, zJ1_charAt_3b067⟩, lJ0_495, tJ1_charAt_3b067⟩ (j_charAt1 hz hi h0 h1) (Nat.le_of_ble_eq_true rfl) ?_
  rintro r I' J' R' ⟨⟨rfl, rfl, rfl⟩, v, rfl, hv, hn⟩
  exact WP_zret dJ0_charAt_5068e_15 rfl hn ⟨⟨rfl, rfl, rfl⟩, v, rfl, hv⟩
end Jdk
