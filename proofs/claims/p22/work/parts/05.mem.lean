/-! FIELDS, ROWS, ENDS AND CALLS -/
/-- the field that a class's pool entry idx names is slot q of class k -/
def fl (own : String) (idx k q : Nat) : Prop := k < 12 ∧ q < pw_N k ∧ Cond.fieldLink own idx (pw_T k q).1 (pw_T k q).2.1 (pw_T k q).2.2.1 ∈ wsL_law
section Rules
variable {g : GG} {d : MD} {pc : Nat} {ls : List (Nat × Value)} {st : List Value} {I : pI} {J : pJ} {R : pR} {Q : Post}
theorem WP_get {idx k q a : Nat} {v : Value} (h : decode (md_c d) pc = .ok (.getfield idx, 3)) (f : fl (md_o d) idx k q) (ha : g_is g a k) (hv : pw_v (pw_ty k q) (I a q) (J a q) (R a q) = v) (kk : WP g d (pc + 3) ls (v :: st) I J R Q) : WP g d pc ls (.ref a :: st) I J R Q := by
  intro p e s m as b mt c H lo la C
  have C0 := C
  obtain ⟨hx, hb, hl, hml, hr, hlk, hown, hts, hS, ⟨hn, hP⟩, hA⟩ := C
  obtain ⟨n, hk⟩ := g_get (I := I) (J := J) (R := R) ha.1
  have hk2 : (g_W g I J R)[n]? = some (a, .inr (k, pw_fs k I J R a)) := by rw [hk, g_F_obj ha.2 f.1]
  exact va_get (D := g_D g) hx hb hts (fun w hw => List.mem_cons_of_mem _ (pw_in k f.1 w hw)) hown hS.1 hP n hk2 (pw_cl k f.1) q f.2.1 (hts _ (List.mem_cons_of_mem _ f.2.2)) (fun _ h9 => h9) (by rw [pw_fs_get f.2.1, hv]) h (kk p e s m as b mt c H lo la C0)
theorem WP_geti {idx k q a : Nat} (h : decode (md_c d) pc = .ok (.getfield idx, 3)) (f : fl (md_o d) idx k q) (ht : pw_v (pw_ty k q) = fun i _ _ => .int i) (ha : g_is g a k) (kk : WP g d (pc + 3) ls (.int (I a q) :: st) I J R Q) : WP g d pc ls (.ref a :: st) I J R Q :=
  WP_get h f ha (by rw [ht]) kk
theorem WP_getl {idx k q a : Nat} (h : decode (md_c d) pc = .ok (.getfield idx, 3)) (f : fl (md_o d) idx k q) (ht : pw_v (pw_ty k q) = fun _ j _ => .long j) (ha : g_is g a k) (kk : WP g d (pc + 3) ls (.long (J a q) :: st) I J R Q) : WP g d pc ls (.ref a :: st) I J R Q :=
  WP_get h f ha (by rw [ht]) kk
theorem WP_getr {idx k q a b : Nat} (h : decode (md_c d) pc = .ok (.getfield idx, 3)) (f : fl (md_o d) idx k q) (ht : pw_v (pw_ty k q) = fun _ _ r => va_rf r) (ha : g_is g a k) (hb : R a q = some b) (kk : WP g d (pc + 3) ls (.ref b :: st) I J R Q) : WP g d pc ls (.ref a :: st) I J R Q :=
  WP_get h f ha (by rw [ht]; simp only [hb]; rfl) kk
theorem WP_put {idx k q a : Nat} {v : Value} {I' : pI} {J' : pJ} {R' : pR} (h : decode (md_c d) pc = .ok (.putfield idx, 3)) (f : fl (md_o d) idx k q) (hf : (pw_T k q).2.2.2 = false) (ha : g_is g a k) (hn : narrow (pw_ty k q) v = v) (hfit : fits (pw_ty k q) v = true)
    (hv : pw_v (pw_ty k q) (I' a q) (J' a q) (R' a q) = v) (ho : ∀ z, z ≠ q → I' a z = I a z ∧ J' a z = J a z ∧ R' a z = R a z) (hoff : ∀ b, b ≠ a → I' b = I b ∧ J' b = J b ∧ R' b = R b)
    (kk : WP g d (pc + 3) ls st I' J' R' Q) : WP g d pc ls (v :: .ref a :: st) I J R Q := by
  intro p e s m as b mt c H lo la C
  obtain ⟨hx, hb, hl, hml, hr, hlk, hown, hts, hS, ⟨hnd, hP⟩, hA⟩ := C
  obtain ⟨n, hk⟩ := g_get (I := I) (J := J) (R := R) ha.1
  have hk2 : (g_W g I J R)[n]? = some (a, .inr (k, pw_fs k I J R a)) := by rw [hk, g_F_obj ha.2 f.1]
  refine va_put (D := g_D g) (A := g_A g) hx hb hts (fun w hw => List.mem_cons_of_mem _ (pw_in k f.1 w hw)) (pw_ty k) (pw_tyok k f.1) (pw_nm k f.1) hown hS.1 hP (g_apart hnd _) hA n hk2 (pw_cl k f.1) q f.2.1 (hts _ (List.mem_cons_of_mem _ f.2.2)) (fun _ h9 => h9) hf (pw_tyok k f.1 q f.2.1) hn hfit (by rw [pw_fs_len]; exact f.2.1) h (fun H1 lo1 hP1 hD1 hS1 => ?_)
  have hw : (g_W g I J R).set n (a, .inr (k, (pw_fs k I J R a).set q v)) = g_W g I' J' R' := by
    refine g_set hnd ha.1 hk ?_ (fun b hb => g_F_off (hoff b hb).1 (hoff b hb).2.1 (hoff b hb).2.2)
    rw [g_F_obj ha.2 f.1, pw_fs_set f.2.1 hv ho]
  rw [hw] at hP1
  exact kk p e s m as b mt c H1 lo1 la ⟨hx, hb, hl, hml, hr, hlk, hown, hts, hS, ⟨hnd, hP1⟩, hS1⟩
theorem WP_puti {idx k q a : Nat} {x : Int32} (h : decode (md_c d) pc = .ok (.putfield idx, 3)) (f : fl (md_o d) idx k q) (hf : (pw_T k q).2.2.2 = false) (ht : pw_ty k q = .int) (ha : g_is g a k) (kk : WP g d (pc + 3) ls st (pp I a q x) J R Q) : WP g d pc ls (.int x :: .ref a :: st) I J R Q :=
  WP_put h f hf ha (by rw [ht]; rfl) (by rw [ht]; rfl) (by rw [ht, pp_self]; rfl) (fun z hz => ⟨pp_ne _ _ (Or.inr hz), rfl, rfl⟩) (fun b hb => ⟨pp_off _ _ hb, rfl, rfl⟩) kk
theorem WP_putz {idx k q a : Nat} {x : Int32} (h : decode (md_c d) pc = .ok (.putfield idx, 3)) (f : fl (md_o d) idx k q) (hf : (pw_T k q).2.2.2 = false) (ht : pw_ty k q = .boolean) (hx : x = 0 ∨ x = 1) (ha : g_is g a k) (kk : WP g d (pc + 3) ls st (pp I a q x) J R Q) : WP g d pc ls (.int x :: .ref a :: st) I J R Q :=
  WP_put h f hf ha (by rw [ht]; rcases hx with rfl | rfl <;> rfl) (by rw [ht]; rcases hx with rfl | rfl <;> rfl) (by rw [ht, pp_self]; rfl) (fun z hz => ⟨pp_ne _ _ (Or.inr hz), rfl, rfl⟩) (fun b hb => ⟨pp_off _ _ hb, rfl, rfl⟩) kk
theorem WP_putl {idx k q a : Nat} {x : Int64} (h : decode (md_c d) pc = .ok (.putfield idx, 3)) (f : fl (md_o d) idx k q) (hf : (pw_T k q).2.2.2 = false) (ht : pw_ty k q = .long) (ha : g_is g a k) (kk : WP g d (pc + 3) ls st I (pp J a q x) R Q) : WP g d pc ls (.long x :: .ref a :: st) I J R Q :=
  WP_put h f hf ha (by rw [ht]; rfl) (by rw [ht]; rfl) (by rw [ht, pp_self]; rfl) (fun z hz => ⟨rfl, pp_ne _ _ (Or.inr hz), rfl⟩) (fun b hb => ⟨rfl, pp_off _ _ hb, rfl⟩) kk
theorem WP_putr {idx k q a b : Nat} (h : decode (md_c d) pc = .ok (.putfield idx, 3)) (f : fl (md_o d) idx k q) (hf : (pw_T k q).2.2.2 = false) (ht : pw_v (pw_ty k q) = fun _ _ r => va_rf r) (hn : narrow (pw_ty k q) (.ref b) = .ref b) (hfit : fits (pw_ty k q) (.ref b) = true) (ha : g_is g a k) (kk : WP g d (pc + 3) ls st I J (pp R a q (some b)) Q) : WP g d pc ls (.ref b :: .ref a :: st) I J R Q :=
  WP_put h f hf ha hn hfit (by rw [ht, pp_self]; rfl) (fun z hz => ⟨rfl, rfl, pp_ne _ _ (Or.inr hz)⟩) (fun c hc => ⟨rfl, rfl, pp_off _ _ hc⟩) kk
theorem WP_iald {a : Nat} {i : Int32} (h : decode (md_c d) pc = .ok (.iaload, 1)) (ha : g_is g a 13) (hi : vp_in i (g_n g a)) (kk : WP g d (pc + 1) ls (.int (I a i.toNatClampNeg) :: st) I J R Q) : WP g d pc ls (.int i :: .ref a :: st) I J R Q := by
  intro p e s m as b mt c H lo la C
  obtain ⟨n, hk⟩ := g_get (I := I) (J := J) (R := R) ha.1
  rw [g_F_int ha.2 (Or.inr (Or.inl rfl))] at hk
  exact va_iald C.1 C.2.1 C.2.2.2.2.2.2.2.2.1.1 C.2.2.2.2.2.2.2.2.2.1.2 n 1 hk rfl hi h (kk p e s m as b mt c H lo la C)
theorem WP_bald {a : Nat} {i : Int32} (h : decode (md_c d) pc = .ok (.baload, 1)) (ha : g_is g a 12) (hi : vp_in i (g_n g a)) (kk : WP g d (pc + 1) ls (.int (I a i.toNatClampNeg) :: st) I J R Q) : WP g d pc ls (.int i :: .ref a :: st) I J R Q := by
  intro p e s m as b mt c H lo la C
  obtain ⟨n, hk⟩ := g_get (I := I) (J := J) (R := R) ha.1
  rw [g_F_int ha.2 (Or.inl rfl)] at hk
  exact va_bald C.1 C.2.1 C.2.2.2.2.2.2.2.2.1.1 C.2.2.2.2.2.2.2.2.2.1.2 n 0 hk rfl hi h (kk p e s m as b mt c H lo la C)
theorem WP_zald {a : Nat} {i : Int32} (h : decode (md_c d) pc = .ok (.baload, 1)) (ha : g_is g a 15) (hi : vp_in i (g_n g a)) (kk : WP g d (pc + 1) ls (.int (I a i.toNatClampNeg) :: st) I J R Q) : WP g d pc ls (.int i :: .ref a :: st) I J R Q := by
  intro p e s m as b mt c H lo la C
  obtain ⟨n, hk⟩ := g_get (I := I) (J := J) (R := R) ha.1
  rw [g_F_int ha.2 (Or.inr (Or.inr rfl))] at hk
  exact va_zald C.1 C.2.1 C.2.2.2.2.2.2.2.2.1.1 C.2.2.2.2.2.2.2.2.2.1.2 n 3 hk rfl hi h (kk p e s m as b mt c H lo la C)
theorem WP_lald {a : Nat} {i : Int32} (h : decode (md_c d) pc = .ok (.laload, 1)) (ha : g_is g a 14) (hi : vp_in i (g_n g a)) (kk : WP g d (pc + 1) ls (.long (J a i.toNatClampNeg) :: st) I J R Q) : WP g d pc ls (.int i :: .ref a :: st) I J R Q := by
  intro p e s m as b mt c H lo la C
  obtain ⟨n, hk⟩ := g_get (I := I) (J := J) (R := R) ha.1
  rw [g_F_long ha.2] at hk
  exact va_lald C.1 C.2.1 C.2.2.2.2.2.2.2.2.1.1 C.2.2.2.2.2.2.2.2.2.1.2 n 2 hk rfl hi h (kk p e s m as b mt c H lo la C)
theorem WP_aald {a z : Nat} {i : Int32} (h : decode (md_c d) pc = .ok (.aaload, 1)) (ha : g_is g a 16) (hi : vp_in i (g_n g a)) (hz : R a i.toNatClampNeg = some z) (kk : WP g d (pc + 1) ls (.ref z :: st) I J R Q) : WP g d pc ls (.int i :: .ref a :: st) I J R Q := by
  intro p e s m as b mt c H lo la C
  obtain ⟨n, hk⟩ := g_get (I := I) (J := J) (R := R) ha.1
  rw [g_F_ref ha.2] at hk
  refine va_aldq C.1 C.2.1 C.2.2.2.2.2.2.2.2.1.1 C.2.2.2.2.2.2.2.2.2.1.2 n 4 hk rfl hi h ?_
  rw [hz]
  exact kk p e s m as b mt c H lo la C
theorem WP_iast {a : Nat} {i x : Int32} (h : decode (md_c d) pc = .ok (.iastore, 1)) (ha : g_is g a 13) (hi : vp_in i (g_n g a)) (kk : WP g d (pc + 1) ls st (pp I a i.toNatClampNeg x) J R Q) : WP g d pc ls (.int x :: .int i :: .ref a :: st) I J R Q := by
  intro p e s m as b mt c H lo la C
  obtain ⟨hx, hb, hl, hml, hr, hlk, hown, hts, hS, ⟨hnd, hP⟩, hA⟩ := C
  obtain ⟨n, hk0⟩ := g_get (I := I) (J := J) (R := R) ha.1
  have hk := hk0
  rw [g_F_int ha.2 (Or.inr (Or.inl rfl))] at hk
  refine va_iast hx hb hS.1 hP (g_apart hnd _) hA n 1 hk rfl hi h (fun H1 lo1 hP1 hD1 hS1 => ?_)
  have hw : (g_W g I J R).set n (a, .inl (g_cy g 13, g_n g a, .inl (upd (I a) i.toNatClampNeg x))) = g_W g (pp I a i.toNatClampNeg x) J R :=
    g_set hnd ha.1 hk0 (by rw [g_F_int ha.2 (Or.inr (Or.inl rfl)), pp_rowI]) (fun b hb => g_F_off (pp_off _ _ hb) rfl rfl)
  have hP2 : va_P (g_D g) vwCl (g_W g (pp I a i.toNatClampNeg x) J R) H1 := hw ▸ hP1
  exact kk p e s m as b mt c H1 lo1 la ⟨hx, hb, hl, hml, hr, hlk, hown, hts, hS, ⟨hnd, hP2⟩, hS1⟩
theorem WP_bast {a : Nat} {i x : Int32} (h : decode (md_c d) pc = .ok (.bastore, 1)) (ha : g_is g a 12) (hi : vp_in i (g_n g a)) (kk : WP g d (pc + 1) ls st (pp I a i.toNatClampNeg (vp_nar .byte x)) J R Q) : WP g d pc ls (.int x :: .int i :: .ref a :: st) I J R Q := by
  intro p e s m as b mt c H lo la C
  obtain ⟨hx, hb, hl, hml, hr, hlk, hown, hts, hS, ⟨hnd, hP⟩, hA⟩ := C
  obtain ⟨n, hk0⟩ := g_get (I := I) (J := J) (R := R) ha.1
  have hk := hk0
  rw [g_F_int ha.2 (Or.inl rfl)] at hk
  refine va_bast hx hb hS.1 hP (g_apart hnd _) hA n 0 hk rfl hi h (fun H1 lo1 hP1 hD1 hS1 => ?_)
  have hw : (g_W g I J R).set n (a, .inl (g_cy g 12, g_n g a, .inl (upd (I a) i.toNatClampNeg (vp_nar .byte x)))) = g_W g (pp I a i.toNatClampNeg (vp_nar .byte x)) J R :=
    g_set hnd ha.1 hk0 (by rw [g_F_int ha.2 (Or.inl rfl), pp_rowI]) (fun b hb => g_F_off (pp_off _ _ hb) rfl rfl)
  have hP2 : va_P (g_D g) vwCl (g_W g (pp I a i.toNatClampNeg (vp_nar .byte x)) J R) H1 := hw ▸ hP1
  exact kk p e s m as b mt c H1 lo1 la ⟨hx, hb, hl, hml, hr, hlk, hown, hts, hS, ⟨hnd, hP2⟩, hS1⟩
theorem WP_zast {a : Nat} {i x : Int32} (h : decode (md_c d) pc = .ok (.bastore, 1)) (ha : g_is g a 15) (hi : vp_in i (g_n g a)) (kk : WP g d (pc + 1) ls st (pp I a i.toNatClampNeg (vp_nar .boolean x)) J R Q) : WP g d pc ls (.int x :: .int i :: .ref a :: st) I J R Q := by
  intro p e s m as b mt c H lo la C
  obtain ⟨hx, hb, hl, hml, hr, hlk, hown, hts, hS, ⟨hnd, hP⟩, hA⟩ := C
  obtain ⟨n, hk0⟩ := g_get (I := I) (J := J) (R := R) ha.1
  have hk := hk0
  rw [g_F_int ha.2 (Or.inr (Or.inr rfl))] at hk
  refine va_zast hx hb hS.1 hP (g_apart hnd _) hA n 3 hk rfl hi h (fun H1 lo1 hP1 hD1 hS1 => ?_)
  have hw : (g_W g I J R).set n (a, .inl (g_cy g 15, g_n g a, .inl (upd (I a) i.toNatClampNeg (vp_nar .boolean x)))) = g_W g (pp I a i.toNatClampNeg (vp_nar .boolean x)) J R :=
    g_set hnd ha.1 hk0 (by rw [g_F_int ha.2 (Or.inr (Or.inr rfl)), pp_rowI]) (fun b hb => g_F_off (pp_off _ _ hb) rfl rfl)
  have hP2 : va_P (g_D g) vwCl (g_W g (pp I a i.toNatClampNeg (vp_nar .boolean x)) J R) H1 := hw ▸ hP1
  exact kk p e s m as b mt c H1 lo1 la ⟨hx, hb, hl, hml, hr, hlk, hown, hts, hS, ⟨hnd, hP2⟩, hS1⟩
theorem WP_last {a : Nat} {i : Int32} {x : Int64} (h : decode (md_c d) pc = .ok (.lastore, 1)) (ha : g_is g a 14) (hi : vp_in i (g_n g a)) (kk : WP g d (pc + 1) ls st I (pp J a i.toNatClampNeg x) R Q) : WP g d pc ls (.long x :: .int i :: .ref a :: st) I J R Q := by
  intro p e s m as b mt c H lo la C
  obtain ⟨hx, hb, hl, hml, hr, hlk, hown, hts, hS, ⟨hnd, hP⟩, hA⟩ := C
  obtain ⟨n, hk0⟩ := g_get (I := I) (J := J) (R := R) ha.1
  have hk := hk0
  rw [g_F_long ha.2] at hk
  refine va_last hx hb hS.1 hP (g_apart hnd _) hA n 2 hk rfl hi h (fun H1 lo1 hP1 hD1 hS1 => ?_)
  have hw : (g_W g I J R).set n (a, .inl (g_cy g 14, g_n g a, .inr (.inl (vp_updL (J a) i.toNatClampNeg x)))) = g_W g I (pp J a i.toNatClampNeg x) R :=
    g_set hnd ha.1 hk0 (by rw [g_F_long ha.2, pp_rowJ]) (fun b hb => g_F_off rfl (pp_off _ _ hb) rfl)
  have hP2 : va_P (g_D g) vwCl (g_W g I (pp J a i.toNatClampNeg x) R) H1 := hw ▸ hP1
  exact kk p e s m as b mt c H1 lo1 la ⟨hx, hb, hl, hml, hr, hlk, hown, hts, hS, ⟨hnd, hP2⟩, hS1⟩
theorem WP_alen {a k : Nat} (h : decode (md_c d) pc = .ok (.arraylength, 1)) (ha : g_is g a k) (hk12 : k = 12 ∨ k = 13 ∨ k = 14 ∨ k = 15) (kk : WP g d (pc + 1) ls (.int (nI (g_n g a)) :: st) I J R Q) : WP g d pc ls (.ref a :: st) I J R Q := by
  intro p e s m as b mt c H lo la C
  obtain ⟨n, hk⟩ := g_get (I := I) (J := J) (R := R) ha.1
  rcases hk12 with rfl | rfl | rfl | rfl
  · rw [g_F_int ha.2 (Or.inl rfl)] at hk
    exact va_alen C.1 C.2.1 C.2.2.2.2.2.2.2.2.1.1 C.2.2.2.2.2.2.2.2.2.1.2 n 0 hk rfl rfl h (kk p e s m as b mt c H lo la C)
  · rw [g_F_int ha.2 (Or.inr (Or.inl rfl))] at hk
    exact va_alen C.1 C.2.1 C.2.2.2.2.2.2.2.2.1.1 C.2.2.2.2.2.2.2.2.2.1.2 n 1 hk rfl rfl h (kk p e s m as b mt c H lo la C)
  · rw [g_F_long ha.2] at hk
    exact va_alen C.1 C.2.1 C.2.2.2.2.2.2.2.2.1.1 C.2.2.2.2.2.2.2.2.2.1.2 n 2 hk rfl rfl h (kk p e s m as b mt c H lo la C)
  · rw [g_F_int ha.2 (Or.inr (Or.inr rfl))] at hk
    exact va_alen C.1 C.2.1 C.2.2.2.2.2.2.2.2.1.1 C.2.2.2.2.2.2.2.2.2.1.2 n 3 hk rfl rfl h (kk p e s m as b mt c H lo la C)
theorem WP_iret {v : Int32} (h : decode (md_c d) pc = .ok (.ireturn, 1)) (hr : md_r d = some .int) (hq : Q (some (.int v)) I J R) : WP g d pc ls [.int v] I J R Q := by
  intro p e s m as b mt c H lo la ⟨hx, hb, hl, hml, hre, hlk, hown, hts, hS, hP, hA⟩
  exact W.iret hx hb (hre.trans hr) (fun t ht hW => ⟨⟨_, I, J, R, rfl, hq, by rw [ht]; exact hP⟩, hA.F ht⟩) hA.2.2 h hlk
theorem WP_zret {v : Int32} {ty : FieldType} (h : decode (md_c d) pc = .ok (.ireturn, 1)) (hr : md_r d = some ty) (hn : narrow ty (.int v) = .int v) (hq : Q (some (.int v)) I J R) : WP g d pc ls [.int v] I J R Q := by
  intro p e s m as b mt c H lo la ⟨hx, hb, hl, hml, hre, hlk, hown, hts, hS, hP, hA⟩
  exact W.zret hx hb (hre.trans hr) hn (fun t ht hW => ⟨⟨_, I, J, R, rfl, hq, by rw [ht]; exact hP⟩, hA.F ht⟩) hA.2.2 h hlk
theorem WP_lret {v : Int64} (h : decode (md_c d) pc = .ok (.lreturn, 1)) (hr : md_r d = some .long) (hq : Q (some (.long v)) I J R) : WP g d pc ls [.long v] I J R Q := by
  intro p e s m as b mt c H lo la ⟨hx, hb, hl, hml, hre, hlk, hown, hts, hS, hP, hA⟩
  exact W.lret hx hb (hre.trans hr) (fun t ht hW => ⟨⟨_, I, J, R, rfl, hq, by rw [ht]; exact hP⟩, hA.F ht⟩) hA.2.2 h hlk
theorem WP_vret (h : decode (md_c d) pc = .ok (.return_, 1)) (hr : md_r d = none) (hq : Q none I J R) : WP g d pc ls [] I J R Q := by
  intro p e s m as b mt c H lo la ⟨hx, hb, hl, hml, hre, hlk, hown, hts, hS, hP, hA⟩
  exact W.vret hx hb (hre.trans hr) (fun t ht hW => ⟨⟨_, I, J, R, rfl, hq, by rw [ht]; exact hP⟩, hA.F ht⟩) hA.2.2 h hlk
end Rules
