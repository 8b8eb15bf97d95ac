theorem n_pushP {B : GB} {kc : Nat} {I : pI} {J : pJ} {R : pR} {E0 : va_E} {H H1 : Heap} (hP : g_P (gk B kc) I J R H) (he : g_F (gk B (kc + 1)) I J R (b_b B + kc) = E0) (hk : ∀ q, q < H.size → H1[q]? = H[q]?) (hat : va_at (g_D (gk B kc)) vwCl (b_b B + kc, E0) H1) : g_P (gk B (kc + 1)) I J R H1 := by
  refine ⟨List.nodup_range' 1, ?_⟩
  have hL : g_W (gk B (kc + 1)) I J R = g_W (gk B kc) I J R ++ [(b_b B + kc, E0)] := by
    show va_pl (List.range' (b_b B) (kc + 1)) _ = va_pl (List.range' (b_b B) kc) _ ++ _
    rw [List.range'_concat]
    simp only [va_pl, List.map_append, List.map_cons, List.map_nil, Nat.one_mul]
    rw [he]
    rfl
  rw [hL]
  refine va_P.app (hP.2.kept fun k x hx => hk x.1 ((hP.2 k x hx).lt)) (fun k x hx => ?_)
  have hz : k < 1 := (List.getElem?_eq_some_iff.mp hx).1
  rw [show k = 0 by omega] at hx
  cases hx
  exact hat
def csJ (idx : Nat) (y : MD) : Prop := ((md_f y + 1 ≤ room_1.frames ∧ 8 + (md_n y + 11) + md_q y ≤ room_1.locals) ∧ csZ y 0) ∧ Cond.methodLink R_law idx (md_y y) ∈ wsL_law ∧ (md_y y).name = "<init>" ∧ Cond.instanceMethod (md_y y) ∈ wsL_law ∧ md_r y = none
abbrev I00 : pI := fun _ _ => 0
abbrev J00 : pJ := fun _ _ => 0
abbrev R00 : pR := fun _ _ => none
theorem n_born0 {a kd : Nat} {B : GB} {T : State} {as : Array Value} {H1 : Heap} {kC : Class} (hk : kd < 12) (hts : ∀ w ∈ wsL_law, w.before as T = true) (hS : g_S (gk B 0) T) (hkC : T.vm.classes[(g_D (gk B 0)).1 kd]? = some kC) (e1 : H1[a]? = some (blank ((g_D (gk B 0)).1 kd) kC)) : va_at (g_D (gk B 0)) vwCl (a, .inr (kd, pw_fs kd I00 J00 R00 a)) H1 := by
  refine ⟨_, pw_cl kd hk, (u_born (pw_ty kd) hts (fun w hw => pw_in kd hk w hw) (hS.1.1 kd _ (pw_cl kd hk)) hkC e1 (pw_tyok kd hk)).to (fun j hj => ?_)⟩
  show defaultValue (pw_ty kd j) = vp_V (pw_fs kd I00 J00 R00 a) j
  unfold vp_V
  rw [List.getD_eq_getElem?_getD, pw_fs_get hj]
  exact okTy_v (okTy_all kd hk j hj)
theorem l_make {p : Program} {e : Env} {s : State} {m : MethodId} {args : Array Value} {below : List Frame} {meth : Method} {c : Code} {H : Heap} {locs : List Loc} {cs ss : Nat} {Qs : State → Prop} {la : Array Slot} {pc : Nat} {B : GB} {y : MD} {kd idx1 idx2 : Nat} {zz : N3} {Q0 : pI → pJ → pR → Prop} (hx : p.tables.exec = Jvm.exec) (hb : c.code = code) (hml : c.maxLocals = 4) (hla : la.size = 4) (hown : s.vm.findClass R_law = some m.cls) (ht : ∀ w ∈ wsL_law, w.before args s = true) (hS : g_S (gk B 0) s) (hAO : va_AO RX4 s) (hs0 : s.heap.size + cs = b_b B) (hz : H.size = b_b B) (hk0 : ∀ a, a < s.heap.size → H[a]? = s.heap[a]?)
    (d1 : decode code pc = .ok (.new idx1, 3)) (d2 : decode code (pc + 3) = .ok (.dup, 1)) (d3 : decode code (pc + 4) = .ok (.invokespecial idx2, 3)) (hn : nc_ok R_law idx1 kd) (hkd : (b_k B)[0]? = some kd) (cs0 : csJ idx2 y) (hy1 : zz.1 = zz.2.1 + 1) (hsn : SN B y 1 zz [.ref (b_b B + 0)] I00 J00 R00 Q0) (hroom : cs + 1 + zz.2.1 ≤ room_1.cells ∧ ss + pw_N kd + zz.2.2 ≤ room_1.slots)
    (kk : ∀ (H2 : Heap) (L2 : List Loc) (I : pI) (J : pJ) (R : pR), H2.size = b_b B + zz.1 → g_P (gk B zz.1) I J R H2 → Q0 I J R → (∀ q, q < b_b B → H2[q]? = H[q]?) → (∀ q ∈ L2, b_b B ≤ q.base) → W p B.1 e room_1 s m args below meth c H2 (locs ++ L2) (cs + 1 + zz.2.1) (ss + pw_N kd + zz.2.2) Qs (F0 m (pc + 7) la [.ref (b_b B + 0)])) : W p B.1 e room_1 s m args below meth c H locs cs ss Qs (F0 m pc la []) := by
  obtain ⟨k1, c1, s1⟩ := zz
  obtain rfl : k1 = c1 + 1 := hy1
  have hr1 : cs + 1 + c1 ≤ room_1.cells := hroom.1
  have hr2 : ss + pw_N kd + s1 ≤ room_1.slots := hroom.2
  refine W.newcK (own := R_law) (C := pw_C kd) hx hb hown (ht _ hn.2.1) (ht _ hn.2.2.1) (ht _ hn.2.2.2) rfl d1 (by omega) (by omega) (hS.1.1 kd _ (pw_cl kd hn.1)).2.1 hz (fun H1 kC hkC e1 z1 o1 => ?_)
  have hKn : g_K (gk B 1) (b_b B + 0) = kd := (gk_is (B := B) (k := 1) kd (by omega) hkd).2
  have hP0 : g_P (gk B 0) I00 J00 R00 H := ⟨List.nodup_range' 1, fun k x hx => by cases hx⟩
  have hP1 : g_P (gk B 1) I00 J00 R00 H1 := n_pushP hP0 (g_F_obj hKn hn.1) (fun q hq => o1 q (by rw [← hz]; exact hq)) (n_born0 hn.1 ht hS hkC e1)
  show W p B.1 e room_1 s m args below meth c H1 locs (cs + 1) (ss + pw_N kd) Qs (F0 m (pc + 3) la [.ref (b_b B + 0)])
  refine lv_dup hx hb d2 rfl ?_
  obtain ⟨⟨cr, cd, cc, ci⟩, cl, cn, cin, cret⟩ := cs0
  have cb : CallB room_1 s args R_law idx2 (md_y y) (md_c y) (md_n y) (md_r y) (md_w y) (nd_rm y c1 s1) c1 s1 0 := callB_of 0 ht (md_goodL cc) rfl rfl rfl (ht _ ci) (ht _ cl) cd cr
  rw [cret] at cb
  have hrun := va_runI (b := b_b B + 0) (As := []) (rest := [.ref (b_b B + 0)]) (g := F0 m (pc + 4) la [.ref (b_b B + 0), .ref (b_b B + 0)]) (below := below) (e := e) (locs := locs) (cells := cs + 1) (slots := ss + pw_N kd) (meth := meth) (H := H1) ⟨hx, hb, hml, hown, ht⟩ hsn ⟨cb, cn, ht _ cin⟩
    ⟨n_blind, fun U hU hW => ⟨rfl, by rw [hU]; exact hP1, fun a _ => ⟨fun _ => rfl, fun _ => rfl, fun _ => rfl⟩, by rw [hU]; exact z1, g_S.any (hS.warm hW (fun a h1 h2 => by rw [hU, o1 a h2]; exact hk0 a h1)), va_AO.moved hW.alike hAO⟩⟩ rfl rfl hla rfl (lv_room (Nat.le_of_ble_eq_true rfl)) d3 ⟨hr1, hr2⟩
  intro T hT X
  obtain ⟨v, st₀, t, T', L, h0, X', hL, e2, e3, ⟨⟨I', J', R', hv, hq0, hP2⟩, hz1, hk1⟩, stp⟩ := hrun T hT X
  cases hv
  rw [h0] at hz1 hk1
  have hsz : T'.heap.size = b_b B + (c1 + 1) := n_size X' (by rw [e2]; exact hP2) (by show s.heap.size + (cs + 1 + c1) = b_b B + (c1 + 1); omega)
  obtain ⟨t2, a1, b1⟩ := kk T'.heap L I' J' R' hsz (by rw [e2]; exact hP2) hq0 (fun q hq => by
    rw [e2, hk1 q (by rw [z1]; omega) (fun h => by have h9 : b_b B ≤ q := h; omega), o1 q hq]) (fun q hq => hL q hq) T' rfl X'
  exact ⟨t2, stp t2 a1, b1⟩
theorem gS_M0 {Z : LB} {k k2 : Nat} {s : State} (h : g_S (gk (zX Z) k) s) : g_S (gk (zM Z) k2) s := ⟨h.1, h.2.1, fun a ha => gk_ge (B := zM Z) ha, h.2.2.2.1, zc_M⟩
theorem pw_inst : ∀ k, k < 12 → Cond.instantiable (pw_C k) (pw_N k) ∈ wsL_law := pw_12 (in_r1 _ (List.mem_of_getElem? (i := 21) rfl)) (in_r2 _ (List.mem_of_getElem? (i := 23) rfl)) (in_r2 _ (List.mem_of_getElem? (i := 5) rfl)) (in_r1 _ (List.mem_of_getElem? (i := 17) rfl)) (in_r2 _ (List.mem_of_getElem? (i := 13) rfl)) (in_r1 _ (List.mem_of_getElem? (i := 13) rfl)) (in_r5 _ (List.mem_of_getElem? (i := 18) rfl)) (in_r2 _ (List.mem_of_getElem? (i := 0) rfl)) (in_r2 _ (List.mem_of_getElem? (i := 19) rfl)) (in_r2 _ (List.mem_of_getElem? (i := 9) rfl)) (in_r1 _ (List.mem_of_getElem? (i := 1) rfl)) (in_r1 _ (List.mem_of_getElem? (i := 4) rfl))
theorem l_arr {s : State} {args : Array Value} {ty : FieldType} (h : (Cond.arrayClass ty).before args s = true) : ∃ cA, ArrOfT s cA ty ∧ s.vm.findClass ("[" ++ ty.toString) = some cA := by
  obtain ⟨c, k, comp, h1, h2, h3⟩ := Cond.arrayClass_spec h
  exact ⟨c, fun n z => ⟨fun k h => (by cases h), k, h2, comp, h3⟩, h1⟩
theorem l_known {s : State} {args : Array Value} (ht : ∀ w ∈ wsL_law, w.before args s = true) (hAO : va_AO RX4 s) : ∃ (D : va_G) (cy : Nat → ClassId), va_K D vwCl [(cy 12, .byte), (cy 13, .int), (cy 14, .long), (cy 15, .boolean), (cy 16, .object RX4)] s := by
  have h : ∀ k, ∃ q : ClassId × (Nat → Nat), k < 12 → u_Kn s (pw_C k) (pw_T k) (pw_N k) q.1 q.2 := fun k => by
    by_cases hk : k < 12
    · obtain ⟨a, b, hab⟩ := u_known (C := pw_C k) (T := pw_T k) (N := pw_N k) (n := pw_N k) ht (pw_in k hk) (ht _ (pw_inst k hk))
      exact ⟨(a, b), fun _ => hab⟩
    · exact ⟨(0, fun _ => 0), fun h => absurd h hk⟩
  obtain ⟨c12, a12, f12⟩ := l_arr (ht _ nw_byte.1)
  obtain ⟨c13, a13, f13⟩ := l_arr (ht _ nw_int.1)
  obtain ⟨c14, a14, f14⟩ := l_arr (ht _ nw_long.1)
  obtain ⟨c15, a15, f15⟩ := l_arr (ht _ nw_boolean.1)
  obtain ⟨comp, c16, k16, g1, -, g3, g4, g5⟩ := Cond.arrayOver_spec hAO
  refine ⟨(fun k => (Classical.choose (h k)).1, fun k => (Classical.choose (h k)).2), fun k => if k = 12 then c12 else if k = 13 then c13 else if k = 14 then c14 else if k = 15 then c15 else c16, fun k q hq => ?_, fun k q hq => ?_⟩
  · have hk : k < 12 := (List.getElem?_eq_some_iff.mp hq).1
    obtain rfl : (pw_C k, pw_T k, pw_N k) = q := Option.some.inj ((pw_cl k hk).symm.trans hq)
    exact Classical.choose_spec (h k) hk
  · have hk : k < 5 := (List.getElem?_eq_some_iff.mp hq).1
    rcases (show k = 0 ∨ k = 1 ∨ k = 2 ∨ k = 3 ∨ k = 4 by omega) with rfl | rfl | rfl | rfl | rfl
    · obtain rfl := Option.some.inj hq; exact ⟨a12, f12⟩
    · obtain rfl := Option.some.inj hq; exact ⟨a13, f13⟩
    · obtain rfl := Option.some.inj hq; exact ⟨a14, f14⟩
    · obtain rfl := Option.some.inj hq; exact ⟨a15, f15⟩
    · obtain rfl := Option.some.inj hq; exact ⟨fun n z => ⟨fun k h => (by cases h), k16, g3, comp, g4⟩, k16, comp, g3, g4, g1, g5⟩
theorem ncL_7 : nc_ok R_law 7 10 := ⟨by decide, in_r1 _ (List.mem_of_getElem? (i := 0) rfl), in_r1 _ (List.mem_of_getElem? (i := 1) rfl), in_r1 _ (List.mem_of_getElem? (i := 2) rfl)⟩
theorem ncL_10 : nc_ok R_law 10 11 := ⟨by decide, in_r1 _ (List.mem_of_getElem? (i := 3) rfl), in_r1 _ (List.mem_of_getElem? (i := 4) rfl), in_r1 _ (List.mem_of_getElem? (i := 5) rfl)⟩
theorem csL_9 : csJ 9 mX10_init := ⟨⟨⟨by decide, by decide⟩, zX10_init⟩, in_r1 _ (List.mem_of_getElem? (i := 6) rfl), rfl, iX10_init, rfl⟩
theorem csL_12 : csJ 12 mX11_init := ⟨⟨⟨by decide, by decide⟩, zX11_init⟩, in_r9 _ (List.mem_of_getElem? (i := 17) rfl), rfl, iX11_init, rfl⟩
set_option maxHeartbeats 8000000 in
set_option maxRecDepth 100000 in
theorem whole_startW {p : Program} {e : Env} {s : State} {m : MethodId} {below : List Frame} {meth : Method} {c : Code} (l : Launch) {b L : Nat} {xs : Nat → Int32} (hL : L ≤ 4096) (C0 : lw_At p s m meth c b L xs) (ht : ∀ w ∈ wsL_law, w.before #[Value.ref b] s = true) (hAO : va_AO RX4 s) (hN : ∀ w ∈ nestW, va_Nw w s) (hst : ∃ (aK aV : Nat → Nat) (fo : Option Nat), STR aK aV fo (fun q => s.heap.size ≤ q) s) : W p l e room_1 s m #[Value.ref b] below meth c s.heap [] 0 0 (lw_Z below #[Value.ref b] s) (entryFrame m ([Value.ref b] : List Value).toArray 4) := by
  obtain ⟨hx, hb, hr, hml, hown, hts, hX, hbl, hlocks, hgv⟩ := id C0
  obtain ⟨D, cy, hK⟩ := l_known ht hAO
  obtain ⟨aK, aV, fo, hSt⟩ := hst
  let Z : LB := (l, D, cy, s.heap.size, b, L, xs, aK, aV, fo)
  have hS : g_S (gk (zX Z) 0) s := ⟨hK, hN, fun a ha => gk_ge (B := zX Z) ha, hSt, STR_zc⟩
  have hl := lv_entry ([.ref b]) (n := 4) (Nat.le_of_ble_eq_true rfl)
  rw [lg_entry_eq]
  generalize (lg_sl ([.ref b]) ++ List.replicate (4 - (lg_sl ([.ref b])).length) Slot.unset).toArray = la at hl ⊢
  have hl : lv_has la 4 [(0, .ref b)] := hl
  refine l_make (B := zX Z) (y := mX10_init) (kd := 10) (zz := (74, 73, 3188)) hx hb hml hl.1 hown ht hS hAO (by show s.heap.size + 0 = s.heap.size; omega) rfl (fun a _ => rfl) dL_law_0 dL_law_3 dL_law_4 ncL_7 rfl csL_9 rfl (n_X10b ⟨rfl, rfl⟩) (by decide) (fun H2 L2 IX JX RX z2 hPX hQX o2 hL2 => ?_)
  refine lv_astore_n hx hb dL_law_7 rfl hl (by decide) rfl (fun la2 hl2 => ?_)
  have hl2 : lv_has la2 4 [(0, .ref b), (1, .ref (z_h Z + 0))] := sl1_has hl2
  refine l_make (B := zM Z) (y := mX11_init) (kd := 11) (zz := (49, 48, 24519)) hx hb hml hl2.1 hown ht (gS_M0 hS) hAO (by show s.heap.size + (0 + 1 + 73) = s.heap.size + 74; omega) z2 (fun a h1 => o2 a h1) dL_law_8 dL_law_11 dL_law_12 ncL_10 rfl csL_12 rfl (n_X11b ⟨rfl, rfl⟩) (by decide) (fun H3 L3 IM JM RM z3 hPM hQM o3 hL3 => ?_)
  refine lv_astore_n hx hb dL_law_15 rfl hl2 (by decide) rfl (fun la3 hl3 => ?_)
  have hl3 : lv_has la3 4 [(0, .ref b), (1, .ref (z_h Z + 0)), (2, .ref (z_h Z + 74 + 0))] := sl1_has hl3
  refine lv_iconst (v := 0) hx hb dL_law_16 rfl ?_
  refine lv_istore_n hx hb dL_law_17 rfl hl3 (by decide) rfl (fun la4 hl4 => ?_)
  have hl4 : lv_has la4 4 [(0, .ref b), (1, .ref (z_h Z + 0)), (2, .ref (z_h Z + 74 + 0)), (3, .int (0))] := sl1_has hl4
  have hPX3 : g_P (gX Z) IX JX RX H3 := by
    refine ⟨hPX.1, hPX.2.kept fun k q hq => ?_⟩
    have h1 : q.1 ∈ g_L (gX Z) := (g_apart hPX.1 _).2 k q hq
    exact o3 q.1 (gk_lt h1)
  have z2' : H2.size = s.heap.size + 74 := z2
  have z3' : H3.size = s.heap.size + 74 + 49 := z3
  exact L_loop (Z := Z) hL 4098 0 ((IX, JX, RX), (IM, JM, RM)) 0 0 (by decide) (by decide) (by decide) (by decide) ⟨⟨hQX.1, hQX.2.1, hQX.2.2.1⟩, hQX.2.2.2.1, hQM.1, hQM.2.1, REL_0 hQX.2.2.2.2 hQM.2.2⟩ (by decide) p e s m _ below meth c H3 _ la4 ⟨hx, hb, hl4, hml, hr, hlocks, hown, ht, g_S.any hS, hX, ⟨hbl, rfl⟩, rfl, hPX3, hPM, ⟨by omega, fun q h1 h2 => by
    rw [o3 q (by show q < s.heap.size + 74; omega), o2 q h1], fun q hq => by
      show s.heap.size ≤ q.base
      rcases List.mem_append.mp hq with h | h
      · rcases List.mem_append.mp h with h | h
        · cases h
        · exact hL2 q h
      · have h9 : s.heap.size + 74 ≤ q.base := hL3 q h
        omega⟩⟩
