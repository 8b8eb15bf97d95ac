/-! TWO MONEYS: what follows, as the document tells it -/
def dec (r : Nat) (z : Int) (a : Nat) : Nat := if 0 < a ∧ z % (r : Int) = 0 then a - 1 else a
def noteV (p : Int) (r : Nat) (z : Int) (f : Nat → Nat → Int) (a c : Nat) : Int := if a = 0 then -1 else (p * (1000 + f (dec r z (a - 1)) c) + (100 - p) * f (dec r z a) c) / 100
def coinV (q : Int) (r : Nat) (z : Int) (f : Nat → Nat → Int) (a c : Nat) : Int := if c = 0 then -1 else (q * (1000 + f (dec r z a) (c - 1)) + (100 - q) * f (dec r z a) c) / 100
def mostV (p q : Int) (r : Nat) (z : Int) (f : Nat → Nat → Int) (a c : Nat) : Int := max 0 (max (noteV p r z f a c) (coinV q r z f a c))
def VV (p q : Int) (r : Nat) : Nat → Nat → Nat → Int
  | 0 => fun _ _ => 0
  | n + 1 => mostV p q r ((n : Int) + 1) (VV p q r n)
theorem dec_le (r : Nat) (z : Int) (a : Nat) : dec r z a ≤ a := by unfold dec; split <;> omega
theorem mulb {p x M : Int} (h1 : 0 ≤ p ∧ p ≤ 100) (h2 : 0 ≤ x ∧ x ≤ M) : 0 ≤ p * x ∧ p * x ≤ 100 * M := by
  refine ⟨Int.mul_nonneg h1.1 h2.1, ?_⟩
  have a1 : p * x ≤ 100 * x := Int.mul_le_mul_of_nonneg_right h1.2 h2.1
  omega
theorem mixb {p x s M : Int} (h1 : 0 ≤ p ∧ p ≤ 100) (h2 : 0 ≤ x ∧ x ≤ M) (h3 : 0 ≤ s ∧ s ≤ M) : 0 ≤ (p * (1000 + x) + (100 - p) * s) / 100 ∧ (p * (1000 + x) + (100 - p) * s) / 100 ≤ M + 1000 := by
  have a1 := mulb h1 (show 0 ≤ 1000 + x ∧ 1000 + x ≤ 1000 + M by omega)
  have a2 := mulb (show 0 ≤ 100 - p ∧ 100 - p ≤ 100 by omega) h3
  have a3 : p * (1000 + x) ≤ p * (1000 + M) := Int.mul_le_mul_of_nonneg_left (by omega) h1.1
  have a4 : (100 - p) * s ≤ (100 - p) * (1000 + M) := Int.mul_le_mul_of_nonneg_left (by omega) (by omega)
  have a5 : p * (1000 + M) + (100 - p) * (1000 + M) = 100 * (1000 + M) := by rw [← Int.add_mul]; congr 1; omega
  omega
theorem mostb {p q : Int} {r : Nat} {z : Int} {f : Nat → Nat → Int} {M : Int} (hp : 0 ≤ p ∧ p ≤ 100) (hq : 0 ≤ q ∧ q ≤ 100) (hM : 0 ≤ M) (hf : ∀ a c, 0 ≤ f a c ∧ f a c ≤ M) (a c : Nat) : 0 ≤ mostV p q r z f a c ∧ mostV p q r z f a c ≤ M + 1000 := by
  unfold mostV
  have n1 : noteV p r z f a c ≤ M + 1000 := by
    unfold noteV; split
    · omega
    · exact (mixb hp (hf _ _) (hf _ _)).2
  have n2 : coinV q r z f a c ≤ M + 1000 := by
    unfold coinV; split
    · omega
    · exact (mixb hq (hf _ _) (hf _ _)).2
  omega
theorem VV_b {p q : Int} {r : Nat} (hp : 0 ≤ p ∧ p ≤ 100) (hq : 0 ≤ q ∧ q ≤ 100) : ∀ n a c, 0 ≤ VV p q r n a c ∧ VV p q r n a c ≤ 1000 * n
  | 0, _, _ => ⟨Int.le_refl 0, by show (0 : Int) ≤ _; omega⟩
  | n + 1, a, c => by
    have h := mostb (r := r) (f := VV p q r n) (z := (n : Int) + 1) hp hq (show 0 ≤ 1000 * (n : Int) by omega) (fun a c => VV_b hp hq n a c) a c
    show 0 ≤ mostV p q r ((n : Int) + 1) (VV p q r n) a c ∧ mostV p q r ((n : Int) + 1) (VV p q r n) a c ≤ _
    omega
theorem mixI {p x s : Int32} (h1 : 0 ≤ p.toInt ∧ p.toInt ≤ 100) (h2 : 0 ≤ x.toInt ∧ x.toInt ≤ 20000) (h3 : 0 ≤ s.toInt ∧ s.toInt ≤ 20000) : ((p * (1000 + x) + (100 - p) * s) / 100).toInt = (p.toInt * (1000 + x.toInt) + (100 - p.toInt) * s.toInt) / 100 := by
  have e1 : (1000 : Int32).toInt = 1000 := rfl
  have e2 : (100 : Int32).toInt = 100 := rfl
  have a1 := mulb h1 (show 0 ≤ 1000 + x.toInt ∧ 1000 + x.toInt ≤ 21000 by omega)
  have a2 := mulb (show 0 ≤ 100 - p.toInt ∧ 100 - p.toInt ≤ 100 by omega) h3
  have b1 : (1000 + x).toInt = 1000 + x.toInt := by rw [ia (by rw [e1]; omega) (by rw [e1]; omega), e1]
  have b2 : (100 - p).toInt = 100 - p.toInt := by rw [is' (by rw [e2]; omega) (by rw [e2]; omega), e2]
  have b3 : (p * (1000 + x)).toInt = p.toInt * (1000 + x.toInt) := by rw [im (by rw [b1]; omega) (by rw [b1]; omega), b1]
  have b4 : ((100 - p) * s).toInt = (100 - p.toInt) * s.toInt := by rw [im (by rw [b2]; omega) (by rw [b2]; omega), b2]
  have b5 : (p * (1000 + x) + (100 - p) * s).toInt = p.toInt * (1000 + x.toInt) + (100 - p.toInt) * s.toInt := by rw [ia (by rw [b3, b4]; omega) (by rw [b3, b4]; omega), b3, b4]
  rw [idv (by rw [b5]; omega) (by rw [e2]; omega), b5, e2]
theorem cl {x : Int32} {n : Nat} (h : x.toInt = (n : Int)) : x.toNatClampNeg = n := by
  have h2 : x.toNatClampNeg = x.toInt.toNat := rfl
  rw [h2, h]; omega
set_option maxHeartbeats 4000000 in
set_option maxRecDepth 100000 in
theorem l_follow30 {g : GG} {I : pI} {J : pJ} {R : pR} (hy : Ly g) (hr : Rf g R) (n a c r : Nat) (xn xa xc xr : Int32) (hn : xn.toInt = (n : Int) ∧ n ≤ 19) (ha : xa.toInt = (a : Int) ∧ a ≤ 9) (hc : xc.toInt = (c : Int) ∧ c ≤ 9) (hq : xr.toInt = (r : Int) ∧ 1 ≤ r ∧ r ≤ 20) (y : Int32) (hyv : y.toInt = (dec r ((n : Int) + 1) a : Int)) : WP g mX11_follow 30 [(0, .ref (ad g P_o)), (1, .int xn), (2, .int xa), (3, .int xc), (4, .int xr)] [.int y, .int 10, .int (100 * xn), .ref (ad g P_o_follows)] I J R (pq (.int (I (ad g P_o_follows) (100 * n + 10 * dec r ((n : Int) + 1) a + c))) I J R) := by
  have hd := dec_le r ((n : Int) + 1) a
  have e1 : (100 : Int32).toInt = 100 := rfl
  have e2 : (10 : Int32).toInt = 10 := rfl
  have b1 : ((100 : Int32) * xn).toInt = 100 * (n : Int) := by rw [im (by rw [e1, hn.1]; omega) (by rw [e1, hn.1]; omega), e1, hn.1]
  have b2 : ((10 : Int32) * y).toInt = 10 * (dec r ((n : Int) + 1) a : Int) := by rw [im (by rw [e2, hyv]; omega) (by rw [e2, hyv]; omega), e2, hyv]
  have b3 : ((100 : Int32) * xn + 10 * y).toInt = 100 * (n : Int) + 10 * (dec r ((n : Int) + 1) a : Int) := by rw [ia (by rw [b1, b2]; omega) (by rw [b1, b2]; omega), b1, b2]
  have b4 : ((100 : Int32) * xn + 10 * y + xc).toInt = 100 * (n : Int) + 10 * (dec r ((n : Int) + 1) a : Int) + c := by rw [ia (by rw [b3, hc.1]; omega) (by rw [b3, hc.1]; omega), b3, hc.1]
  refine WP_imul dX11_follow_30 ?_
  refine WP_iadd dX11_follow_31 ?_
  refine WP_iload_n dX11_follow_32 rfl ?_
  refine WP_iadd dX11_follow_33 ?_
  refine WP_iald dX11_follow_34 (ly_is hy _ _ rfl) (ly_in hy _ _ rfl (vin (by rw [b4]; omega) (by rw [b4]; omega))) ?_
  exact WP_iret dX11_follow_35 rfl ⟨(by rw [cl (n := 100 * n + 10 * dec r ((n : Int) + 1) a + c) (by rw [b4]; omega)]), rfl, rfl, rfl⟩
set_option maxHeartbeats 4000000 in
set_option maxRecDepth 100000 in
theorem s_follow {g : GG} {I : pI} {J : pJ} {R : pR} (hy : Ly g) (hr : Rf g R) (n a c r : Nat) (xn xa xc xr : Int32) (hn : xn.toInt = (n : Int) ∧ n ≤ 19) (ha : xa.toInt = (a : Int) ∧ a ≤ 9) (hc : xc.toInt = (c : Int) ∧ c ≤ 9) (hq : xr.toInt = (r : Int) ∧ 1 ≤ r ∧ r ≤ 20) : SP g mX11_follow [.ref (ad g P_o), .int xn, .int xa, .int xc, .int xr] I J R (pq (.int (I (ad g P_o_follows) (100 * n + 10 * dec r ((n : Int) + 1) a + c))) I J R) := by
  refine SP_of ⟨by decide, rfl⟩ (Nat.le_of_ble_eq_true rfl) ?_
  have c0 : True := trivial
  have en : (xn + 1).toInt = (n : Int) + 1 := by have e : (1 : Int32).toInt = 1 := rfl; rw [ia (by rw [hn.1, e]; omega) (by rw [hn.1, e]; omega), hn.1, e]
  have er : ((xn + 1) - (xn + 1) / xr * xr).toInt = ((n : Int) + 1) % (r : Int) := by rw [ir (by rw [en]; omega) (by rw [hq.1]; omega), en, hq.1]
  refine WP_aload_n dX11_follow_0 rfl ?_
  refine WP_getr dX11_follow_1 fX11_307 rfl (ly_is hy _ _ rfl) (rf hr 0 69 45 (by decide)) ?_
  refine WP_bipush (100) dX11_follow_4 rfl ?_
  refine WP_iload_n dX11_follow_6 rfl ?_
  refine WP_imul dX11_follow_7 ?_
  refine WP_bipush (10) dX11_follow_8 rfl ?_
  refine WP_iload_n dX11_follow_10 rfl ?_
  refine WP_if_le 29 dX11_follow_11 rfl (fun c11 => ?_) (fun c11 => ?_)
  · refine WP_iload_n dX11_follow_29 rfl ?_
    first | exact l_follow30 hy hr n a c r xn xa xc xr hn ha hc hq _ (by rw [le32, ha.1] at c11; simp only [Int32.reduceToInt] at c11; unfold dec; rw [if_neg (by omega), ha.1]) | exact l_follow30 hy hr n a c r xn xa xc xr hn ha hc hq _ (by rw [eq32, er] at c20; simp only [Int32.reduceToInt] at c20; unfold dec; rw [if_neg (by rintro ⟨_, h⟩; exact c20 h), ha.1]) | exact l_follow30 hy hr n a c r xn xa xc xr hn ha hc hq _ (by rw [eq32, er] at c20; simp only [Int32.reduceToInt] at c20; rw [le32, ha.1] at c11; simp only [Int32.reduceToInt] at c11; have e : (1 : Int32).toInt = 1 := rfl; unfold dec; rw [if_pos ⟨by omega, c20⟩, is' (by rw [ha.1, e]; omega) (by rw [ha.1, e]; omega), ha.1, e]; omega)
  · refine WP_iload_n dX11_follow_14 rfl ?_
    refine WP_iconst (1) dX11_follow_15 rfl ?_
    refine WP_iadd dX11_follow_16 ?_
    refine WP_iload dX11_follow_17 rfl ?_
    refine WP_irem dX11_follow_19 (by rw [eq32, hq.1]; simp only [Int32.reduceToInt]; omega) ?_
    refine WP_if_ne 29 dX11_follow_20 rfl (fun c20 => ?_) (fun c20 => ?_)
    · refine WP_iload_n dX11_follow_29 rfl ?_
      first | exact l_follow30 hy hr n a c r xn xa xc xr hn ha hc hq _ (by rw [le32, ha.1] at c11; simp only [Int32.reduceToInt] at c11; unfold dec; rw [if_neg (by omega), ha.1]) | exact l_follow30 hy hr n a c r xn xa xc xr hn ha hc hq _ (by rw [eq32, er] at c20; simp only [Int32.reduceToInt] at c20; unfold dec; rw [if_neg (by rintro ⟨_, h⟩; exact c20 h), ha.1]) | exact l_follow30 hy hr n a c r xn xa xc xr hn ha hc hq _ (by rw [eq32, er] at c20; simp only [Int32.reduceToInt] at c20; rw [le32, ha.1] at c11; simp only [Int32.reduceToInt] at c11; have e : (1 : Int32).toInt = 1 := rfl; unfold dec; rw [if_pos ⟨by omega, c20⟩, is' (by rw [ha.1, e]; omega) (by rw [ha.1, e]; omega), ha.1, e]; omega)
    · refine WP_iload_n dX11_follow_23 rfl ?_
      refine WP_iconst (1) dX11_follow_24 rfl ?_
      refine WP_isub dX11_follow_25 ?_
      refine WP_goto 30 dX11_follow_26 rfl ?_
      first | exact l_follow30 hy hr n a c r xn xa xc xr hn ha hc hq _ (by rw [le32, ha.1] at c11; simp only [Int32.reduceToInt] at c11; unfold dec; rw [if_neg (by omega), ha.1]) | exact l_follow30 hy hr n a c r xn xa xc xr hn ha hc hq _ (by rw [eq32, er] at c20; simp only [Int32.reduceToInt] at c20; unfold dec; rw [if_neg (by rintro ⟨_, h⟩; exact c20 h), ha.1]) | exact l_follow30 hy hr n a c r xn xa xc xr hn ha hc hq _ (by rw [eq32, er] at c20; simp only [Int32.reduceToInt] at c20; rw [le32, ha.1] at c11; simp only [Int32.reduceToInt] at c11; have e : (1 : Int32).toInt = 1 := rfl; unfold dec; rw [if_pos ⟨by omega, c20⟩, is' (by rw [ha.1, e]; omega) (by rw [ha.1, e]; omega), ha.1, e]; omega)
set_option maxHeartbeats 4000000 in
set_option maxRecDepth 100000 in
theorem l_off95 {g : GG} {I : pI} {J : pJ} {R : pR} (hy : Ly g) (hr : Rf g R) (n a c r : Nat) (f : Nat → Nat → Int) (xn xa xc xp xq xr : Int32) (hn : xn.toInt = (n : Int) + 1 ∧ n ≤ 19) (ha : xa.toInt = (a : Int) ∧ a ≤ 9) (hc : xc.toInt = (c : Int) ∧ c ≤ 9) (hp : 0 ≤ xp.toInt ∧ xp.toInt ≤ 100) (hqq : 0 ≤ xq.toInt ∧ xq.toInt ≤ 100) (hq : xr.toInt = (r : Int) ∧ 1 ≤ r ∧ r ≤ 20) (hrow : ∀ a c, a ≤ 9 → c ≤ 9 → (I (ad g P_o_follows) (100 * n + 10 * a + c)).toInt = f a c ∧ 0 ≤ f a c ∧ f a c ≤ 20000) (nt ct : Int32) (hnt : nt.toInt = noteV xp.toInt r ((n : Int) + 1) f a c) (hct : ct.toInt = coinV xq.toInt r ((n : Int) + 1) f a c) : WP g mX11_offer 95 [(0, .ref (ad g P_o)), (1, .int xn), (2, .int xa), (3, .int xc), (4, .int xp), (5, .int xq), (6, .int xr), (7, .int (I (ad g P_o_follows) (100 * n + 10 * dec r ((n : Int) + 1) a + c))), (8, .int nt)] [.int ct] I J R (fun r0 I' J' R' => ∃ x : Int32, r0 = some (.int x) ∧ x.toInt = mostV xp.toInt xq.toInt r ((n : Int) + 1) f a c ∧ I' = pp I (ad g P_o) 70 (if coinV xq.toInt r ((n : Int) + 1) f a c ≤ noteV xp.toInt r ((n : Int) + 1) f a c then 1 else 0) ∧ J' = J ∧ R' = R) := by
  refine WP_istore (ls' := [(0, _), (1, _), (2, _), (3, _), (4, _), (5, _), (6, _), (7, _), (8, _), (9, _)]) dX11_offer_95 (by decide) rfl ?_
  refine WP_aload_n dX11_offer_97 rfl ?_
  refine WP_iload dX11_offer_98 rfl ?_
  refine WP_iload dX11_offer_100 rfl ?_
  refine WP_icmp_lt 109 dX11_offer_102 rfl (fun c102 => ?_) (fun c102 => ?_)
  · refine WP_iconst (0) dX11_offer_109 rfl ?_
    refine WP_putz dX11_offer_110 fX11_512 rfl rfl (by decide) (ly_is hy _ _ rfl) ?_
    refine WP_iconst (0) dX11_offer_113 rfl ?_
    refine WP_iload dX11_offer_114 rfl ?_
    refine WP_iload dX11_offer_116 rfl ?_
    refine WP_max dX11_offer_118 lX11_387 ⟨by decide, Nat.le_of_ble_eq_true rfl⟩ ?_
    refine WP_max dX11_offer_121 lX11_387 ⟨by decide, Nat.le_of_ble_eq_true rfl⟩ ?_
    exact WP_iret dX11_offer_124 rfl ⟨_, rfl, (by unfold mostV; rw [← hnt, ← hct]; have e : (0 : Int32).toInt = 0 := rfl; (repeat' split) <;> simp only [lt32, e] at * <;> omega), (by rw [← hnt, ← hct]; rw [lt32] at c102; first | rw [if_neg (by omega)] | rw [if_pos (by omega)]), rfl, rfl⟩
  · refine WP_iconst (1) dX11_offer_105 rfl ?_
    refine WP_goto 110 dX11_offer_106 rfl ?_
    refine WP_putz dX11_offer_110 fX11_512 rfl rfl (by decide) (ly_is hy _ _ rfl) ?_
    refine WP_iconst (0) dX11_offer_113 rfl ?_
    refine WP_iload dX11_offer_114 rfl ?_
    refine WP_iload dX11_offer_116 rfl ?_
    refine WP_max dX11_offer_118 lX11_387 ⟨by decide, Nat.le_of_ble_eq_true rfl⟩ ?_
    refine WP_max dX11_offer_121 lX11_387 ⟨by decide, Nat.le_of_ble_eq_true rfl⟩ ?_
    exact WP_iret dX11_offer_124 rfl ⟨_, rfl, (by unfold mostV; rw [← hnt, ← hct]; have e : (0 : Int32).toInt = 0 := rfl; (repeat' split) <;> simp only [lt32, e] at * <;> omega), (by rw [← hnt, ← hct]; rw [lt32] at c102; first | rw [if_neg (by omega)] | rw [if_pos (by omega)]), rfl, rfl⟩
set_option maxHeartbeats 4000000 in
set_option maxRecDepth 100000 in
theorem l_off53 {g : GG} {I : pI} {J : pJ} {R : pR} (hy : Ly g) (hr : Rf g R) (n a c r : Nat) (f : Nat → Nat → Int) (xn xa xc xp xq xr : Int32) (hn : xn.toInt = (n : Int) + 1 ∧ n ≤ 19) (ha : xa.toInt = (a : Int) ∧ a ≤ 9) (hc : xc.toInt = (c : Int) ∧ c ≤ 9) (hp : 0 ≤ xp.toInt ∧ xp.toInt ≤ 100) (hqq : 0 ≤ xq.toInt ∧ xq.toInt ≤ 100) (hq : xr.toInt = (r : Int) ∧ 1 ≤ r ∧ r ≤ 20) (hrow : ∀ a c, a ≤ 9 → c ≤ 9 → (I (ad g P_o_follows) (100 * n + 10 * a + c)).toInt = f a c ∧ 0 ≤ f a c ∧ f a c ≤ 20000) (nt : Int32) (hnt : nt.toInt = noteV xp.toInt r ((n : Int) + 1) f a c) : WP g mX11_offer 53 [(0, .ref (ad g P_o)), (1, .int xn), (2, .int xa), (3, .int xc), (4, .int xp), (5, .int xq), (6, .int xr), (7, .int (I (ad g P_o_follows) (100 * n + 10 * dec r ((n : Int) + 1) a + c)))] [.int nt] I J R (fun r0 I' J' R' => ∃ x : Int32, r0 = some (.int x) ∧ x.toInt = mostV xp.toInt xq.toInt r ((n : Int) + 1) f a c ∧ I' = pp I (ad g P_o) 70 (if coinV xq.toInt r ((n : Int) + 1) f a c ≤ noteV xp.toInt r ((n : Int) + 1) f a c then 1 else 0) ∧ J' = J ∧ R' = R) := by
  have e1 : (1 : Int32).toInt = 1 := rfl
  have en1 : (xn - 1).toInt = (n : Int) := by rw [is' (by rw [hn.1, e1]; omega) (by rw [hn.1, e1]; omega), hn.1, e1]; omega
  have hdl := dec_le r ((n : Int) + 1) a
  have h0 := hrow (dec r ((n : Int) + 1) a) c (by omega) hc.2
  refine WP_istore (ls' := [(0, _), (1, _), (2, _), (3, _), (4, _), (5, _), (6, _), (7, _), (8, _)]) dX11_offer_53 (by decide) rfl ?_
  refine WP_iload_n dX11_offer_55 rfl ?_
  refine WP_if_ne 63 dX11_offer_56 rfl (fun c56 => ?_) (fun c56 => ?_)
  · refine WP_iload dX11_offer_63 rfl ?_
    refine WP_sipush (1000) dX11_offer_65 rfl ?_
    refine WP_aload_n dX11_offer_68 rfl ?_
    refine WP_iload_n dX11_offer_69 rfl ?_
    refine WP_iconst (1) dX11_offer_70 rfl ?_
    refine WP_isub dX11_offer_71 ?_
    refine WP_iload_n dX11_offer_72 rfl ?_
    refine WP_iload_n dX11_offer_73 rfl ?_
    refine WP_iconst (1) dX11_offer_74 rfl ?_
    refine WP_isub dX11_offer_75 ?_
    refine WP_iload dX11_offer_76 rfl ?_
    refine WP_callV4p (k := 11) dX11_offer_78 ⟨⟨⟨by decide, by decide⟩, zX11_follow⟩, lX11_508, by decide, rfl, vX11_follow.1, vX11_follow.2⟩ (ly_is hy _ _ rfl) (s_follow hy hr n a (c - 1) r _ _ _ _ ⟨en1, hn.2⟩ ha ⟨(by rw [is' (by rw [hc.1, e1]; omega) (by rw [hc.1, e1]; omega), hc.1, e1]; rw [eq32, hc.1] at c56; simp only [Int32.reduceToInt] at c56; omega), (by omega)⟩ hq) (Nat.le_of_ble_eq_true rfl) ?_
    refine WP_iadd dX11_offer_81 ?_
    refine WP_imul dX11_offer_82 ?_
    refine WP_bipush (100) dX11_offer_83 rfl ?_
    refine WP_iload dX11_offer_85 rfl ?_
    refine WP_isub dX11_offer_87 ?_
    refine WP_iload dX11_offer_88 rfl ?_
    refine WP_imul dX11_offer_90 ?_
    refine WP_iadd dX11_offer_91 ?_
    refine WP_bipush (100) dX11_offer_92 rfl ?_
    refine WP_idiv dX11_offer_94 (by decide) ?_
    first | exact l_off95 hy hr n a c r f xn xa xc xp xq xr hn ha hc hp hqq hq hrow nt _ hnt (by rw [eq32, hc.1] at c56; simp only [Int32.reduceToInt] at c56; unfold coinV; rw [if_pos (by omega)]; rfl) | exact l_off95 hy hr n a c r f xn xa xc xp xq xr hn ha hc hp hqq hq hrow nt _ hnt (by rw [eq32, hc.1] at c56; simp only [Int32.reduceToInt] at c56; have h1 := hrow (dec r ((n : Int) + 1) a) (c - 1) (by omega) (by omega); rw [mixI hqq (by rw [h1.1]; exact h1.2) (by rw [h0.1]; exact h0.2), h1.1, h0.1]; unfold coinV; rw [if_neg (by omega)])
  · refine WP_iconst (-1) dX11_offer_59 rfl ?_
    refine WP_goto 95 dX11_offer_60 rfl ?_
    first | exact l_off95 hy hr n a c r f xn xa xc xp xq xr hn ha hc hp hqq hq hrow nt _ hnt (by rw [eq32, hc.1] at c56; simp only [Int32.reduceToInt] at c56; unfold coinV; rw [if_pos (by omega)]; rfl) | exact l_off95 hy hr n a c r f xn xa xc xp xq xr hn ha hc hp hqq hq hrow nt _ hnt (by rw [eq32, hc.1] at c56; simp only [Int32.reduceToInt] at c56; have h1 := hrow (dec r ((n : Int) + 1) a) (c - 1) (by omega) (by omega); rw [mixI hqq (by rw [h1.1]; exact h1.2) (by rw [h0.1]; exact h0.2), h1.1, h0.1]; unfold coinV; rw [if_neg (by omega)])
set_option maxHeartbeats 4000000 in
set_option maxRecDepth 100000 in
theorem s_offer {g : GG} {I : pI} {J : pJ} {R : pR} (hy : Ly g) (hr : Rf g R) (n a c r : Nat) (f : Nat → Nat → Int) (xn xa xc xp xq xr : Int32) (hn : xn.toInt = (n : Int) + 1 ∧ n ≤ 19) (ha : xa.toInt = (a : Int) ∧ a ≤ 9) (hc : xc.toInt = (c : Int) ∧ c ≤ 9) (hp : 0 ≤ xp.toInt ∧ xp.toInt ≤ 100) (hqq : 0 ≤ xq.toInt ∧ xq.toInt ≤ 100) (hq : xr.toInt = (r : Int) ∧ 1 ≤ r ∧ r ≤ 20) (hrow : ∀ a c, a ≤ 9 → c ≤ 9 → (I (ad g P_o_follows) (100 * n + 10 * a + c)).toInt = f a c ∧ 0 ≤ f a c ∧ f a c ≤ 20000) : SP g mX11_offer [.ref (ad g P_o), .int xn, .int xa, .int xc, .int xp, .int xq, .int xr] I J R (fun r0 I' J' R' => ∃ x : Int32, r0 = some (.int x) ∧ x.toInt = mostV xp.toInt xq.toInt r ((n : Int) + 1) f a c ∧ I' = pp I (ad g P_o) 70 (if coinV xq.toInt r ((n : Int) + 1) f a c ≤ noteV xp.toInt r ((n : Int) + 1) f a c then 1 else 0) ∧ J' = J ∧ R' = R) := by
  refine SP_of ⟨by decide, rfl⟩ (Nat.le_of_ble_eq_true rfl) ?_
  have c0 : True := trivial
  have e1 : (1 : Int32).toInt = 1 := rfl
  have en1 : (xn - 1).toInt = (n : Int) := by rw [is' (by rw [hn.1, e1]; omega) (by rw [hn.1, e1]; omega), hn.1, e1]; omega
  have hdl := dec_le r ((n : Int) + 1) a
  have h0 := hrow (dec r ((n : Int) + 1) a) c (by omega) hc.2
  refine WP_aload_n dX11_offer_0 rfl ?_
  refine WP_iload_n dX11_offer_1 rfl ?_
  refine WP_iconst (1) dX11_offer_2 rfl ?_
  refine WP_isub dX11_offer_3 ?_
  refine WP_iload_n dX11_offer_4 rfl ?_
  refine WP_iload_n dX11_offer_5 rfl ?_
  refine WP_iload dX11_offer_6 rfl ?_
  refine WP_callV4p (k := 11) dX11_offer_8 ⟨⟨⟨by decide, by decide⟩, zX11_follow⟩, lX11_508, by decide, rfl, vX11_follow.1, vX11_follow.2⟩ (ly_is hy _ _ rfl) (s_follow hy hr n a c r _ _ _ _ ⟨en1, hn.2⟩ ha hc hq) (Nat.le_of_ble_eq_true rfl) ?_
  refine WP_istore (ls' := [(0, _), (1, _), (2, _), (3, _), (4, _), (5, _), (6, _), (7, _)]) dX11_offer_11 (by decide) rfl ?_
  refine WP_iload_n dX11_offer_13 rfl ?_
  refine WP_if_ne 21 dX11_offer_14 rfl (fun c14 => ?_) (fun c14 => ?_)
  · refine WP_iload dX11_offer_21 rfl ?_
    refine WP_sipush (1000) dX11_offer_23 rfl ?_
    refine WP_aload_n dX11_offer_26 rfl ?_
    refine WP_iload_n dX11_offer_27 rfl ?_
    refine WP_iconst (1) dX11_offer_28 rfl ?_
    refine WP_isub dX11_offer_29 ?_
    refine WP_iload_n dX11_offer_30 rfl ?_
    refine WP_iconst (1) dX11_offer_31 rfl ?_
    refine WP_isub dX11_offer_32 ?_
    refine WP_iload_n dX11_offer_33 rfl ?_
    refine WP_iload dX11_offer_34 rfl ?_
    refine WP_callV4p (k := 11) dX11_offer_36 ⟨⟨⟨by decide, by decide⟩, zX11_follow⟩, lX11_508, by decide, rfl, vX11_follow.1, vX11_follow.2⟩ (ly_is hy _ _ rfl) (s_follow hy hr n (a - 1) c r _ _ _ _ ⟨en1, hn.2⟩ ⟨(by rw [is' (by rw [ha.1, e1]; omega) (by rw [ha.1, e1]; omega), ha.1, e1]; rw [eq32, ha.1] at c14; simp only [Int32.reduceToInt] at c14; omega), (by omega)⟩ hc hq) (Nat.le_of_ble_eq_true rfl) ?_
    refine WP_iadd dX11_offer_39 ?_
    refine WP_imul dX11_offer_40 ?_
    refine WP_bipush (100) dX11_offer_41 rfl ?_
    refine WP_iload dX11_offer_43 rfl ?_
    refine WP_isub dX11_offer_45 ?_
    refine WP_iload dX11_offer_46 rfl ?_
    refine WP_imul dX11_offer_48 ?_
    refine WP_iadd dX11_offer_49 ?_
    refine WP_bipush (100) dX11_offer_50 rfl ?_
    refine WP_idiv dX11_offer_52 (by decide) ?_
    first | exact l_off53 hy hr n a c r f xn xa xc xp xq xr hn ha hc hp hqq hq hrow _ (by rw [eq32, ha.1] at c14; simp only [Int32.reduceToInt] at c14; unfold noteV; rw [if_pos (by omega)]; rfl) | exact l_off53 hy hr n a c r f xn xa xc xp xq xr hn ha hc hp hqq hq hrow _ (by rw [eq32, ha.1] at c14; simp only [Int32.reduceToInt] at c14; have hdl2 := dec_le r ((n : Int) + 1) (a - 1); have h1 := hrow (dec r ((n : Int) + 1) (a - 1)) c (by omega) hc.2; rw [mixI hp (by rw [h1.1]; exact h1.2) (by rw [h0.1]; exact h0.2), h1.1, h0.1]; unfold noteV; rw [if_neg (by omega)])
  · refine WP_iconst (-1) dX11_offer_17 rfl ?_
    refine WP_goto 53 dX11_offer_18 rfl ?_
    first | exact l_off53 hy hr n a c r f xn xa xc xp xq xr hn ha hc hp hqq hq hrow _ (by rw [eq32, ha.1] at c14; simp only [Int32.reduceToInt] at c14; unfold noteV; rw [if_pos (by omega)]; rfl) | exact l_off53 hy hr n a c r f xn xa xc xp xq xr hn ha hc hp hqq hq hrow _ (by rw [eq32, ha.1] at c14; simp only [Int32.reduceToInt] at c14; have hdl2 := dec_le r ((n : Int) + 1) (a - 1); have h1 := hrow (dec r ((n : Int) + 1) (a - 1)) c (by omega) hc.2; rw [mixI hp (by rw [h1.1]; exact h1.2) (by rw [h0.1]; exact h0.2), h1.1, h0.1]; unfold noteV; rw [if_neg (by omega)])
