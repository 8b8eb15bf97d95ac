def twoR (a c : Nat) (p q : Int) (n r : Nat) (wh : Int) : Int := if wh = 0 then VV p q r n a c else if n = 0 ∨ a + c = 0 then -1 else if coinV q r (n : Int) (VV p q r (n - 1)) a c ≤ noteV p r (n : Int) (VV p q r (n - 1)) a c then 0 else 1
/-- the rows ahead of t hold what follows -/
def Rw (g : GG) (p q : Int) (r : Nat) (t : Nat) (I : pI) : Prop := ∀ u a c, u < t → a ≤ 9 → c ≤ 9 → (I (ad g P_o_follows) (100 * u + 10 * a + c)).toInt = VV p q r u a c
theorem Rw_row {g : GG} {p q : Int} {r t : Nat} {I : pI} (h : Rw g p q r (t + 1) I) (ht : t ≤ 20) (hp : 0 ≤ p ∧ p ≤ 100) (hq : 0 ≤ q ∧ q ≤ 100) : ∀ a c, a ≤ 9 → c ≤ 9 → (I (ad g P_o_follows) (100 * t + 10 * a + c)).toInt = VV p q r t a c ∧ 0 ≤ VV p q r t a c ∧ VV p q r t a c ≤ 20000 := fun a c ha hc => by
  have b := VV_b (r := r) hp hq t a c
  exact ⟨h t a c (by omega) ha hc, b.1, by omega⟩
set_option maxHeartbeats 4000000 in
set_option maxRecDepth 100000 in
theorem l_two179 {g : GG} {I : pI} {J : pJ} {R : pR} (hy : Ly g) (hr : Rf g R) (na nc nn nr : Nat) (xa xc xp xq xn xr xw : Int32) (ha : xa.toInt = (na : Int) ∧ na ≤ 9) (hc : xc.toInt = (nc : Int) ∧ nc ≤ 9) (hp : 0 ≤ xp.toInt ∧ xp.toInt ≤ 100) (hqq : 0 ≤ xq.toInt ∧ xq.toInt ≤ 100) (hn : xn.toInt = (nn : Int) ∧ nn ≤ 20) (hq : xr.toInt = (nr : Int) ∧ 1 ≤ nr ∧ nr ≤ 20) (hw : xw.toInt = 0 ∨ xw.toInt = 1) (hv : Rw g xp.toInt xq.toInt nr (nn + 1) I) : WP g mX11_two 179 [(0, .ref (ad g P_o)), (1, .int xa), (2, .int xc), (3, .int xp), (4, .int xq), (5, .int xn), (6, .int xr), (7, .int xw)] [] I J R (fun r0 _ _ _ => ∃ x : Int32, r0 = some (.int x) ∧ x.toInt = twoR na nc xp.toInt xq.toInt nn nr xw.toInt) := by
  have e1 : (100 : Int32).toInt = 100 := rfl
  have e2 : (10 : Int32).toInt = 10 := rfl
  have b1 : ((100 : Int32) * xn).toInt = 100 * (nn : Int) := by rw [im (by rw [e1, hn.1]; omega) (by rw [e1, hn.1]; omega), e1, hn.1]
  have b2 : ((10 : Int32) * xa).toInt = 10 * (na : Int) := by rw [im (by rw [e2, ha.1]; omega) (by rw [e2, ha.1]; omega), e2, ha.1]
  have b3 : ((100 : Int32) * xn + 10 * xa).toInt = 100 * (nn : Int) + 10 * (na : Int) := by rw [ia (by rw [b1, b2]; omega) (by rw [b1, b2]; omega), b1, b2]
  have b4 : ((100 : Int32) * xn + 10 * xa + xc).toInt = 100 * (nn : Int) + 10 * (na : Int) + nc := by rw [ia (by rw [b3, hc.1]; omega) (by rw [b3, hc.1]; omega), b3, hc.1]
  have b5 : (xa + xc).toInt = (na : Int) + nc := by rw [ia (by rw [ha.1, hc.1]; omega) (by rw [ha.1, hc.1]; omega), ha.1, hc.1]
  have z0 : (0 : Int32).toInt = 0 := rfl
  refine WP_iload dX11_two_179 rfl ?_
  refine WP_if_ne 202 dX11_two_181 rfl (fun c181 => ?_) (fun c181 => ?_)
  · refine WP_iload dX11_two_202 rfl ?_
    refine WP_if_eq 213 dX11_two_204 rfl (fun c204 => ?_) (fun c204 => ?_)
    · refine WP_iconst (-1) dX11_two_213 rfl ?_
      exact WP_iret dX11_two_214 rfl ⟨_, rfl, (by rw [eq32, z0] at c181; rw [eq32, hn.1, z0] at c204; unfold twoR; rw [if_neg (by omega), if_pos (by first | exact Or.inl (by omega) | (rw [eq32, b5, z0] at c210; exact Or.inr (by omega)))]; rfl)⟩
    · refine WP_iload_n dX11_two_207 rfl ?_
      refine WP_iload_n dX11_two_208 rfl ?_
      refine WP_iadd dX11_two_209 ?_
      refine WP_if_ne 215 dX11_two_210 rfl (fun c210 => ?_) (fun c210 => ?_)
      · rw [eq32, hn.1, z0] at c204
        have hrow := Rw_row (t := nn - 1) (I := I) (show Rw g xp.toInt xq.toInt nr (nn - 1 + 1) I from fun u a c hu => hv u a c (by omega)) (by omega) hp hqq
        refine WP_aload_n dX11_two_215 rfl ?_
        refine WP_iload dX11_two_216 rfl ?_
        refine WP_iload_n dX11_two_218 rfl ?_
        refine WP_iload_n dX11_two_219 rfl ?_
        refine WP_iload_n dX11_two_220 rfl ?_
        refine WP_iload dX11_two_221 rfl ?_
        refine WP_iload dX11_two_223 rfl ?_
        refine WP_callV6 (k := 11) dX11_two_225 ⟨⟨⟨by decide, by decide⟩, zX11_offer⟩, lX11_519, by decide, rfl, vX11_offer.1, vX11_offer.2⟩ (ly_is hy _ _ rfl) (s_offer hy hr (nn - 1) na nc nr (VV xp.toInt xq.toInt nr (nn - 1)) _ _ _ _ _ _ ⟨by rw [hn.1]; omega, by omega⟩ ha hc hp hqq hq hrow) (Nat.le_of_ble_eq_true rfl) ?_
        rintro r0 I3 J3 R3 ⟨x, rfl, hx, hI3, eJ, eR⟩
        rw [eJ, eR]
        simp only [Option.toList, List.cons_append, List.nil_append]
        have e7 : I3 (ad g P_o) 70 = if coinV xq.toInt nr (((nn - 1 : Nat) : Int) + 1) (VV xp.toInt xq.toInt nr (nn - 1)) na nc ≤ noteV xp.toInt nr (((nn - 1 : Nat) : Int) + 1) (VV xp.toInt xq.toInt nr (nn - 1)) na nc then 1 else 0 := by rw [hI3, pp_self]
        have en : ((nn - 1 : Nat) : Int) + 1 = (nn : Int) := by omega
        rw [en] at e7
        refine WP_pop dX11_two_228 rfl ?_
        refine WP_aload_n dX11_two_229 rfl ?_
        refine WP_geti dX11_two_230 fX11_512 rfl (ly_is hy _ _ rfl) ?_
        refine WP_if_eq 240 dX11_two_233 rfl (fun c233 => ?_) (fun c233 => ?_)
        · refine WP_iconst (1) dX11_two_240 rfl ?_
          exact WP_iret dX11_two_241 rfl ⟨_, rfl, (by rw [eq32, z0] at c181; rw [eq32, b5, z0] at c210; rw [e7] at c233; unfold twoR; rw [if_neg (by omega), if_neg (by omega)]; split at c233 <;> first | (rename_i hh; rw [if_pos hh]; first | rfl | exact absurd c233 (by decide)) | (rename_i hh; rw [if_neg hh]; first | rfl | exact absurd rfl c233))⟩
        · refine WP_iconst (0) dX11_two_236 rfl ?_
          refine WP_goto 241 dX11_two_237 rfl ?_
          exact WP_iret dX11_two_241 rfl ⟨_, rfl, (by rw [eq32, z0] at c181; rw [eq32, b5, z0] at c210; rw [e7] at c233; unfold twoR; rw [if_neg (by omega), if_neg (by omega)]; split at c233 <;> first | (rename_i hh; rw [if_pos hh]; first | rfl | exact absurd c233 (by decide)) | (rename_i hh; rw [if_neg hh]; first | rfl | exact absurd rfl c233))⟩
      · refine WP_iconst (-1) dX11_two_213 rfl ?_
        exact WP_iret dX11_two_214 rfl ⟨_, rfl, (by rw [eq32, z0] at c181; rw [eq32, hn.1, z0] at c204; unfold twoR; rw [if_neg (by omega), if_pos (by first | exact Or.inl (by omega) | (rw [eq32, b5, z0] at c210; exact Or.inr (by omega)))]; rfl)⟩
  · refine WP_aload_n dX11_two_184 rfl ?_
    refine WP_getr dX11_two_185 fX11_307 rfl (ly_is hy _ _ rfl) (rf hr 0 69 45 (by decide)) ?_
    refine WP_bipush (100) dX11_two_188 rfl ?_
    refine WP_iload dX11_two_190 rfl ?_
    refine WP_imul dX11_two_192 ?_
    refine WP_bipush (10) dX11_two_193 rfl ?_
    refine WP_iload_n dX11_two_195 rfl ?_
    refine WP_imul dX11_two_196 ?_
    refine WP_iadd dX11_two_197 ?_
    refine WP_iload_n dX11_two_198 rfl ?_
    refine WP_iadd dX11_two_199 ?_
    refine WP_iald dX11_two_200 (ly_is hy _ _ rfl) (ly_in hy _ _ rfl (vin (by rw [b4]; omega) (by rw [b4]; omega))) ?_
    exact WP_iret dX11_two_201 rfl ⟨_, rfl, (by rw [cl (n := 100 * nn + 10 * na + nc) (by rw [b4]; omega), hv nn na nc (by omega) ha.2 hc.2]; rw [eq32, z0] at c181; unfold twoR; rw [if_pos (by omega)])⟩
