/-! FRAMES: which cells may have changed; the planner's two rows -/
def fz {α : Type} (N : Nat) (g : GG) (S : List Nat) (f f' : Nat → Nat → α) : Prop := ∀ i, i < N → i ∉ S → f' (ad g i) = f (ad g i)
theorem fz_rf {α : Type} {N : Nat} {g : GG} {S : List Nat} {f : Nat → Nat → α} : fz N g S f f := fun _ _ _ => rfl
theorem fz_tr {α : Type} {N : Nat} {g : GG} {S : List Nat} {f f1 f2 : Nat → Nat → α} (h : fz N g S f f1) (h2 : fz N g S f1 f2) : fz N g S f f2 := fun i hi hs => (h2 i hi hs).trans (h i hi hs)
theorem fz_mono {α : Type} {N : Nat} {g : GG} {S S' : List Nat} {f f1 : Nat → Nat → α} (h : fz N g S f f1) (hs : ∀ i ∈ S, i ∈ S') : fz N g S' f f1 := fun i hi hn => h i hi (fun q => hn (hs i q))
theorem fz_at {α : Type} {N : Nat} {g : GG} {S : List Nat} {f f1 : Nat → Nat → α} (h : fz N g S f f1) (i : Nat) (hi : i < N) (hs : i ∉ S) : f1 (ad g i) = f (ad g i) := h i hi hs
theorem fzx_pp {α : Type} {g : GG} (hy : LyX g) {S : List Nat} {f f1 : Nat → Nat → α} {i q : Nat} {v : α} (h : fz 74 g S f f1) (hi : i < 74) (hm : i ∈ S) : fz 74 g S f (pp f1 (ad g i) q v) := fun j hj hn => by
  rw [pp_off _ _ (lyx_ne hy (show j ≠ i from fun e => hn (e ▸ hm)) hj hi)]
  exact h j hj hn
theorem fzm_pp {α : Type} {g : GG} (hy : Ly g) {S : List Nat} {f f1 : Nat → Nat → α} {i q : Nat} {v : α} (h : fz 49 g S f f1) (hi : i < 49) (hm : i ∈ S) : fz 49 g S f (pp f1 (ad g i) q v) := fun j hj hn => by
  rw [pp_off _ _ (ly_ne hy (show j ≠ i from fun e => hn (e ▸ hm)) hj hi)]
  exact h j hj hn
theorem fzx_fi {g : GG} (hy : LyX g) {S : List Nat} {f f1 : pI} {i N : Nat} {v : Int32} (h : fz 74 g S f f1) (hi : i < 74) (hm : i ∈ S) : fz 74 g S f (fi f1 (ad g i) N v) := fun j hj hn => by
  rw [fi_off (lyx_ne hy (show j ≠ i from fun e => hn (e ▸ hm)) hj hi)]
  exact h j hj hn
theorem fzx_cp {g : GG} (hy : LyX g) {S : List Nat} {f f1 f2 : pI} {i : Nat} (h : fz 74 g S f f1) (o : ∀ b, b ≠ ad g i → f2 b = f1 b) (hi : i < 74) (hm : i ∈ S) : fz 74 g S f f2 := fun j hj hn => by
  rw [o _ (lyx_ne hy (show j ≠ i from fun e => hn (e ▸ hm)) hj hi)]
  exact h j hj hn
/-- the planner's rows now and later, by turns -/
def NL (g : GG) (R : pR) : Prop := (R (ad g 43) 6 = some (ad g 47) ∧ R (ad g 43) 7 = some (ad g 48)) ∨ (R (ad g 43) 6 = some (ad g 48) ∧ R (ad g 43) 7 = some (ad g 47))
/-- the reference's own fields: which may have changed -/
def fs (g : GG) (Q : List Nat) (f f' : pI) : Prop := ∀ q, q ∉ Q → f' (ad g 0) q = f (ad g 0) q
theorem fs_rf {g : GG} {Q : List Nat} {f : pI} : fs g Q f f := fun _ _ => rfl
theorem fs_tr {g : GG} {Q : List Nat} {f f1 f2 : pI} (h : fs g Q f f1) (h2 : fs g Q f1 f2) : fs g Q f f2 := fun q hq => (h2 q hq).trans (h q hq)
theorem fs_mono {g : GG} {Q Q' : List Nat} {f f1 : pI} (h : fs g Q f f1) (hs : ∀ i ∈ Q, i ∈ Q') : fs g Q' f f1 := fun q hn => h q (fun z => hn (hs q z))
theorem fs_pp0 {g : GG} {Q : List Nat} {f f1 : pI} {q : Nat} {v : Int32} (h : fs g Q f f1) (hm : q ∈ Q) : fs g Q f (pp f1 (ad g 0) q v) := fun k hk => by
  rw [pp_ne _ _ (Or.inr (show k ≠ q from fun e => hk (e ▸ hm)))]
  exact h k hk
theorem fs_ppn {g : GG} (hy : Ly g) {Q : List Nat} {f f1 : pI} {i q : Nat} {v : Int32} (h : fs g Q f f1) (hi : i < 49) (h0 : i ≠ 0) : fs g Q f (pp f1 (ad g i) q v) := fun k hk => by
  rw [pp_ne _ _ (Or.inl (ly_ne hy (Ne.symm h0) (by decide) hi))]
  exact h k hk
