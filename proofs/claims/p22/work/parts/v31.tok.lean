/-! TOKENS: spans over the bytes -/
def sp (P : Int → Bool) (B : Nat → Int) : Nat → Nat → Nat
  | 0, p => p
  | f + 1, p => if P (B p) then sp P B f (p + 1) else p
def bB (b : Int) : Bool := decide (b = 32 ∨ b = 10)
def bL (b : Int) : Bool := decide (97 ≤ b ∧ b ≤ 122)
def bD (b : Int) : Bool := decide (48 ≤ b ∧ b ≤ 57)
theorem sp_go {P : Int → Bool} {B : Nat → Int} {n p : Nat} (hp : p < n) (h : P (B p) = true) : sp P B (n - p) p = sp P B (n - (p + 1)) (p + 1) := by
  rw [show n - p = (n - (p + 1)) + 1 by omega, sp, if_pos h]
theorem sp_no {P : Int → Bool} {B : Nat → Int} {f p : Nat} (h : P (B p) = false) : sp P B f p = p := by
  cases f with
  | zero => rfl
  | succ f => rw [sp, if_neg (by rw [h]; decide)]
theorem sp_end {P : Int → Bool} {B : Nat → Int} {n p : Nat} (h : n ≤ p) : sp P B (n - p) p = p := by
  rw [show n - p = 0 by omega, sp]
theorem sp_le (P : Int → Bool) (B : Nat → Int) : ∀ (f p : Nat), p ≤ sp P B f p ∧ sp P B f p ≤ p + f
  | 0, p => ⟨Nat.le_refl _, Nat.le_refl _⟩
  | f + 1, p => by
    rw [sp]
    split
    · have := sp_le P B f (p + 1)
      omega
    · omega
theorem sp_all (P : Int → Bool) (B : Nat → Int) : ∀ (f p q : Nat), p ≤ q → q < sp P B f p → P (B q) = true
  | 0, p, q, h1, h2 => by rw [sp] at h2; omega
  | f + 1, p, q, h1, h2 => by
    rw [sp] at h2
    split at h2
    · rename_i h
      by_cases e : q = p
      · rw [e]; exact h
      · exact sp_all P B f (p + 1) q (by omega) h2
    · omega
def nuI (B : Nat → Int) (a : Nat) : Nat → Int
  | 0 => 0
  | k + 1 => 10 * nuI B a k + B (a + k) - 48
def wI (B : Nat → Int) (a : Nat) : Nat → Int
  | 0 => 0
  | k + 1 => wI B a k * 256 + B (a + k)
def w5 (B : Nat → Int) (a : Nat) : Nat → Int
  | 0 => 0
  | k + 1 => w5 B a k * 32 + (B (a + k) - 96)
def tF (B : Nat → Int) (n p : Nat) : Nat := sp bB B (n - p) p
def tT (B : Nat → Int) (n p : Nat) : Nat :=
  if tF B n p = n then n
  else if bL (B (tF B n p)) then sp bL B (n - tF B n p) (tF B n p)
  else if bD (B (tF B n p)) then sp bD B (n - tF B n p) (tF B n p)
  else tF B n p + 1
def tK (B : Nat → Int) (n p : Nat) : Int :=
  if tF B n p = n then 0
  else if bL (B (tF B n p)) then (if 8 < tT B n p - tF B n p then 4 else 1)
  else if bD (B (tF B n p)) then (if 4 < tT B n p - tF B n p then 4 else 2)
  else if B (tF B n p) = 59 then 3 else 4
def tV (B : Nat → Int) (n p : Nat) : Int := nuI B (tF B n p) (tT B n p - tF B n p)
def tW (B : Nat → Int) (n p : Nat) : Int := wI B (tF B n p) (tT B n p - tF B n p)
def tM (B : Nat → Int) (n p : Nat) : Int := w5 B (tF B n p) (tT B n p - tF B n p)
theorem wI_b {B : Nat → Int} {a : Nat} : ∀ {k : Nat}, (∀ q, a ≤ q → q < a + k → 97 ≤ B q ∧ B q ≤ 122) → 0 ≤ wI B a k ∧ 2 * wI B a k < 256 ^ k
  | 0, _ => by simp [wI]
  | k + 1, h => by
    have h1 := wI_b (k := k) (fun q h1 h2 => h q h1 (by omega))
    have h2 := h (a + k) (by omega) (by omega)
    rw [wI, Int.pow_succ]
    omega
theorem w5_b {B : Nat → Int} {a : Nat} : ∀ {k : Nat}, (∀ q, a ≤ q → q < a + k → 97 ≤ B q ∧ B q ≤ 122) → 0 ≤ w5 B a k ∧ w5 B a k < 32 ^ k
  | 0, _ => by simp [w5]
  | k + 1, h => by
    have h1 := w5_b (k := k) (fun q h1 h2 => h q h1 (by omega))
    have h2 := h (a + k) (by omega) (by omega)
    rw [w5, Int.pow_succ]
    omega
theorem nuI_b {B : Nat → Int} {a : Nat} : ∀ {k : Nat}, (∀ q, a ≤ q → q < a + k → 48 ≤ B q ∧ B q ≤ 57) → 0 ≤ nuI B a k ∧ nuI B a k < 10 ^ k
  | 0, _ => by simp [nuI]
  | k + 1, h => by
    have h1 := nuI_b (k := k) (fun q h1 h2 => h q h1 (by omega))
    have h2 := h (a + k) (by omega) (by omega)
    rw [nuI, Int.pow_succ]
    omega
theorem tF_le (B : Nat → Int) {n p : Nat} (h : p ≤ n) : p ≤ tF B n p ∧ tF B n p ≤ n := by
  have := sp_le bB B (n - p) p
  unfold tF
  omega
theorem tT_le (B : Nat → Int) {n p : Nat} (h : p ≤ n) : tF B n p ≤ tT B n p ∧ tT B n p ≤ n := by
  have h1 := tF_le B h
  unfold tT
  split
  · omega
  · split
    · have := sp_le bL B (n - tF B n p) (tF B n p); omega
    · split
      · have := sp_le bD B (n - tF B n p) (tF B n p); omega
      · omega
/-- the words of tokens: eight letters at most, each of a .. z -/
def okW : Nat → Int → Prop
  | 0, w => w = 0
  | k + 1, w => w = 0 ∨ (97 ≤ w % 256 ∧ w % 256 ≤ 122 ∧ okW k (w / 256))
def c5 : Nat → Int → Int
  | 0, _ => 0
  | k + 1, w => if w = 0 then 0 else 32 * c5 k (w / 256) + (w % 256 - 96)
theorem c5_nn : ∀ (k : Nat) (w : Int), okW k w → 0 ≤ c5 k w
  | 0, _, _ => Int.le_refl _
  | k + 1, w, h => by
    rw [c5]
    split
    · omega
    · rename_i hw
      rcases h with h | ⟨h1, h2, h3⟩
      · exact absurd h hw
      · have := c5_nn k _ h3; omega
theorem c5_inj : ∀ (k : Nat) (a b : Int), okW k a → okW k b → c5 k a = c5 k b → a = b
  | 0, a, b, ha, hb, _ => by
    have ha : a = 0 := ha
    have hb : b = 0 := hb
    rw [ha, hb]
  | k + 1, a, b, ha, hb, h => by
    rw [c5, c5] at h
    rcases ha with rfl | ⟨a1, a2, a3⟩
    · rcases hb with rfl | ⟨b1, b2, b3⟩
      · rfl
      · have nb := c5_nn k _ b3
        rw [if_pos rfl] at h
        split at h
        · rename_i e; exact e.symm
        · omega
    · rcases hb with rfl | ⟨b1, b2, b3⟩
      · have na := c5_nn k _ a3
        rw [if_pos (rfl : (0 : Int) = 0)] at h
        split at h
        · rename_i e; exact e
        · omega
      · rw [if_neg (by intro e; rw [e] at a1; exact absurd a1 (by decide)), if_neg (by intro e; rw [e] at b1; exact absurd b1 (by decide))] at h
        have h2 := c5_inj k _ _ a3 b3 (by omega)
        omega
theorem wI_ok {B : Nat → Int} {a : Nat} : ∀ {k : Nat}, (∀ q, a ≤ q → q < a + k → 97 ≤ B q ∧ B q ≤ 122) → okW k (wI B a k) ∧ c5 k (wI B a k) = w5 B a k
  | 0, _ => ⟨rfl, rfl⟩
  | k + 1, h => by
    have h1 := wI_ok (k := k) (fun q h1 h2 => h q h1 (by omega))
    have h2 := h (a + k) (by omega) (by omega)
    have h3 := wI_b (k := k) (fun q h1 h2 => h q h1 (by omega))
    have e1 : (wI B a k * 256 + B (a + k)) % 256 = B (a + k) := by omega
    have e2 : (wI B a k * 256 + B (a + k)) / 256 = wI B a k := by omega
    refine ⟨Or.inr ?_, ?_⟩
    · rw [wI, e1, e2]; exact ⟨h2.1, h2.2, h1.1⟩
    · rw [c5, wI, w5, if_neg (by omega), e1, e2, h1.2]; omega
theorem okW_up : ∀ {k m : Nat} {w : Int}, k ≤ m → okW k w → okW m w ∧ c5 m w = c5 k w
  | 0, m, w, _, h => by
    have h : w = 0 := h
    subst h
    cases m with
    | zero => exact ⟨rfl, rfl⟩
    | succ m => exact ⟨Or.inl rfl, by simp [c5]⟩
  | k + 1, 0, w, hk, h => by omega
  | k + 1, m + 1, w, hk, h => by
    rcases h with h | ⟨h1, h2, h3⟩
    · subst h; exact ⟨Or.inl rfl, by rw [c5, c5, if_pos rfl, if_pos rfl]⟩
    · have := okW_up (by omega : k ≤ m) h3
      refine ⟨Or.inr ⟨h1, h2, this.1⟩, ?_⟩
      rw [c5, c5, this.2]
/-- the tape of the class; a token of it is at hand (read from p on) -/
def TPX (g : GG) (B : Nat → Int) (n : Nat) (I : pI) : Prop := (I (ad g 1) 1).toInt = (n : Int) ∧ ∀ q, q < 900 → (I (ad g 2) q).toInt = B q
def CUX (g : GG) (B : Nat → Int) (n p : Nat) (I : pI) (J : pJ) : Prop := (I (ad g 1) 3).toInt = (tF B n p : Int) ∧ (I (ad g 1) 6).toInt = (tT B n p : Int) ∧ (I (ad g 1) 2).toInt = tK B n p ∧ (tK B n p = 2 → (I (ad g 1) 4).toInt = tV B n p) ∧ (tK B n p = 1 → (J (ad g 1) 5).toInt = tW B n p)
/-- the same of the reference -/
def TPM (g : GG) (B : Nat → Int) (n : Nat) (I : pI) : Prop := (I (ad g 0) 2).toInt = (n : Int) ∧ ∀ q, q < 900 → (I (ad g 1) q).toInt = B q
def CUM (g : GG) (B : Nat → Int) (n p : Nat) (I : pI) : Prop := (I (ad g 0) 3).toInt = (tF B n p : Int) ∧ (I (ad g 0) 4).toInt = (tT B n p : Int) ∧ (I (ad g 0) 5).toInt = tK B n p ∧ (tK B n p = 2 → (I (ad g 0) 6).toInt = tV B n p)
