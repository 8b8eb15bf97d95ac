/-! NIGHTS: what is left of coins and notes -/
def hday (c l : Int) : Int := c - stp c l
theorem stp_b {c l : Int} (hc : 0 ≤ c) (hl : 0 ≤ l ∧ l ≤ 1000) : 0 ≤ stp c l ∧ stp c l ≤ c := by
  have h1 : 0 ≤ c * l := Int.mul_nonneg hc hl.1
  have h2 : c * l ≤ c * 1000 := Int.mul_le_mul_of_nonneg_left hl.2 hc
  unfold stp
  omega
theorem hday_b {c l : Int} (hc : 0 ≤ c) (hl : 0 ≤ l ∧ l ≤ 1000) : 0 ≤ hday c l ∧ hday c l ≤ c := by
  have := stp_b hc hl
  unfold hday
  omega
/-- the nights from a day on, k of them -/
def efold (S : TwS) (d : Nat) : Nat → Int → Int
  | 0, c => c
  | k + 1, c => hday (efold S d k c) (S.1 1 ((d + k) % 7))
theorem rot_b {S : TwS} (h : TBD S) (q : Nat) : 0 ≤ S.1 1 (q % 7) ∧ S.1 1 (q % 7) ≤ 900 := h.1.1.1 (q % 7) (by omega)
theorem efold_b {S : TwS} (h : TBD S) (d : Nat) {c : Int} (hc : 0 ≤ c) : ∀ k, 0 ≤ efold S d k c ∧ efold S d k c ≤ c
  | 0 => ⟨hc, Int.le_refl _⟩
  | k + 1 => by
    have h1 := efold_b h d hc k
    have h2 := rot_b h (d + k)
    have h3 := hday_b h1.1 ⟨h2.1, by omega⟩
    rw [efold]
    omega
def need (b l : Int) : Int := (b * 1000 + (1000 - l) - 1) / (1000 - l)
theorem need_iff {b l n : Int} (hn : 0 ≤ n) (hl : 0 ≤ l ∧ l ≤ 900) : b ≤ hday n l ↔ need b l ≤ n := by
  obtain ⟨k, hk⟩ : ∃ k : Int, k = 1000 - l := ⟨_, rfl⟩
  have e1 := Int.mul_ediv_add_emod (b * 1000 + (1000 - l) - 1) (1000 - l)
  have r0 := Int.emod_nonneg (b * 1000 + (1000 - l) - 1) (show (1000 - l : Int) ≠ 0 by omega)
  have r1 := Int.emod_lt_of_pos (b * 1000 + (1000 - l) - 1) (show (0 : Int) < 1000 - l by omega)
  have e2 : n * l = n * 1000 - n * (1000 - l) := by rw [Int.mul_sub]; omega
  unfold hday stp need
  rw [e2]
  rw [← hk] at e1 r0 r1 ⊢
  obtain ⟨q, hq⟩ : ∃ q : Int, q = (b * 1000 + k - 1) / k := ⟨_, rfl⟩
  rw [← hq] at e1 ⊢
  obtain ⟨m, hm⟩ : ∃ m : Int, m = n * k := ⟨_, rfl⟩
  rw [← hm]
  constructor
  · intro h
    refine Int.not_lt.mp (fun z => ?_)
    have z2 : k * (n + 1) ≤ k * q := Int.mul_le_mul_of_nonneg_left (by omega) (by omega)
    rw [Int.mul_add, Int.mul_comm k n, ← hm] at z2
    omega
  · intro h
    have z2 : k * q ≤ k * n := Int.mul_le_mul_of_nonneg_left h (by omega)
    rw [Int.mul_comm k n, ← hm] at z2
    omega
theorem need_ge {b l : Int} (hb : 0 ≤ b) (hl : 0 ≤ l ∧ l ≤ 900) : b ≤ need b l := by
  by_cases h : 0 ≤ need b l
  · have h1 := (need_iff (b := b) h hl).mpr (Int.le_refl _)
    have h2 := hday_b (c := need b l) h ⟨hl.1, by omega⟩
    omega
  · exfalso
    apply h
    unfold need
    exact Int.ediv_nonneg (by omega) (by omega)
/-- what is needed ahead of the nights k .. , so that c are left behind n of them -/
def eneed (S : TwS) (d : Nat) (c : Int) : Nat → Nat → Int
  | _, 0 => c
  | k, f + 1 => need (eneed S d c (k + 1) f) (S.1 1 ((d + k) % 7))
theorem eneed_b {S : TwS} (h : TBD S) (d : Nat) {c : Int} (hc : 0 ≤ c) : ∀ (f k : Nat), c ≤ eneed S d c k f
  | 0, _ => Int.le_refl _
  | f + 1, k => by
    rw [eneed]
    have h1 := eneed_b h d hc f (k + 1)
    have h2 := need_ge (b := eneed S d c (k + 1) f) (by omega) (rot_b h (d + k))
    omega
theorem eneed_iff {S : TwS} (h : TBD S) (d : Nat) {c n : Int} (hn : 0 ≤ n) : ∀ (f k : Nat), (c ≤ efold S d (k + f) n ↔ eneed S d c k f ≤ efold S d k n)
  | 0, k => Iff.rfl
  | f + 1, k => by
    rw [show k + (f + 1) = (k + 1) + f by omega, eneed_iff h d hn f (k + 1), eneed, efold]
    exact need_iff (efold_b h d hn k).1 (rot_b h (d + k))
/-- the fewest of n that will do -/
def earlyL (S : TwS) (d : Nat) (k : Nat) (c : Int) : Nat → Nat → Int
  | 0, _ => -1
  | f + 1, n => if c ≤ efold S d k (n : Int) then (n : Int) else earlyL S d k c f (n + 1)
theorem earlyL_eq {S : TwS} (h : TBD S) (d k : Nat) {c : Int} (hc : 0 ≤ c) : ∀ (f n : Nat), (n : Int) ≤ eneed S d c 0 k → earlyL S d k c f n = if eneed S d c 0 k < n + f then eneed S d c 0 k else -1
  | 0, n, hn => by rw [earlyL, if_neg (by omega)]
  | f + 1, n, hn => by
    have hi := eneed_iff (c := c) (n := (n : Int)) h d (by omega) k 0
    rw [Nat.zero_add] at hi
    have hi2 : (c ≤ efold S d k (n : Int) ↔ eneed S d c 0 k ≤ n) := hi
    rw [earlyL]
    by_cases z : c ≤ efold S d k (n : Int)
    · have z2 := hi2.mp z
      rw [if_pos z, if_pos (by omega)]
      omega
    · have z2 : ¬ eneed S d c 0 k ≤ n := fun q => z (hi2.mpr q)
      rw [if_neg z, earlyL_eq h d k hc f (n + 1) (by omega)]
      by_cases z3 : eneed S d c 0 k < n + (f + 1 : Nat)
      · rw [if_pos (by omega), if_pos z3]
      · rw [if_neg (by omega), if_neg z3]
def earlyS (S : TwS) (c k d : Int) : Int := if (0 ≤ c ∧ c ≤ 999) ∧ (0 ≤ k ∧ k ≤ 60) ∧ (0 ≤ d ∧ d < 7) then earlyL S d.toNat k.toNat c 1000 0 else -2
def lfold (y : Int) : Nat → Int → Int
  | 0, c => c
  | w + 1, c => lfold y w c * (1000 - y) / 1000
theorem lfold_b {y c : Int} (hy : 0 ≤ y ∧ y ≤ 1000) (hc : 0 ≤ c) : ∀ w, 0 ≤ lfold y w c ∧ lfold y w c ≤ c
  | 0 => ⟨hc, Int.le_refl _⟩
  | w + 1 => by
    have h1 := lfold_b hy hc w
    have h2 : 0 ≤ lfold y w c * (1000 - y) := Int.mul_nonneg h1.1 (by omega)
    have h3 : lfold y w c * (1000 - y) ≤ lfold y w c * 1000 := Int.mul_le_mul_of_nonneg_left (by omega) h1.1
    rw [lfold]
    omega
def lendS (S : TwS) (c w y k : Int) : Int := if (0 ≤ c ∧ c ≤ 999) ∧ (0 ≤ w ∧ w ≤ 52) ∧ (0 ≤ y ∧ y ≤ 1000) ∧ (0 ≤ k ∧ k ≤ 1) then (if k = 0 then lfold y w.toNat c else efold S 0 (7 * w.toNat) c) else -2
def nightV (S : TwS) (c u d : Int) : Int := if c - stp c (S.1 1 d.toNat) - u * cstS S < 0 then 0 else c - stp c (S.1 1 d.toNat) - u * cstS S
def nightS (S : TwS) (c u d : Int) : Int := if (0 ≤ c ∧ c ≤ 60) ∧ (0 ≤ u ∧ u ≤ 5) ∧ (0 ≤ d ∧ d < 7) ∧ (0 < S.1 0 2 ∨ u = 0) then nightV S c u d else -2
/-- the market but for prices: losses as told, what stamps leave, what a store costs and keeps -/
def XK (g : GG) (S : TwS) (I : pI) : Prop := (∀ q, q < 7 → (I (ad g 23) q).toInt = S.1 1 q) ∧ (∀ d c : Nat, d < 7 → c < 61 → (I (ad g 24) (d * 61 + c)).toInt = c - stp c (S.1 1 d)) ∧ (∀ u : Nat, u < 6 → (I (ad g 25) u).toInt = u * cstS S) ∧ (∀ u : Nat, u < 6 → (I (ad g 26) u).toInt = u - u * splS S / 1000)
