/-! TWO MONEYS: what follows, as the document tells it -/
def dec (r : Nat) (z : Int) (a : Nat) : Nat := if 0 < a ∧ z % (r : Int) = 0 then a - 1 else a
def noteV (p : Int) (r : Nat) (z : Int) (f : Nat → Nat → Int) (a c : Nat) : Int := if a = 0 then -1 else (p * (1000 + f (dec r z (a - 1)) c) + (100 - p) * f (dec r z a) c) / 100
def coinV (q : Int) (r : Nat) (z : Int) (f : Nat → Nat → Int) (a c : Nat) : Int := if c = 0 then -1 else (q * (1000 + f (dec r z a) (c - 1)) + (100 - q) * f (dec r z a) c) / 100
def mostV (p q : Int) (r : Nat) (z : Int) (f : Nat → Nat → Int) (a c : Nat) : Int := max 0 (max (noteV p r z f a c) (coinV q r z f a c))
def VV (p q : Int) (r : Nat) : Nat → Nat → Nat → Int
  | 0 => fun _ _ => 0
  | n + 1 => mostV p q r ((n : Int) + 1) (VV p q r n)
theorem cl {x : Int32} {n : Nat} (h : x.toInt = (n : Int)) : x.toNatClampNeg = n := by
  have h2 : x.toNatClampNeg = x.toInt.toNat := rfl
  rw [h2, h]; omega
