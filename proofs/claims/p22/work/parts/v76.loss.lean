/-! NIGHTS: what is left of coins and notes -/
/-- the market but for prices: losses as told, what stamps leave, what a store costs and keeps -/
def XK (g : GG) (S : TwS) (I : pI) : Prop := (∀ q, q < 7 → (I (ad g 23) q).toInt = S.1 1 q) ∧ (∀ d c : Nat, d < 7 → c < 61 → (I (ad g 24) (d * 61 + c)).toInt = c - stp c (S.1 1 d)) ∧ (∀ u : Nat, u < 6 → (I (ad g 25) u).toInt = u * cstS S) ∧ (∀ u : Nat, u < 6 → (I (ad g 26) u).toInt = u - u * splS S / 1000)
