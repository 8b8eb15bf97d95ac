section Rules
variable {g : GG} {d : MD} {pc : Nat} {ls : List (Nat × Value)} {st : List Value} {I : pI} {J : pJ} {R : pR} {Q : Post}
theorem WQ_imulx {x y : Int32} (h : decode (md_c d) pc = .ok (.imul, 1)) (h1 : -2147483648 ≤ x.toInt * y.toInt) (h2 : x.toInt * y.toInt < 2147483648) (k : ∀ v : Int32, v.toInt = x.toInt * y.toInt → WP g d (pc + 1) ls (.int v :: st) I J R Q) : WP g d pc ls (.int y :: .int x :: st) I J R Q := WP_imul h (k _ (im h1 h2))
end Rules
