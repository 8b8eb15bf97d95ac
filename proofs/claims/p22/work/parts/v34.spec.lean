/-! THE READING OF A TOWN, as a function of the bytes. A town: what it holds by cell and place (cells as the class's town has them), and which days are told -/
abbrev TwS : Type := (Nat → Nat → Int) × (Nat → Nat → Bool)
def SHP : Nat → List Nat
  | 0 => [68, 76] | 1 => [110, 80, 72, 67] | 2 => [109, 72, 71] | 3 => [115, 68, 69] | 4 => [116, 68, 69] | 5 => [116, 68, 77] | 6 => [115, 116, 68, 85, 86]
  | 7 => [115, 73] | 8 => [115] | 9 => [116] | 10 => [115, 116, 68, 85, 80] | _ => [86, 86]
def loB (ch : Nat) : Int := if ch = 80 ∨ ch = 69 ∨ ch = 85 ∨ ch = 73 then 1 else 0
def hiB (ch : Nat) : Int := if ch = 68 then 6 else if ch = 76 then 900 else if ch = 80 then 99 else if ch = 72 then 1000 else if ch = 67 then 60 else if ch = 71 then 9 else if ch = 69 then 20 else if ch = 77 then 999 else if ch = 85 then 3 else if ch = 73 then 127 else 99
/-- the first of the names from i on, f of them, that is w -/
def fnd (nm : Nat → Int) (b : Nat) (w : Int) : Nat → Nat → Int
  | 0, _ => -1
  | f + 1, i => if nm (b + i) = w then (i : Int) else fnd nm b w f (i + 1)
def fnS (S : TwS) (w : Int) : Int := fnd (S.1 14) 0 w (S.1 0 1).toNat 0
def fnT (S : TwS) (w : Int) : Int := fnd (S.1 14) 4 w (S.1 0 2).toNat 0
abbrev ER : Type := Nat × Nat
/-- one part of a clause, the token from p on -/
def prt (B : Nat → Int) (n cl i ch p : Nat) (S : TwS) (P : Nat → Int) : Except ER (TwS × (Nat → Int)) :=
  if 97 ≤ ch then
    if tK B n p ≠ 1 then .error (1, tF B n p)
    else if ch = 110 then
      if fnS S (tW B n p) ≠ -1 then .error (3, tF B n p) else .ok ((pp S.1 14 (S.1 0 1).toNat (tW B n p), S.2), P)
    else if ch = 109 then
      if fnT S (tW B n p) ≠ -1 then .error (3, tF B n p) else .ok ((pp S.1 14 (4 + (S.1 0 2).toNat) (tW B n p), S.2), P)
    else if ch = 115 then
      if fnS S (tW B n p) = -1 then .error (5, tF B n p)
      else if cl = 7 ∧ S.2 (28 + (fnS S (tW B n p)).toNat) 0 = true then .error (3, tF B n p)
      else .ok (S, fun j => if j = i then fnS S (tW B n p) else P j)
    else
      if fnT S (tW B n p) = -1 then .error (5, tF B n p)
      else .ok (S, fun j => if j = i then fnT S (tW B n p) else P j)
  else
    if tK B n p ≠ 2 then .error (1, tF B n p)
    else if tV B n p < loB ch ∨ hiB ch < tV B n p then .error (2, tF B n p)
    else if ch = 68 ∧ S.2 (cl * 4 + (if cl = 0 then 0 else (P 0).toNat)) (tV B n p).toNat = true then .error (3, tF B n p)
    else .ok (S, fun j => if j = i then tV B n p else P j)
def prts (B : Nat → Int) (n cl : Nat) : List Nat → Nat → Nat → TwS → (Nat → Int) → Except ER (TwS × (Nat → Int) × Nat)
  | [], _, p, S, P => .ok (S, P, p)
  | ch :: l, i, p, S, P => match prt B n cl i ch p S P with
    | .error e => .error e
    | .ok (S2, P2) => prts B n cl l (i + 1) (tT B n p) S2 P2
/-- a clause's parts and its semicolon -/
def clz (B : Nat → Int) (n cl p : Nat) (S : TwS) : Except ER (TwS × (Nat → Int) × Nat) :=
  match prts B n cl (SHP cl) 0 p S (fun _ => 0) with
  | .error e => .error e
  | .ok (S2, P2, p2) => if tK B n p2 ≠ 3 then .error (1, tF B n p2) else .ok (S2, P2, p2)
/-- what a clause changes -/
def tel (cl : Nat) (P : Nat → Int) (S : TwS) : TwS :=
  let T := pp S.1 0 0 (S.1 0 0 + 1)
  match cl with
  | 0 => (pp T 1 (P 0).toNat (P 1), pp S.2 0 (P 0).toNat true)
  | 1 => (pp (pp (pp (pp T 2 (T 0 1).toNat (P 1)) 3 (T 0 1).toNat (P 2)) 4 (T 0 1).toNat (P 3)) 0 1 (T 0 1 + 1), S.2)
  | 2 => (let U := pp (pp (pp T 10 (T 0 2).toNat (P 1)) 11 (T 0 2).toNat (P 2)) 0 2 (T 0 2 + 1)
      if T 0 4 = -1 then pp U 0 4 0 else U, S.2)
  | 3 => (pp T 6 ((P 0).toNat * 7 + (P 1).toNat) (P 2), pp S.2 (12 + (P 0).toNat) (P 1).toNat true)
  | 4 => (pp T 12 ((P 0).toNat * 7 + (P 1).toNat) (P 2), pp S.2 (16 + (P 0).toNat) (P 1).toNat true)
  | 5 => (pp T 13 ((P 0).toNat * 7 + (P 1).toNat) (P 2), pp S.2 (20 + (P 0).toNat) (P 1).toNat true)
  | 6 => (pp (pp (pp T 7 ((P 0).toNat * 7 + (P 2).toNat) (P 1)) 8 ((P 0).toNat * 7 + (P 2).toNat) (P 3)) 9 ((P 0).toNat * 7 + (P 2).toNat) (P 4), pp S.2 (24 + (P 0).toNat) (P 2).toNat true)
  | 7 => (pp T 5 (P 0).toNat (P 1), pp S.2 (28 + (P 0).toNat) 0 true)
  | 8 => (pp T 0 3 (P 0), pp S.2 32 0 true)
  | _ => (pp T 0 4 (P 0), pp S.2 36 0 true)
/-- the clauses' words, base 256 -/
def KW : Nat → Int
  | 0 => 7499636 | 1 => 1936683636 | 2 => 499967946343 | 3 => 1700885102 | 4 => 482955846501 | 5 => 1835101029 | 6 => 2002873972 | 7 => 6909036 | 8 => 426953241460 | _ => 495874699877
/-- which clause a word begins (from c on, f of them); 99: none -/
def kwd (w : Int) : Nat → Nat → Nat
  | 0, _ => 99
  | f + 1, c => if KW c = w then c else kwd w f (c + 1)
def cls (B : Nat → Int) (n p : Nat) : Nat := if tK B n p = 1 then kwd (tW B n p) 10 0 else 99
/-- the fault that a clause's word has already -/
def ahd (cl : Nat) (S : TwS) : Nat :=
  if cl = 1 ∧ S.1 0 1 = 4 ∨ cl = 2 ∧ S.1 0 2 = 3 then 4
  else if (cl = 8 ∨ cl = 9) ∧ S.2 (cl * 4) 0 = true then 3 else 0
def rdT (B : Nat → Int) (n : Nat) : Nat → Nat → TwS → Except ER TwS
  | 0, _, S => .ok S
  | f + 1, p, S =>
    if tK B n p = 0 then .ok S
    else if cls B n p = 99 then .error (1, tF B n p)
    else if ahd (cls B n p) S ≠ 0 then .error (ahd (cls B n p) S, tF B n p)
    else match clz B n (cls B n p) (tT B n p) S with
      | .error e => .error e
      | .ok (S2, P2, p2) => rdT B n f (tT B n p2) (tel (cls B n p) P2 S2)
/-- a town of which nothing is told; j: what lies where nothing is read -/
def S0 (j : Nat → Nat → Int) : TwS := (fun c q => if c = 0 then (if q = 3 ∨ q = 4 then -1 else 0) else if c = 7 ∨ c = 13 then -1 else if c = 12 then 5 else if c = 2 ∨ c = 3 ∨ c = 4 ∨ c = 10 ∨ c = 11 ∨ c = 14 then j c q else 0, fun _ _ => false)
def town (B : Nat → Int) (n : Nat) (j : Nat → Nat → Int) : Except ER TwS := rdT B n 901 0 (S0 j)
