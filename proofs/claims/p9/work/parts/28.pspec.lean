/-! THE GRAMMAR, in numbers: codes, place, whether it is one -/
abbrev PR3 : Type := List Int32 × Nat × Bool
def bt (B : Nat → Int32) (n p : Nat) : Int := if p < n then (B p).toInt else -1
def isDig (b : Int) : Bool := decide (48 ≤ b ∧ b ≤ 57)
/-- up to k digits more: the number, the place behind -/
def numP (B : Nat → Int32) (n : Nat) : Nat → Nat → Nat → Nat × Nat
  | 0, v, p => (v, p)
  | k + 1, v, p => if isDig (bt B n p) = true then numP B n k (10 * v + ((bt B n p).toNat - 48)) (p + 1) else (v, p)
def nam1 (u : Nat) : Int := if u = 0 then 99 else 102
def nam2 (u : Nat) : Int := if u = 0 then 115 else 99
def nameP (u : Nat) (b : Int) : Option Int32 := if b = 104 then some 0 else if b = nam1 u then some 1 else if b = nam2 u then some 2 else none
def signP (lv : Nat) (b : Int) : Bool := match lv with
  | 0 => decide (b = 124)
  | 1 => decide (b = 38)
  | 2 => decide (b = 60 ∨ b = 61 ∨ b = 62)
  | 3 => decide (b = 43 ∨ b = 45)
  | _ => decide (b = 42 ∨ b = 47 ∨ b = 37)
def PLoop (rec : Nat → PR3) (B : Nat → Int32) (n lv : Nat) : Nat → PR3 → PR3
  | 0, r => r
  | k + 1, r => if r.2.2 = true ∧ signP lv (bt B n r.2.1) = true then PLoop rec B n lv k (r.1 ++ (rec (r.2.1 + 1)).1 ++ [Int32.ofInt (bt B n r.2.1)], (rec (r.2.1 + 1)).2.1, (rec (r.2.1 + 1)).2.2) else r
def PQ (rec5 rec0 : Nat → PR3) (B : Nat → Int32) (n u op p : Nat) : PR3 :=
  if isDig (bt B n p) = true then ([nI (1000 + (numP B n 4 0 p).1)], (numP B n 4 0 p).2, true)
  else match nameP u (bt B n p) with
  | some k => ([k], p + 1, true)
  | none =>
    if bt B n p = 33 ∧ op < 5 then ((rec5 (p + 1)).1 ++ [33], (rec5 (p + 1)).2)
    else if bt B n p = 40 ∧ op < 5 then (if (rec0 (p + 1)).2.2 = true ∧ bt B n (rec0 (p + 1)).2.1 = 41 then ((rec0 (p + 1)).1, (rec0 (p + 1)).2.1 + 1, true) else ((rec0 (p + 1)).1, (rec0 (p + 1)).2.1, false))
    else ([], p, false)
/-- level lv (0 to 4: T, A, B, S, P; 5: Q) from place p on, op of ! and ( open; f: more than it can need -/
def PL (B : Nat → Int32) (n u : Nat) : Nat → Nat → Nat → Nat → PR3
  | 0, _, _, p => ([], p, false)
  | f + 1, lv, op, p => if lv < 5 then PLoop (PL B n u f (lv + 1) op) B n lv (if lv = 2 then 1 else 50) (PL B n u f (lv + 1) op p)
    else PQ (PL B n u f 5 (op + 1)) (PL B n u f 0 (op + 1)) B n u op p
