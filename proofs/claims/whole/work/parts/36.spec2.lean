/-! CLAUSES and whole TEXTS: verb, first SUM, second SUM, TIMES, TEST -/
abbrev tC : Type := Int32 × tD × tD × Int32 × Option tD
def tD0 : tD := fun _ => some 0
def tD1 : tD := fun _ => some 1
section TEXTS
variable (cd vl : Nat → Int32) (o : Bool) (nt : Nat)
def pTail (v : Int32) (a b : tD) (n : Int32) (j l : Nat) : tR tC := if cd j = 6 then
    (match pTest cd vl o 8 (j + 1) l with
    | .error e => .error e
    | .ok (j2, l2, t) => .ok (j2, l2, (v, a, b, n, some t)))
  else .ok (j, l, (v, a, b, n, none))
def isVerb (c : Int32) : Bool := decide (c = 1) || decide (c = 2) || decide (c = 3) || decide (c = 4)
def pClause (i l : Nat) : tR tC := if isVerb (cd i) = true then
    (match pSum cd vl o 8 (i + 1) l with
    | .error e => .error e
    | .ok (j, l2, d) => pTail cd vl o (cd i) d tD0 1 j l2)
  else if cd i = 5 then pTail cd vl o 5 tD1 tD0 1 (i + 1) l else .error i
def pTwo (w : Int32) (i l : Nat) : tR (tD × tD) := match pSum cd vl o 8 i l with
  | .error e => .error e
  | .ok (j, l2, a) => if cd j = w then
      (match pSum cd vl o 8 (j + 1) l2 with
      | .error e => .error e
      | .ok (j2, l3, b) => .ok (j2, l3, (a, b)))
    else .error j
def pTimes (v : Int32) (a b : tD) (j l : Nat) : tR tC := if cd j = 27 then
    (if cd (j + 1) = 50 ∧ ¬ zLie (vl (j + 1)) 1 20 = 0 then pTail cd vl o v a b (vl (j + 1)) (j + 2) l else .error (j + 1))
  else pTail cd vl o v a b 1 j l
def pHead (i l : Nat) : tR (tD × tD) := if cd i = 21 then pTwo cd vl o 22 (i + 1) l
  else if cd i = 23 then pTwo cd vl o 24 (i + 1) l
  else if cd i = 25 ∨ cd i = 26 then
    (match pSum cd vl o 8 (i + 1) l with
    | .error e => .error e
    | .ok (j, l2, a) => .ok (j, l2, (a, tD0)))
  else if cd i = 16 then .ok (i + 1, l, (tD0, tD0)) else .error i
def pOrder (i l : Nat) : tR tC := match pHead cd vl o i l with
  | .error e => .error e
  | .ok (j, l2, ab) => pTimes cd vl o (cd i) ab.1 ab.2 j l2
def pOne (i l : Nat) : tR tC := if o = true then pOrder cd vl o i l else pClause cd vl o i l
def pRest : Nat → Nat → Nat → List tC → Except Nat (List tC)
  | m, j, l, acc => if cd j = 159 then
      (match m with
      | 0 => .error (j + 1)
      | m + 1 => match pOne cd vl o (j + 1) l with
        | .error e => .error e
        | .ok (j2, l2, c) => pRest m j2 l2 (acc ++ [c]))
    else if j < nt then .error j else .ok acc
def pText : Except Nat (List tC) := match pOne cd vl o 0 0 with
  | .error e => .error e
  | .ok (j, l, c) => pRest cd vl o nt 11 j l [c]
end TEXTS
/-- what a reading method without a depth does -/
def RC1 {α : Type} (mi : vM) (D : Nat) (av : List Value) (P : (Nat → Int32) → (Nat → Int32) → Bool → Nat → Nat → tR α) : Prop :=
  ∀ (d : Nat) (S : vS) (I : vI) (L : vL) (Q : vS → vI → vL → Prop) (r nt i l : Nat), MS S r → pOk I r nt → i ≤ nt → l ≤ 50 →
    (∀ j l2 dn, P (I (r + 9)) (I (r + 10)) (decide (¬ I r 8 = 0)) i l = .ok (j, l2, dn) → i ≤ j → j ≤ nt → l2 ≤ 50 → Q S (pm I r (nI j) (nI l2) (-1)) L) →
    (∀ f t l2, P (I (r + 9)) (I (r + 10)) (decide (¬ I r 8 = 0)) i l = .error f → f ≤ nt → Q S (pm I r t l2 (I (r + 11) f)) L) →
    Vc mi (d + D) 0 0 (.ref r :: av) S (pm I r (nI i) (nI l) (-1)) L (VvQ Q)
def PTail (m : vM) (D pc : Nat) (lv : Nat → List (Nat × Value)) (X : (Nat → Int32) → (Nat → Int32) → Bool → Nat → Nat → tR tC) : Prop :=
  ∀ (d : Nat) (S : vS) (I : vI) (L : vL) (Q : vS → vI → vL → Prop) (r nt j l : Nat), MS S r → pOk I r nt → j ≤ nt → l ≤ 50 →
    (∀ j2 l2 c, X (I (r + 9)) (I (r + 10)) (decide (¬ I r 8 = 0)) j l = .ok (j2, l2, c) → j ≤ j2 → j2 ≤ nt → l2 ≤ 50 → Q S (pm I r (nI j2) (nI l2) (-1)) L) →
    (∀ f t l2, X (I (r + 9)) (I (r + 10)) (decide (¬ I r 8 = 0)) j l = .error f → f ≤ nt → Q S (pm I r t l2 (I (r + 11) f)) L) →
    Vw m (d + D) 0 0 0 0 (VvQ Q) pc (lv r) [] S (pm I r (nI j) (nI l) (-1)) L
