/-! The languages: a parser over codes cd and values vl of TOKENS, with what each text means (D: none is BROKEN) -/
abbrev tD : Type := (Nat → Int32) → Option Int64
/-- a fault at a token, or: the next token, the PARTS so far, the meaning -/
abbrev tR (α : Type) : Type := Except Nat (Nat × Nat × α)
def tBnd (v : Int64) : Option Int64 := if 1000000000 < v then none else if v < -1000000000 then none else some v
def tOp (c : Int32) (v w : Int64) : Option Int64 := if c = 143 then tBnd (v + w) else if c = 145 then tBnd (v - w) else if c = 142 then tBnd (v * w) else if w = 0 then none else if c = 147 then tBnd (v / w) else tBnd (v - v / w * w)
def tBin (c : Int32) (d e : tD) : tD := fun n => match d n with
  | none => none
  | some v => match e n with
    | none => none
    | some w => tOp c v w
def tCmpV (c : Int32) (v w : Int64) : Int64 := if c = 160 then (if v < w then 1 else 0) else if c = 162 then (if w < v then 1 else 0) else (if v = w then 1 else 0)
def tCmp (c : Int32) (d e : tD) : tD := fun n => match d n with
  | none => none
  | some v => match e n with
    | none => none
    | some w => some (tCmpV c v w)
def tAnd (d e : tD) : tD := fun n => match d n with
  | none => none
  | some v => if v = 0 then some 0 else e n
def tOr (d e : tD) : tD := fun n => match d n with
  | none => none
  | some v => if v = 0 then e n else some 1
def tNot (d : tD) : tD := fun n => match d n with
  | none => none
  | some v => some (if v = 0 then 1 else 0)
section PARSE
variable (cd vl : Nat → Int32) (ord : Bool) (nt : Nat)
def isVal (c : Int32) : Bool := if ord = true then (decide (c = 13) || decide (c = 14) || decide (¬ zLie c 18 20 = 0)) else decide (¬ zLie c 10 17 = 0)
/-- which place of the words a word is -/
def wIx (c : Int32) : Nat := if ord = true then (c - 18).toNatClampNeg else (c - 10).toNatClampNeg
def pPart (inner : Option (Nat → Nat → tR tD)) (i l : Nat) : tR tD :=
  if cd i = 191 then
    match inner with
    | none => .error i
    | some f => match f (i + 1) l with
      | .error e => .error e
      | .ok (j, l2, d) => if cd j = 193 then .ok (j + 1, l2, d) else .error j
  else if (cd i = 50 ∧ vl i ≤ 1000) ∨ isVal ord (cd i) = true then
    if l = 50 then .error i
    else if ord = true ∧ (cd i = 13 ∨ cd i = 14) then
      (if cd (i + 1) = 50 ∧ ¬ zLie (vl (i + 1)) 0 7 = 0 then .ok (i + 2, l + 1, fun n => some (n ((if cd i = 13 then 3 else 11) + (vl (i + 1)).toNatClampNeg)).toInt64) else .error (i + 1))
    else if cd i = 50 then .ok (i + 1, l + 1, fun _ => some (vl i).toInt64)
    else .ok (i + 1, l + 1, fun n => some (n (wIx ord (cd i))).toInt64)
  else .error i
/-- X {op X}, from the left -/
def pChain (ops : Int32 → Bool) (comb : Int32 → tD → tD → tD) (x : Nat → Nat → tR tD) : Nat → Nat → Nat → tD → tR tD
  | 0, j, l, d => .ok (j, l, d)
  | f + 1, j, l, d => if ops (cd j) = true then
      match x (j + 1) l with
      | .error e => .error e
      | .ok (j2, l2, d2) => pChain ops comb x f j2 l2 (comb (cd j) d d2)
    else .ok (j, l, d)
def pMany (ops : Int32 → Bool) (comb : Int32 → tD → tD → tD) (x : Nat → Nat → tR tD) (i l : Nat) : tR tD := match x i l with
  | .error e => .error e
  | .ok (j, l2, d) => pChain cd ops comb x 402 j l2 d
def opT (c : Int32) : Bool := decide (c = 142) || decide (c = 147) || decide (c = 137)
def opS (c : Int32) : Bool := decide (c = 143) || decide (c = 145)
def opA (c : Int32) : Bool := decide (c = 8)
def opO (c : Int32) : Bool := decide (c = 7)
def pSum : Nat → Nat → Nat → tR tD
  | 0 => pMany cd opS tBin (pMany cd opT tBin (pPart cd vl ord none))
  | m + 1 => pMany cd opS tBin (pMany cd opT tBin (pPart cd vl ord (some (pSum m))))
/-- "not" as often as it stands -/
def pNots : Nat → Nat → Bool → Nat × Bool
  | 0, i, b => (i, b)
  | f + 1, i, b => if cd i = 9 then pNots f (i + 1) (!b) else (i, b)
def isCmp (c : Int32) : Bool := decide (c = 160) || decide (c = 162) || decide (c = 161)
def pPos (inner : Option (Nat → Nat → tR tD)) (sum : Nat → Nat → tR tD) (i l : Nat) : tR tD :=
  if cd i = 140 then
    match inner with
    | none => .error i
    | some f => match f (i + 1) l with
      | .error e => .error e
      | .ok (j, l2, d) => if cd j = 141 then .ok (j + 1, l2, d) else .error j
  else match sum i l with
    | .error e => .error e
    | .ok (j, l2, d) => if isCmp (cd j) = true then
        (match sum (j + 1) l2 with
        | .error e => .error e
        | .ok (j2, l3, d2) => .ok (j2, l3, tCmp (cd j) d d2))
      else .error j
def pPlain (inner : Option (Nat → Nat → tR tD)) (sum : Nat → Nat → tR tD) (i l : Nat) : tR tD :=
  match pPos cd inner sum (pNots cd 402 i false).1 l with
  | .error e => .error e
  | .ok (j, l2, d) => .ok (j, l2, if (pNots cd 402 i false).2 = true then tNot d else d)
def pTest : Nat → Nat → Nat → tR tD
  | 0 => pMany cd opO (fun _ => tOr) (pMany cd opA (fun _ => tAnd) (pPlain cd none (pSum cd vl ord 0)))
  | m + 1 => pMany cd opO (fun _ => tOr) (pMany cd opA (fun _ => tAnd) (pPlain cd (some (pTest m)) (pSum cd vl ord (m + 1))))
end PARSE
