/-! The stack machine of compiled texts: pure -/
def arOp (o : Nat) (l r : Int64) : Option Int64 := if o = 5 then tBnd (l + r) else if o = 6 then tBnd (l - r) else if o = 7 then tBnd (l * r) else if o = 10 then some (if l < r then 1 else 0) else if o = 11 then some (if r < l then 1 else 0) else if o = 12 then some (if l = r then 1 else 0) else if r = 0 then none else if o = 8 then tBnd (l / r) else tBnd (l - l / r * r)
def mStep (cw : Nat → Nat × Nat) (nv : Nat → Int32) (kl a : Nat) (st : List Int64) : Option (Nat × List Int64) :=
  if (cw a).1 ≤ 1 then (if 40 ≤ st.length then none else if (cw a).1 = 1 then (if kl ≤ (cw a).2 then none else some (a + 1, (nv (cw a).2).toInt64 :: st)) else some (a + 1, (nI (cw a).2).toInt64 :: st))
  else match st with
    | [] => none
    | v :: r => if (cw a).1 ≤ 3 then (if (cw a).1 = 3 then (if v = 0 then some (a + 1, r) else some ((cw a).2, v :: r)) else (if v = 0 then some ((cw a).2, v :: r) else some (a + 1, r)))
      else if (cw a).1 = 4 then some (a + 1, (1 - v) :: r)
      else match r with
        | [] => none
        | w :: r2 => match arOp (cw a).1 w v with
          | none => none
          | some x => some (a + 1, x :: r2)
def mGo (cw : Nat → Nat × Nat) (nv : Nat → Int32) (kl to : Nat) : Nat → Nat → List Int64 → Option (List Int64)
  | 0, _, st => some st
  | f + 1, a, st => if a < to then (match mStep cw nv kl a st with
      | none => none
      | some q => mGo cw nv kl to f q.1 q.2) else some st
def evalP (cw : Nat → Nat × Nat) (nv : Nat → Int32) (kl a to : Nat) : Option Int64 := match mGo cw nv kl to 400 a [] with
  | some (v :: _) => some v
  | _ => none
/-- words a .. b - 1 leave what dn tells on the stack, with room for D values -/
def Cp (cw : Nat → Nat × Nat) (kl a b : Nat) (dn : tD) (D : Nat) : Prop := a < b ∧ ∀ (nv : Nat → Int32) (to f : Nat) (st : List Int64), b ≤ to → b ≤ a + f → st.length + D ≤ 40 →
  (dn nv = none → mGo cw nv kl to f a st = none) ∧ ∀ v, dn nv = some v → ∃ f2, f ≤ f2 + (b - a) ∧ f2 ≤ f ∧ mGo cw nv kl to f a st = mGo cw nv kl to f2 b (v :: st)
theorem mGo_s {cw : Nat → Nat × Nat} {nv : Nat → Int32} {kl to f a : Nat} {st : List Int64} (h : a < to) : mGo cw nv kl to (f + 1) a st = (match mStep cw nv kl a st with
    | none => none
    | some q => mGo cw nv kl to f q.1 q.2) := by rw [mGo, if_pos h]
theorem Cp.eval {cw : Nat → Nat × Nat} {kl a b D : Nat} {dn : tD} (h : Cp cw kl a b dn D) (hD : D ≤ 40) (hb : b ≤ 400) (nv : Nat → Int32) : evalP cw nv kl a b = dn nv := by
  obtain ⟨h0, h1⟩ := h
  obtain ⟨e1, e2⟩ := h1 nv b 400 [] (Nat.le_refl _) (by omega) (by simpa using hD)
  unfold evalP
  cases hq : dn nv with
  | none => rw [e1 hq]
  | some v =>
    obtain ⟨f2, _, _, e3⟩ := e2 v hq
    rw [e3]
    cases f2 with
    | zero => rfl
    | succ f2 => rw [mGo, if_neg (Nat.lt_irrefl _)]
theorem Cp.up {cw : Nat → Nat × Nat} {kl a b D D2 : Nat} {dn : tD} (h : Cp cw kl a b dn D) (hD : D ≤ D2) : Cp cw kl a b dn D2 := ⟨h.1, fun nv to f st h1 h2 h3 => h.2 nv to f st h1 h2 (by omega)⟩
theorem Cp_num {cw : Nat → Nat × Nat} {kl a k : Nat} (h : cw a = (0, k)) : Cp cw kl a (a + 1) (fun _ => some (nI k).toInt64) 1 := by
  refine ⟨Nat.lt_succ_self a, fun nv to f st h1 h2 h3 => ⟨fun z => (by cases z), fun v hv => ?_⟩⟩
  obtain ⟨f, rfl⟩ : ∃ g, f = g + 1 := ⟨f - 1, by omega⟩
  refine ⟨f, by omega, by omega, ?_⟩
  rw [mGo_s (by omega)]
  unfold mStep
  rw [h]
  simp only
  rw [if_pos (by decide), if_neg (by omega), if_neg (by decide)]
  cases hv
  rfl
theorem Cp_word {cw : Nat → Nat × Nat} {kl a k : Nat} (h : cw a = (1, k)) (hk : k < kl) : Cp cw kl a (a + 1) (fun n => some (n k).toInt64) 1 := by
  refine ⟨Nat.lt_succ_self a, fun nv to f st h1 h2 h3 => ⟨fun z => (by cases z), fun v hv => ?_⟩⟩
  obtain ⟨f, rfl⟩ : ∃ g, f = g + 1 := ⟨f - 1, by omega⟩
  refine ⟨f, by omega, by omega, ?_⟩
  rw [mGo_s (by omega)]
  unfold mStep
  rw [h]
  simp only
  rw [if_pos (by decide), if_neg (by omega), if_pos trivial, if_neg (by omega)]
  cases hv
  rfl
/-- two values, then an operation -/
theorem Cp_two {cw : Nat → Nat × Nat} {kl a b c o k D : Nat} {d0 d1 e : tD} (h0 : Cp cw kl a b d0 D) (h1 : Cp cw kl b c d1 D) (h : cw c = (o, k)) (ho : 5 ≤ o)
    (he : ∀ nv, e nv = match d0 nv with
      | none => none
      | some v => match d1 nv with
        | none => none
        | some w => arOp o v w) : Cp cw kl a (c + 1) e (D + 1) := by
  have g0 := h0.1
  have g1 := h1.1
  refine ⟨by omega, fun nv to f st q1 q2 q3 => ?_⟩
  obtain ⟨x1, x2⟩ := h0.2 nv to f st (by omega) (by omega) (by omega)
  cases hq : d0 nv with
  | none =>
    refine ⟨fun _ => x1 hq, fun v hv => ?_⟩
    rw [he, hq] at hv; cases hv
  | some v0 =>
    obtain ⟨f2, y1, y2, y3⟩ := x2 v0 hq
    obtain ⟨z1, z2⟩ := h1.2 nv to f2 (v0 :: st) (by omega) (by omega) (by simp only [List.length_cons]; omega)
    cases hr : d1 nv with
    | none =>
      refine ⟨fun _ => by rw [y3]; exact z1 hr, fun v hv => ?_⟩
      rw [he, hq, hr] at hv; cases hv
    | some v1 =>
      obtain ⟨f3, w1, w2, w3⟩ := z2 v1 hr
      obtain ⟨f4, rfl⟩ : ∃ g, f3 = g + 1 := ⟨f3 - 1, by omega⟩
      have step : mGo cw nv kl to (f4 + 1) c (v1 :: v0 :: st) = (match arOp o v0 v1 with
          | none => none
          | some x => mGo cw nv kl to f4 (c + 1) (x :: st)) := by
        rw [mGo_s (by omega)]
        unfold mStep
        rw [h]
        simp only
        rw [if_neg (by omega), if_neg (by omega), if_neg (by omega)]
        cases arOp o v0 v1 <;> rfl
      have ee : e nv = arOp o v0 v1 := by rw [he, hq, hr]
      refine ⟨fun z => ?_, fun v hv => ⟨f4, by omega, by omega, ?_⟩⟩
      · rw [y3, w3, step, ← ee, z]
      · rw [y3, w3, step, ← ee, hv]
def T01 (d : tD) : Prop := ∀ nv v, d nv = some v → v = 0 ∨ v = 1
theorem Cp_not {cw : Nat → Nat × Nat} {kl a b k D : Nat} {d : tD} (h0 : Cp cw kl a b d D) (h : cw b = (4, k)) (ht : T01 d) : Cp cw kl a (b + 1) (tNot d) D := by
  have g0 := h0.1
  refine ⟨by omega, fun nv to f st q1 q2 q3 => ?_⟩
  obtain ⟨x1, x2⟩ := h0.2 nv to f st (by omega) (by omega) (by omega)
  unfold tNot
  cases hq : d nv with
  | none => exact ⟨fun _ => x1 hq, fun v hv => by cases hv⟩
  | some v0 =>
    obtain ⟨f2, y1, y2, y3⟩ := x2 v0 hq
    obtain ⟨f4, rfl⟩ : ∃ g, f2 = g + 1 := ⟨f2 - 1, by omega⟩
    refine ⟨fun z => (by cases z), fun v hv => ⟨f4, by omega, by omega, ?_⟩⟩
    rw [y3, mGo_s (by omega)]
    unfold mStep
    rw [h]
    simp only
    rw [if_neg (by decide), if_neg (by decide), if_pos trivial]
    simp only
    have e : 1 - v0 = v := by
      cases hv
      rcases ht nv v0 hq with z | z <;> rw [z] <;> decide
    rw [e]
theorem Cp_and {cw : Nat → Nat × Nat} {kl a b c D : Nat} {d0 d1 : tD} (h0 : Cp cw kl a b d0 D) (h : cw b = (2, c)) (h1 : Cp cw kl (b + 1) c d1 D) (ht : T01 d0) : Cp cw kl a c (tAnd d0 d1) D := by
  have g0 := h0.1
  have g1 := h1.1
  refine ⟨by omega, fun nv to f st q1 q2 q3 => ?_⟩
  obtain ⟨x1, x2⟩ := h0.2 nv to f st (by omega) (by omega) (by omega)
  unfold tAnd
  cases hq : d0 nv with
  | none => exact ⟨fun _ => x1 hq, fun v hv => by cases hv⟩
  | some v0 =>
    obtain ⟨f2, y1, y2, y3⟩ := x2 v0 hq
    obtain ⟨f4, rfl⟩ : ∃ g, f2 = g + 1 := ⟨f2 - 1, by omega⟩
    have step : mGo cw nv kl to (f4 + 1) b (v0 :: st) = if v0 = 0 then mGo cw nv kl to f4 c (v0 :: st) else mGo cw nv kl to f4 (b + 1) st := by
      rw [mGo_s (by omega)]
      unfold mStep
      rw [h]
      simp only
      rw [if_neg (by decide), if_pos (by decide), if_neg (by decide)]
      by_cases z : v0 = 0
      · rw [if_pos z, if_pos z]
      · rw [if_neg z, if_neg z]
    simp only
    by_cases z : v0 = 0
    · rw [if_pos z] at step ⊢
      refine ⟨fun z => (by cases z), fun v hv => ⟨f4, by omega, by omega, ?_⟩⟩
      cases hv
      rw [y3, step, z]
    · rw [if_neg z] at step ⊢
      obtain ⟨z1, z2⟩ := h1.2 nv to f4 st (by omega) (by omega) (by omega)
      refine ⟨fun q => by rw [y3, step]; exact z1 q, fun v hv => ?_⟩
      obtain ⟨f5, w1, w2, w3⟩ := z2 v hv
      exact ⟨f5, by omega, by omega, by rw [y3, step]; exact w3⟩
theorem Cp_or {cw : Nat → Nat × Nat} {kl a b c D : Nat} {d0 d1 : tD} (h0 : Cp cw kl a b d0 D) (h : cw b = (3, c)) (h1 : Cp cw kl (b + 1) c d1 D) (ht : T01 d0) : Cp cw kl a c (tOr d0 d1) D := by
  have g0 := h0.1
  have g1 := h1.1
  refine ⟨by omega, fun nv to f st q1 q2 q3 => ?_⟩
  obtain ⟨x1, x2⟩ := h0.2 nv to f st (by omega) (by omega) (by omega)
  unfold tOr
  cases hq : d0 nv with
  | none => exact ⟨fun _ => x1 hq, fun v hv => by cases hv⟩
  | some v0 =>
    obtain ⟨f2, y1, y2, y3⟩ := x2 v0 hq
    obtain ⟨f4, rfl⟩ : ∃ g, f2 = g + 1 := ⟨f2 - 1, by omega⟩
    have step : mGo cw nv kl to (f4 + 1) b (v0 :: st) = if v0 = 0 then mGo cw nv kl to f4 (b + 1) st else mGo cw nv kl to f4 c (v0 :: st) := by
      rw [mGo_s (by omega)]
      unfold mStep
      rw [h]
      simp only
      rw [if_neg (by decide), if_pos (by decide), if_pos trivial]
      by_cases z : v0 = 0
      · rw [if_pos z, if_pos z]
      · rw [if_neg z, if_neg z]
    simp only
    by_cases z : v0 = 0
    · rw [if_pos z] at step ⊢
      obtain ⟨z1, z2⟩ := h1.2 nv to f4 st (by omega) (by omega) (by omega)
      refine ⟨fun q => by rw [y3, step]; exact z1 q, fun v hv => ?_⟩
      obtain ⟨f5, w1, w2, w3⟩ := z2 v hv
      exact ⟨f5, by omega, by omega, by rw [y3, step]; exact w3⟩
    · rw [if_neg z] at step ⊢
      refine ⟨fun z => (by cases z), fun v hv => ⟨f4, by omega, by omega, ?_⟩⟩
      cases hv
      rw [y3, step, (ht nv v0 hq).resolve_left z]
/-- the stack lies in a row, its bottom first -/
def StR (M : Nat → Int64) : List Int64 → Prop
  | [] => True
  | v :: r => M r.length = v ∧ StR M r
theorem StR_up {M : Nat → Int64} {j : Nat} {v : Int64} : ∀ {st : List Int64}, st.length ≤ j → StR M st → StR (upL M j v) st
  | [], _, _ => trivial
  | w :: r, h, g => ⟨by simp only [List.length_cons] at h; rw [upL_n (by omega)]; exact g.1, StR_up (by simp only [List.length_cons] at h; omega) g.2⟩
theorem up2_rl (L : vL) (a k : Nat) (v : Int64) : up2 L a k v a = upL (L a) k v := by
  funext x; unfold up2 upL
  by_cases h : x = k
  · rw [if_pos ⟨rfl, h⟩, if_pos h]
  · rw [if_neg (fun q => h q.2), if_neg h]
def CWk (f : Nat → Int32) (cw : Nat → Nat × Nat) (n : Nat) : Prop := ∀ i, i < n → f i = nI ((cw i).1 + 16 * (cw i).2) ∧ (cw i).1 ≤ 12 ∧ (cw i).2 ≤ 1000000
theorem cw_op {o r : Nat} (h : o ≤ 12) (h2 : r ≤ 1000000) : nI (o + 16 * r) &&& 15 = nI o := by
  rw [pk_andN (n := o + 16 * r) (by omega) 4 (by decide)]; congr 1; omega
theorem cw_ar {o r : Nat} (h : o ≤ 12) (h2 : r ≤ 1000000) : nI (o + 16 * r) >>> ((4 : Int32) &&& 31) = nI r := by
  rw [pk_shrN (n := o + 16 * r) (by omega) _ 4 (by decide)]; congr 1; omega
