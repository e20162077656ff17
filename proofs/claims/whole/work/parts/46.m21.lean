/-! TESTS asked -/
def b64 (v : Int64) : Int32 := if v = 0 then 0 else 1
def evT (lv b : Int32) (dn : tD) (nv : Nat → Int32) (x b2 : Int32) : Prop := b2 = evB lv b dn nv ∧ (x = 0 ∨ x = 1) ∧ (lv = 1 → b = 0 → ∀ v, dn nv = some v → x = b64 v)
def ET (mi : vM) (D : Nat) (P : (Nat → Int32) → (Nat → Int32) → Bool → Nat → Nat → tR tD) : Prop :=
  ∀ (d : Nat) (S : vS) (I : vI) (L : vL) (Q : Int32 → vS → vI → vL → Prop) (r bs nt np : Nat) (cd vl : Nat → Int32) (o : Bool) (nv : Nat → Int32) (i l j l2 : Nat) (dn : tD) (lv b : Int32), MS S r → EV I r bs nt cd vl → ENV I r np o nv → i ≤ nt → P cd vl o i l = .ok (j, l2, dn) → (lv = 0 ∨ lv = 1) → (b = 0 ∨ b = 1) →
    (∀ x b2, evT lv b dn nv x b2 → Q x S (em I r (nI (bs + j)) b2) L) → Vc mi (d + D) 0 0 [.ref r, .int lv] S (em I r (nI (bs + i)) b) L (ViQ Q)
theorem EC.up {mi : vM} {D : Nat} {P : (Nat → Int32) → (Nat → Int32) → Bool → Nat → Nat → tR tD} (e : Nat) (h : EC mi D P) : EC mi (D + e) P := by
  intro d; have := h (d + e); rw [show d + (D + e) = d + e + D by omega]; exact this
section EVT
variable {lv b c x y b1 b2 : Int32} {d0 d1 : tD} {nv : Nat → Int32}
theorem evB_cmp (hlv : lv = 0 ∨ lv = 1) (hb : b = 0 ∨ b = 1) : evB lv (evB lv b d0 nv) d1 nv = evB lv b (tCmp c d0 d1) nv := by
  rcases hlv with rfl | rfl
  · rw [evB_0, evB_0, evB_0]
  · rcases hb with rfl | rfl
    · cases h0 : d0 nv with
      | none =>
        rw [(ev2 (dn := d0) rfl rfl h0).2, evB_1, (ev2 (dn := tCmp c d0 d1) rfl rfl (by simp [tCmp, h0])).2]
      | some v =>
        rw [(ev1 (dn := d0) rfl rfl h0).2]
        cases h1 : d1 nv with
        | none => rw [(ev2 (dn := d1) rfl rfl h1).2, (ev2 (dn := tCmp c d0 d1) rfl rfl (by simp [tCmp, h0, h1])).2]
        | some w => rw [(ev1 (dn := d1) rfl rfl h1).2, (ev1 (dn := tCmp c d0 d1) (v := tCmpV c v w) rfl rfl (by simp [tCmp, h0, h1])).2]
    · rw [evB_1, evB_1, evB_1]
theorem evT_cmp (hlv : lv = 0 ∨ lv = 1) (hb : b = 0 ∨ b = 1) (hx : x = 0 ∨ x = 1) (h : lv = 1 → evB lv (evB lv b d0 nv) d1 nv = 0 → x = b64 (tCmpV c (evV lv b d0 nv) (evV lv (evB lv b d0 nv) d1 nv))) : evT lv b (tCmp c d0 d1) nv x (evB lv (evB lv b d0 nv) d1 nv) := by
  refine ⟨evB_cmp hlv hb, hx, fun h1 h2 v hv => ?_⟩
  subst h1; subst h2
  cases h0 : d0 nv with
  | none => simp [tCmp, h0] at hv
  | some a =>
    cases h3 : d1 nv with
    | none => simp [tCmp, h0, h3] at hv
    | some w =>
      have hv2 : tCmpV c a w = v := by simpa [tCmp, h0, h3] using hv
      obtain ⟨p1, p2⟩ := ev1 (lv := 1) (b := 0) (dn := d0) (nv := nv) rfl rfl h0
      obtain ⟨q1, q2⟩ := ev1 (lv := 1) (b := 0) (dn := d1) (nv := nv) rfl rfl h3
      rw [p1, p2, q1, q2, hv2] at h
      exact h rfl rfl
theorem evT_not (h : evT lv b d0 nv x b2) {y : Int32} (hy : y = if x = 1 then 0 else 1) : evT lv b (tNot d0) nv y b2 := by
  obtain ⟨h1, h2, h3⟩ := h
  refine ⟨?_, by rw [hy]; split <;> simp, fun g1 g2 v hv => ?_⟩
  · rw [h1]; unfold evB
    cases h0 : d0 nv with
    | none => simp [tNot, h0]
    | some a => simp [tNot, h0]
  · cases h0 : d0 nv with
    | none => simp [tNot, h0] at hv
    | some a =>
      have hx := h3 g1 g2 a h0
      have hv2 : (if a = 0 then (1 : Int64) else 0) = v := by simpa [tNot, h0] using hv
      rw [← hv2, hy, hx]
      unfold b64
      by_cases ha : a = 0
      · simp [ha]
      · simp [ha]
theorem evT_and (hlv : lv = 0 ∨ lv = 1) (hb : b = 0 ∨ b = 1) (h : evT lv b d0 nv x b1) {lw : Int32} (hlw : lw = if lv = 0 then 0 else if x = 0 then 0 else 1) (h2 : evT lw b1 d1 nv y b2) {z : Int32} (hz : z = if x = 0 then 0 else if y = 0 then 0 else 1) : evT lv b (tAnd d0 d1) nv z b2 := by
  obtain ⟨e1, e2, e3⟩ := h
  obtain ⟨f1, f2, f3⟩ := h2
  have hz01 : z = 0 ∨ z = 1 := by rw [hz]; split; exact Or.inl rfl; split; exact Or.inl rfl; exact Or.inr rfl
  rcases hlv with rfl | rfl
  · have : lw = 0 := by rw [hlw]; rfl
    subst this
    refine ⟨by rw [f1, evB_0, e1, evB_0, evB_0], hz01, fun q => absurd q (by decide)⟩
  · rcases hb with rfl | rfl
    · cases h0 : d0 nv with
      | none =>
        have hA : tAnd d0 d1 nv = none := by simp [tAnd, h0]
        rw [(ev2 (dn := d0) rfl rfl h0).2] at e1
        subst e1
        refine ⟨by rw [f1, evB_1, (ev2 (dn := tAnd d0 d1) rfl rfl hA).2], hz01, fun _ _ v hv => by rw [hA] at hv; cases hv⟩
      | some a =>
        rw [(ev1 (dn := d0) rfl rfl h0).2] at e1
        subst e1
        have hx := e3 rfl rfl a h0
        by_cases ha : a = 0
        · have hA : tAnd d0 d1 nv = some 0 := by simp [tAnd, h0, ha]
          have hx0 : x = 0 := by rw [hx]; simp [b64, ha]
          subst hx0
          have : lw = 0 := by rw [hlw]; rfl
          subst this
          refine ⟨by rw [f1, evB_0, (ev1 (dn := tAnd d0 d1) rfl rfl hA).2], hz01, fun _ _ v hv => ?_⟩
          rw [hA] at hv; cases hv; rw [hz]; rfl
        · have hA : tAnd d0 d1 nv = d1 nv := by simp [tAnd, h0, ha]
          have hx1 : x = 1 := by rw [hx]; simp [b64, ha]
          subst hx1
          have : lw = 1 := by rw [hlw]; rfl
          subst this
          refine ⟨by rw [f1]; unfold evB; rw [hA], hz01, fun _ _ v hv => ?_⟩
          rw [hA] at hv
          have hy := f3 rfl rfl v hv
          rw [hz, if_neg (by decide), hy]
          unfold b64; split <;> rfl
    · rw [evB_1] at e1
      subst e1
      refine ⟨by rw [f1, evB_1, evB_1], hz01, fun _ q => absurd q (by decide)⟩
theorem evT_or (hlv : lv = 0 ∨ lv = 1) (hb : b = 0 ∨ b = 1) (h : evT lv b d0 nv x b1) {lw : Int32} (hlw : lw = if lv = 0 then 0 else if x = 0 then 1 else 0) (h2 : evT lw b1 d1 nv y b2) {z : Int32} (hz : z = if x = 0 then (if y = 0 then 0 else 1) else 1) : evT lv b (tOr d0 d1) nv z b2 := by
  obtain ⟨e1, e2, e3⟩ := h
  obtain ⟨f1, f2, f3⟩ := h2
  have hz01 : z = 0 ∨ z = 1 := by
    rw [hz]; split
    · split; exact Or.inl rfl; exact Or.inr rfl
    · exact Or.inr rfl
  rcases hlv with rfl | rfl
  · have : lw = 0 := by rw [hlw]; rfl
    subst this
    refine ⟨by rw [f1, evB_0, e1, evB_0, evB_0], hz01, fun q => absurd q (by decide)⟩
  · rcases hb with rfl | rfl
    · cases h0 : d0 nv with
      | none =>
        have hA : tOr d0 d1 nv = none := by simp [tOr, h0]
        rw [(ev2 (dn := d0) rfl rfl h0).2] at e1
        subst e1
        refine ⟨by rw [f1, evB_1, (ev2 (dn := tOr d0 d1) rfl rfl hA).2], hz01, fun _ _ v hv => by rw [hA] at hv; cases hv⟩
      | some a =>
        rw [(ev1 (dn := d0) rfl rfl h0).2] at e1
        subst e1
        have hx := e3 rfl rfl a h0
        by_cases ha : a = 0
        · have hA : tOr d0 d1 nv = d1 nv := by simp [tOr, h0, ha]
          have hx0 : x = 0 := by rw [hx]; simp [b64, ha]
          subst hx0
          have : lw = 1 := by rw [hlw]; rfl
          subst this
          refine ⟨by rw [f1]; unfold evB; rw [hA], hz01, fun _ _ v hv => ?_⟩
          rw [hA] at hv
          have hy := f3 rfl rfl v hv
          rw [hz, if_pos rfl, hy]
          unfold b64; split <;> rfl
        · have hA : tOr d0 d1 nv = some 1 := by simp [tOr, h0, ha]
          have hx1 : x = 1 := by rw [hx]; simp [b64, ha]
          subst hx1
          have : lw = 0 := by rw [hlw]; rfl
          subst this
          refine ⟨by rw [f1, evB_0, (ev1 (dn := tOr d0 d1) rfl rfl hA).2], hz01, fun _ _ v hv => ?_⟩
          rw [hA] at hv; cases hv; rw [hz]; rfl
    · rw [evB_1] at e1
      subst e1
      refine ⟨by rw [f1, evB_1, evB_1], hz01, fun _ q => absurd q (by decide)⟩
end EVT
section BT
variable {cd vl : Nat → Int32} {o : Bool} {nt : Nat}
theorem pPos_inv {inn : Option (Nat → Nat → tR tD)} {sum : Nat → Nat → tR tD} {i l j l2 : Nat} {d : tD} (h : pPos cd inn sum i l = .ok (j, l2, d)) :
    (cd i = 140 ∧ ∃ f j0, inn = some f ∧ f (i + 1) l = .ok (j0, l2, d) ∧ cd j0 = 141 ∧ j = j0 + 1) ∨
    (¬ cd i = 140 ∧ ∃ j0 l0 d0 d1, sum i l = .ok (j0, l0, d0) ∧ isCmp (cd j0) = true ∧ sum (j0 + 1) l0 = .ok (j, l2, d1) ∧ d = tCmp (cd j0) d0 d1) := by
  unfold pPos at h
  by_cases h1 : cd i = 140
  · rw [if_pos h1] at h
    refine Or.inl ⟨h1, ?_⟩
    cases inn with
    | none => cases h
    | some f =>
      simp only at h
      cases hf : f (i + 1) l with
      | error e => rw [hf] at h; cases h
      | ok q =>
        obtain ⟨j0, l0, d0⟩ := q
        rw [hf] at h
        simp only at h
        by_cases h3 : cd j0 = 141
        · rw [if_pos h3] at h; cases h; exact ⟨f, j0, rfl, hf, h3, rfl⟩
        · rw [if_neg h3] at h; cases h
  · rw [if_neg h1] at h
    refine Or.inr ⟨h1, ?_⟩
    cases hs : sum i l with
    | error e => rw [hs] at h; cases h
    | ok q =>
      obtain ⟨j0, l0, d0⟩ := q
      rw [hs] at h
      simp only at h
      by_cases h3 : isCmp (cd j0) = true
      · rw [if_pos h3] at h
        cases hs2 : sum (j0 + 1) l0 with
        | error e => rw [hs2] at h; cases h
        | ok q2 => obtain ⟨j1, l1, d1⟩ := q2; rw [hs2] at h; cases h; exact ⟨j0, l0, d0, d1, rfl, h3, hs2, rfl⟩
      · rw [if_neg h3] at h; cases h
theorem pPlain_inv {inn : Option (Nat → Nat → tR tD)} {sum : Nat → Nat → tR tD} {i l j l2 : Nat} {d : tD} (h : pPlain cd inn sum i l = .ok (j, l2, d)) : ∃ i0 par d0, pNots cd 402 i false = (i0, par) ∧ pPos cd inn sum i0 l = .ok (j, l2, d0) ∧ d = if par = true then tNot d0 else d0 := by
  unfold pPlain at h
  cases hp : pNots cd 402 i false with
  | mk i0 par =>
    rw [hp] at h
    simp only at h
    cases hq : pPos cd inn sum i0 l with
    | error e => rw [hq] at h; cases h
    | ok q => obtain ⟨j0, l0, d0⟩ := q; rw [hq] at h; cases h; exact ⟨i0, par, d0, rfl, hq, rfl⟩
theorem cmp_0 {c : Int32} (h : isCmp c = true) : ¬ c = 0 := by intro e; subst e; exact absurd h (by decide)
theorem Bd_pos {inn : Option (Nat → Nat → tR tD)} {sum : Nat → Nat → tR tD} (h0 : cd nt = 0) (hf : ∀ f, inn = some f → Bd nt f) (hs : Bd nt sum) : Bd nt (pPos cd inn sum) := by
  intro i l j l2 d hi h
  rcases pPos_inv h with ⟨h1, f, j0, h2, h3, h4, h5⟩ | ⟨h1, j0, l0, d0, d1, h2, h3, h4, h5⟩
  · have hlt := Bd_lt h0 hi (by rw [h1]; decide)
    have hb := hf f h2 (i + 1) l j0 l2 d hlt h3
    have hl2 := Bd_lt h0 hb.2 (by rw [h4]; decide)
    omega
  · have b1 := hs _ _ _ _ _ hi h2
    have hl2 := Bd_lt h0 b1.2 (cmp_0 h3)
    have b2 := hs _ _ _ _ _ hl2 h4
    omega
theorem nots_b (h0 : cd nt = 0) : ∀ f i b i0 par, i ≤ nt → pNots cd f i b = (i0, par) → i ≤ i0 ∧ i0 ≤ nt := by
  intro f
  induction f with
  | zero => intro i b i0 par hi h; cases h; exact ⟨Nat.le_refl _, hi⟩
  | succ f ih =>
    intro i b i0 par hi h
    rw [pNots] at h
    by_cases hc : cd i = 9
    · rw [if_pos hc] at h
      have hlt := Bd_lt h0 hi (by rw [hc]; decide)
      have := ih _ _ _ _ hlt h
      omega
    · rw [if_neg hc] at h; cases h; exact ⟨Nat.le_refl _, hi⟩
theorem Bd_plain {inn : Option (Nat → Nat → tR tD)} {sum : Nat → Nat → tR tD} (h0 : cd nt = 0) (hf : ∀ f, inn = some f → Bd nt f) (hs : Bd nt sum) : Bd nt (pPlain cd inn sum) := by
  intro i l j l2 d hi h
  obtain ⟨i0, par, d0, h1, h2, h3⟩ := pPlain_inv h
  have hb := nots_b h0 _ _ _ _ _ hi h1
  have := Bd_pos h0 hf hs _ _ _ _ _ hb.2 h2
  omega
theorem Bd_test (h0 : cd nt = 0) : ∀ m, Bd nt (pTest cd vl o m)
  | 0 => Bd_many h0 (by decide) (Bd_many h0 (by decide) (Bd_plain h0 (fun f h => by cases h) (Bd_sum h0 0)))
  | m + 1 => Bd_many h0 (by decide) (Bd_many h0 (by decide) (Bd_plain h0 (fun f h => by cases h; exact Bd_test h0 m) (Bd_sum h0 (m + 1))))
end BT
