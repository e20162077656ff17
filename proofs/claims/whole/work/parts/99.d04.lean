/-! The reader: words that were written, PARTS -/
def CWr (w : Nat → Int32) (cw : Nat → Nat × Nat) (a b : Nat) : Prop := ∀ x, a ≤ x → x < b → w x = nI ((cw x).1 + 16 * (cw x).2) ∧ (cw x).1 ≤ 12 ∧ (cw x).2 ≤ 1000000
/-- words a .. b - 1 are words, and compute dn -/
def WC2 (kl : Nat) (w : Nat → Int32) (a b : Nat) (dn : tD) (D : Nat) : Prop := a < b ∧ (∀ x, a ≤ x → x < b → ∃ o k, o ≤ 12 ∧ k ≤ 1000000 ∧ w x = nI (o + 16 * k)) ∧ ∀ cw, CWr w cw a b → Cp cw kl a b dn D
theorem CWr.at {w : Nat → Int32} {cw : Nat → Nat × Nat} {a b x o k : Nat} (h : CWr w cw a b) (h1 : a ≤ x) (h2 : x < b) (e : w x = nI (o + 16 * k)) (ho : o ≤ 12) (hk : k ≤ 1000000) : cw x = (o, k) := by
  obtain ⟨g1, g2, g3⟩ := h x h1 h2
  rw [e] at g1
  have := nI_inj (by omega) (by omega) g1
  exact Prod.ext (by show (cw x).1 = o; omega) (by show (cw x).2 = k; omega)
theorem CWr.sub {w : Nat → Int32} {cw : Nat → Nat × Nat} {a b a2 b2 : Nat} (h : CWr w cw a b) (h1 : a ≤ a2) (h2 : b2 ≤ b) : CWr w cw a2 b2 := fun x g1 g2 => h x (by omega) (by omega)
theorem WC2.of {kl a b D : Nat} {w w2 : Nat → Int32} {dn : tD} (h : WC2 kl w a b dn D) (e : ∀ x, a ≤ x → x < b → w2 x = w x) : WC2 kl w2 a b dn D :=
  ⟨h.1, fun x h1 h2 => by rw [e x h1 h2]; exact h.2.1 x h1 h2, fun cw hc => h.2.2 cw (fun x h1 h2 => by rw [← e x h1 h2]; exact hc x h1 h2)⟩
theorem WC2.up {kl a b D D2 : Nat} {w : Nat → Int32} {dn : tD} (h : WC2 kl w a b dn D) (hD : D ≤ D2) : WC2 kl w a b dn D2 := ⟨h.1, h.2.1, fun cw hc => (h.2.2 cw hc).up hD⟩
theorem WC2_num {kl a k : Nat} {w : Nat → Int32} (hk : k ≤ 1000000) (e : w a = nI (0 + 16 * k)) : WC2 kl w a (a + 1) (fun _ => some (nI k).toInt64) 1 :=
  ⟨Nat.lt_succ_self a, fun x h1 h2 => ⟨0, k, by omega, hk, by rw [show x = a by omega]; exact e⟩, fun cw hc => Cp_num (hc.at (Nat.le_refl _) (Nat.lt_succ_self _) e (by omega) hk)⟩
theorem WC2_word {kl a k : Nat} {w : Nat → Int32} (hk : k < kl) (hk2 : k ≤ 1000000) (e : w a = nI (1 + 16 * k)) : WC2 kl w a (a + 1) (fun n => some (n k).toInt64) 1 :=
  ⟨Nat.lt_succ_self a, fun x h1 h2 => ⟨1, k, by omega, hk2, by rw [show x = a by omega]; exact e⟩, fun cw hc => Cp_word (hc.at (Nat.le_refl _) (Nat.lt_succ_self _) e (by omega) hk2) hk⟩
theorem Cp_two2 {cw : Nat → Nat × Nat} {kl a b c o k D : Nat} {d0 d1 e : tD} (h0 : Cp cw kl a b d0 (D + 1)) (h1 : Cp cw kl b c d1 D) (h : cw c = (o, k)) (ho : 5 ≤ o)
    (he : ∀ nv, e nv = match d0 nv with
      | none => none
      | some v => match d1 nv with
        | none => none
        | some w => arOp o v w) : Cp cw kl a (c + 1) e (D + 1) := by
  have g0 := h0.1
  have g1 := h1.1
  refine ⟨by omega, fun nv to f st q1 q2 q3 => ?_⟩
  obtain ⟨x1, x2⟩ := h0.2 nv to f st (by omega) (by omega) (by omega)
  cases hq : d0 nv with
  | none =>
    refine ⟨fun _ => x1 hq, fun v hv => ?_⟩
    rw [he, hq] at hv; cases hv
  | some v0 =>
    obtain ⟨f2, y1, y2, y3⟩ := x2 v0 hq
    obtain ⟨z1, z2⟩ := h1.2 nv to f2 (v0 :: st) (by omega) (by omega) (by simp only [List.length_cons]; omega)
    cases hr : d1 nv with
    | none =>
      refine ⟨fun _ => by rw [y3]; exact z1 hr, fun v hv => ?_⟩
      rw [he, hq, hr] at hv; cases hv
    | some v1 =>
      obtain ⟨f3, w1, w2, w3⟩ := z2 v1 hr
      obtain ⟨f4, rfl⟩ : ∃ g, f3 = g + 1 := ⟨f3 - 1, by omega⟩
      have step : mGo cw nv kl to (f4 + 1) c (v1 :: v0 :: st) = (match arOp o v0 v1 with
          | none => none
          | some x => mGo cw nv kl to f4 (c + 1) (x :: st)) := by
        rw [mGo_s (by omega)]
        unfold mStep
        rw [h]
        simp only
        rw [if_neg (by omega), if_neg (by omega), if_neg (by omega)]
        cases arOp o v0 v1 <;> rfl
      have ee : e nv = arOp o v0 v1 := by rw [he, hq, hr]
      refine ⟨fun z => ?_, fun v hv => ⟨f4, by omega, by omega, ?_⟩⟩
      · rw [y3, w3, step, ← ee, z]
      · rw [y3, w3, step, ← ee, hv]
theorem okw_j {w : Nat → Int32} {a b c o k : Nat} (h0 : ∀ x, a ≤ x → x < b → ∃ o k, o ≤ 12 ∧ k ≤ 1000000 ∧ w x = nI (o + 16 * k)) (h1 : ∀ x, b ≤ x → x < c → ∃ o k, o ≤ 12 ∧ k ≤ 1000000 ∧ w x = nI (o + 16 * k)) (ho : o ≤ 12) (hk : k ≤ 1000000) (e : w c = nI (o + 16 * k)) : ∀ x, a ≤ x → x < c + 1 → ∃ o k, o ≤ 12 ∧ k ≤ 1000000 ∧ w x = nI (o + 16 * k) := fun x g1 g2 => by
  rcases Nat.lt_or_ge x b with z | z
  · exact h0 x g1 z
  · rcases Nat.lt_or_ge x c with z2 | z2
    · exact h1 x z z2
    · exact ⟨o, k, ho, hk, by rw [show x = c by omega]; exact e⟩
theorem WC2_two {kl a b c o D : Nat} {w : Nat → Int32} {d0 d1 e : tD} (h0 : WC2 kl w a b d0 (D + 1)) (h1 : WC2 kl w b c d1 D) (h : w c = nI (o + 16 * 0)) (ho : 5 ≤ o) (ho2 : o ≤ 12)
    (he : ∀ nv, e nv = match d0 nv with
      | none => none
      | some v => match d1 nv with
        | none => none
        | some w => arOp o v w) : WC2 kl w a (c + 1) e (D + 1) := by
  have g0 := h0.1
  have g1 := h1.1
  exact ⟨by omega, okw_j h0.2.1 h1.2.1 ho2 (by omega) h, fun cw hc => Cp_two2 (h0.2.2 cw (hc.sub (Nat.le_refl _) (by omega))) (h1.2.2 cw (hc.sub (by omega) (by omega))) (hc.at (by omega) (Nat.lt_succ_self _) h ho2 (by omega)) ho he⟩
theorem WC2_not {kl a b D : Nat} {w : Nat → Int32} {d : tD} (h0 : WC2 kl w a b d D) (h : w b = nI (4 + 16 * 0)) (ht : T01 d) : WC2 kl w a (b + 1) (tNot d) D := by
  have g0 := h0.1
  exact ⟨by omega, okw_j h0.2.1 (fun x a b => by omega) (by omega) (by omega) h, fun cw hc => Cp_not (h0.2.2 cw (hc.sub (Nat.le_refl _) (by omega))) (hc.at (by omega) (Nat.lt_succ_self _) h (by omega) (by omega)) ht⟩
theorem WC2_and {kl a b c D : Nat} {w : Nat → Int32} {d0 d1 : tD} (h0 : WC2 kl w a b d0 D) (h : w b = nI (2 + 16 * c)) (h1 : WC2 kl w (b + 1) c d1 D) (hc4 : c ≤ 400) (ht : T01 d0) : WC2 kl w a c (tAnd d0 d1) D := by
  have g0 := h0.1
  have g1 := h1.1
  refine ⟨by omega, fun x q1 q2 => ?_, fun cw hc => Cp_and (h0.2.2 cw (hc.sub (Nat.le_refl _) (by omega))) (hc.at (by omega) (by omega) h (by omega) (by omega)) (h1.2.2 cw (hc.sub (by omega) (Nat.le_refl _))) ht⟩
  rcases Nat.lt_or_ge x b with z | z
  · exact h0.2.1 x q1 z
  · rcases Nat.lt_or_ge x (b + 1) with z2 | z2
    · exact ⟨2, c, by omega, by omega, by rw [show x = b by omega]; exact h⟩
    · exact h1.2.1 x z2 q2
theorem WC2_or {kl a b c D : Nat} {w : Nat → Int32} {d0 d1 : tD} (h0 : WC2 kl w a b d0 D) (h : w b = nI (3 + 16 * c)) (h1 : WC2 kl w (b + 1) c d1 D) (hc4 : c ≤ 400) (ht : T01 d0) : WC2 kl w a c (tOr d0 d1) D := by
  have g0 := h0.1
  have g1 := h1.1
  refine ⟨by omega, fun x q1 q2 => ?_, fun cw hc => Cp_or (h0.2.2 cw (hc.sub (Nat.le_refl _) (by omega))) (hc.at (by omega) (by omega) h (by omega) (by omega)) (h1.2.2 cw (hc.sub (by omega) (Nat.le_refl _))) ht⟩
  rcases Nat.lt_or_ge x b with z | z
  · exact h0.2.1 x q1 z
  · rcases Nat.lt_or_ge x (b + 1) with z2 | z2
    · exact ⟨3, c, by omega, by omega, by rw [show x = b by omega]; exact h⟩
    · exact h1.2.1 x z2 q2
theorem T01_cmp {c : Int32} {d e : tD} : T01 (tCmp c d e) := by
  intro nv v h
  unfold tCmp at h
  cases hd : d nv with
  | none => rw [hd] at h; cases h
  | some x =>
    rw [hd] at h
    cases he : e nv with
    | none => rw [he] at h; cases h
    | some y =>
      rw [he] at h
      simp only [Option.some.injEq] at h
      subst h
      unfold tCmpV
      split
      · split
        · exact Or.inr rfl
        · exact Or.inl rfl
      · split
        · split
          · exact Or.inr rfl
          · exact Or.inl rfl
        · split
          · exact Or.inr rfl
          · exact Or.inl rfl
theorem T01_and {d e : tD} (h2 : T01 e) : T01 (tAnd d e) := by
  intro nv v h
  unfold tAnd at h
  cases hd : d nv with
  | none => rw [hd] at h; cases h
  | some x =>
    rw [hd] at h
    simp only at h
    split at h
    · cases h; exact Or.inl rfl
    · exact h2 nv v h
theorem T01_or {d e : tD} (h2 : T01 e) : T01 (tOr d e) := by
  intro nv v h
  unfold tOr at h
  cases hd : d nv with
  | none => rw [hd] at h; cases h
  | some x =>
    rw [hd] at h
    simp only at h
    split at h
    · exact h2 nv v h
    · cases h; exact Or.inr rfl
theorem T01_not {d : tD} : T01 (tNot d) := by
  intro nv v h
  unfold tNot at h
  cases hd : d nv with
  | none => rw [hd] at h; cases h
  | some x =>
    rw [hd] at h
    simp only [Option.some.injEq] at h
    split at h <;> subst h
    · exact Or.inr rfl
    · exact Or.inl rfl
def klO (o : Bool) : Nat := if o = true then 19 else 8
/-- what a reading method of the class does -/
def KR (mi : vM) (Dp : Nat) (av : List Value) (P : (Nat → Int32) → (Nat → Int32) → Bool → Nat → Nat → tR tD) (Dm : Nat) (tst : Bool) : Prop :=
  ∀ (d : Nat) (S : vS) (I : vI) (L : vL) (Q : Int32 → vS → vI → vL → Prop) (s tp : Nat) (u cd vl : Nat → Int32) (nt : Nat) (o : Bool) (i l c : Nat) (f : Int32) (w : Nat → Int32), RX S I s tp u cd vl nt o → i ≤ nt → l ≤ 50 → c ≤ i →
    (∀ j l2 dn c2 w2, P cd vl o i l = .ok (j, l2, dn) → i < j → j ≤ nt → l2 ≤ 50 → c2 + i ≤ c + j → (∀ x, x < c → w2 x = w x) → WC2 (klO o) w2 c c2 dn Dm → (tst = true → T01 dn) → Q 1 S (rm I s (nI j) (nI l2) (nI c2) f w2) L) →
    (∀ e t l2 c2 w2, P cd vl o i l = .error e → e ≤ nt → Q 0 S (rm I s t l2 c2 (I (s + 84) e) w2) L) →
    Vc mi (d + Dp) 0 0 (.ref (s + 74) :: av) S (rm I s (nI i) (nI l) (nI c) f w) L (ViQ Q)
theorem ls3 (c : Int32) : (∃ k, k < 8 ∧ c = nI (10 + k) ∧ lsP 3 c = nI k ∧ isVal false c = true ∧ wIx false c = k) ∨ (lsP 3 c = -1 ∧ isVal false c = false) := by
  by_cases h : zLie c 10 17 = 0
  · refine Or.inr ⟨?_, by unfold isVal; rw [if_neg (by decide), h]; rfl⟩
    have ne : ∀ k : Fin 8, ¬ nI (10 + k.1) = c := fun k q => by
      rw [← q] at h
      have all : ∀ k : Fin 8, ¬ zLie (nI (10 + k.1)) 10 17 = 0 := by decide
      exact all k h
    unfold lsP
    show lsX [10, 11, 12, 13, 14, 15, 16, 17] c 0 = -1
    simp only [lsX]
    rw [if_neg (show ¬ (10 : Int32) = c from ne 0), if_neg (show ¬ (11 : Int32) = c from ne 1), if_neg (show ¬ (12 : Int32) = c from ne 2), if_neg (show ¬ (13 : Int32) = c from ne 3), if_neg (show ¬ (14 : Int32) = c from ne 4), if_neg (show ¬ (15 : Int32) = c from ne 5), if_neg (show ¬ (16 : Int32) = c from ne 6), if_neg (show ¬ (17 : Int32) = c from ne 7)]
  · obtain ⟨j, h1, h2, h3⟩ := lie_m (x := c) (a := 10) (N := 17) (by decide) (by decide) h
    have all : ∀ k : Fin 8, lsP 3 (nI (10 + k.1)) = nI k.1 ∧ isVal false (nI (10 + k.1)) = true ∧ wIx false (nI (10 + k.1)) = k.1 := by decide
    obtain ⟨a1, a2, a3⟩ := all ⟨j - 10, by omega⟩
    simp only at a1 a2 a3
    rw [show 10 + (j - 10) = j by omega, ← h3] at a1 a2 a3
    exact Or.inl ⟨j - 10, by omega, by rw [show 10 + (j - 10) = j by omega]; exact h3, a1, a2, a3⟩
theorem ls2 (c : Int32) : (∃ k, k < 3 ∧ c = nI (18 + k) ∧ lsP 2 c = nI k ∧ isVal true c = true ∧ wIx true c = k) ∨ (c = 13 ∧ lsP 2 c = 3) ∨ (c = 14 ∧ lsP 2 c = 4) ∨ (lsP 2 c = -1 ∧ isVal true c = false ∧ ¬ c = 13 ∧ ¬ c = 14) := by
  by_cases h13 : c = 13
  · subst h13; exact Or.inr (Or.inl ⟨rfl, by decide⟩)
  by_cases h14 : c = 14
  · subst h14; exact Or.inr (Or.inr (Or.inl ⟨rfl, by decide⟩))
  by_cases h : zLie c 18 20 = 0
  · refine Or.inr (Or.inr (Or.inr ⟨?_, by unfold isVal; rw [if_pos rfl, decide_eq_false h13, decide_eq_false h14, h]; rfl, h13, h14⟩))
    have ne : ∀ k : Fin 3, ¬ nI (18 + k.1) = c := fun k q => by
      rw [← q] at h
      have all : ∀ k : Fin 3, ¬ zLie (nI (18 + k.1)) 18 20 = 0 := by decide
      exact all k h
    unfold lsP
    show lsX [18, 19, 20, 13, 14] c 0 = -1
    simp only [lsX]
    rw [if_neg (show ¬ (18 : Int32) = c from ne 0), if_neg (show ¬ (19 : Int32) = c from ne 1), if_neg (show ¬ (20 : Int32) = c from ne 2), if_neg (fun q => h13 q.symm), if_neg (fun q => h14 q.symm)]
  · obtain ⟨j, h1, h2, h3⟩ := lie_m (x := c) (a := 18) (N := 20) (by decide) (by decide) h
    have all : ∀ k : Fin 3, lsP 2 (nI (18 + k.1)) = nI k.1 ∧ isVal true (nI (18 + k.1)) = true ∧ wIx true (nI (18 + k.1)) = k.1 := by decide
    obtain ⟨a1, a2, a3⟩ := all ⟨j - 18, by omega⟩
    simp only at a1 a2 a3
    rw [show 18 + (j - 18) = j by omega, ← h3] at a1 a2 a3
    exact Or.inl ⟨j - 18, by omega, by rw [show 18 + (j - 18) = j by omega]; exact h3, a1, a2, a3⟩
theorem lie07 {v : Nat} (hv : v ≤ 1000) : ¬ zLie (nI v) 0 7 = 0 ↔ v < 8 := by
  rw [zLie_iff, nI_ti (by omega)]
  show (0 : Int) ≤ _ ∧ _ ≤ (7 : Int) ↔ _
  omega
theorem lie07_big {x : Int32} (h : 1000 < x.toInt) : zLie x 0 7 = 0 := by
  rcases zLie_01 x 0 7 with z | z
  · exact z
  · have := (zLie_iff x 0 7).mp (by rw [z]; decide)
    have e : (7 : Int32).toInt = 7 := rfl
    omega

theorem k_readMeasured {d : Nat} {S : vS} {I : vI} {L : vL} {Q : Int32 → vS → vI → vL → Prop} {s tp nt i : Nat} {u cd vl : Nat → Int32} {o : Bool} {l f : Int32} {w : Nat → Int32} {wd n : Nat} (hx : RX S I s tp u cd vl nt o) (hi : i ≤ nt) (hn : n < 400) (hwd : wd = 3 ∨ wd = 4) (h1 : ∀ v, cd i = 50 → vl i = nI v → v < 8 → Q 1 S (rm I s (nI (i + 1)) l (nI (n + 1)) f (upK w n (nI (1 + 16 * ((if wd = 3 then 3 else 11) + v))))) L) (h0 : ¬ (cd i = 50 ∧ ¬ zLie (vl i) 0 7 = 0) → Q 0 S (rm I s (nI i) l (nI n) (I (s + 84) i) w) L) : Vc mX5_readMeasured (d + 1) 0 0 [.ref (s + 74), .int (nI wd)] S (rm I s (nI i) l (nI n) f w) L (ViQ Q) := by
  refine Vc.of rfl (Nat.le_of_ble_eq_true rfl) ?_
  have B := bs_X5_readMeasured
  show Vw mX5_readMeasured (d + 1) 0 0 0 0 (ViQ Q) 0 [(0, .ref (s + 74)), (1, .int (nI wd))] [] S (rm I s (nI i) l (nI n) f w) L
  have h4 := hx.n4
  rcases hx.num hi with ⟨n1, n2⟩ | ⟨n1, v, v1, v2, n2⟩ | ⟨n1, n3, n2⟩
  · refine Vw.aload_n (de_aload_0 (B 0 _ rfl)) 0 rfl (n := 1) rfl ?_
    refine Vw.getR (de_getfield (B 1 _ rfl) (B 2 _ rfl) (B 3 _ rfl)) fl_X5_30 rfl hx.rd.k hx.rd.f4 (n := 4) rfl ?_
    refine Vw.aload_n (de_aload_0 (B 4 _ rfl)) 0 rfl (n := 5) rfl ?_
    refine Vw.getI (de_getfield (B 5 _ rfl) (B 6 _ rfl) (B 7 _ rfl)) fl_X5_48 rfl hx.rd.k (n := 8) rfl ?_
    rw [rm_8]
    refine Vw.iald (de_iaload (B 8 _ rfl)) hx.rd.r4 (vIx_n (k := i) rfl (by omega)) (n := 9) rfl ?_
    rw [rm_nm, n2]
    refine Vw.istore_n (lv2 := [(0, _), (1, _), (2, _)]) (de_istore_2 (B 9 _ rfl)) rfl (by decide) [1, 2, 0] rfl (n := 10) rfl ?_
    refine Vw.iload_n (de_iload_2 (B 10 _ rfl)) 2 rfl (n := 11) rfl ?_
    refine Vw.if_lt (tgt := 20) (n := 14) (de_if_lt (B 11 _ rfl) (B 12 _ rfl) (B 13 _ rfl)) rfl rfl (fun c_11 => ?_) (fun c_11 => ?_)
    · refine Vw.aload_n (de_aload_0 (B 20 _ rfl)) 0 rfl (n := 21) rfl ?_
      refine Vw.ivi0 (mi' := mX5_fail) (de_invokevirtual (B 21 _ rfl) (B 22 _ rfl) (B 23 _ rfl)) ml_X5_67 mv_X5_fail hx.rd.k (Nat.le_of_ble_eq_true rfl) (n := 24) rfl (k_fail hx hi ?_)
      exact Vw.zret (de_ireturn (B 24 _ rfl)) rfl rfl ⟨_, rfl, (h0 (fun q => n1 q.1))⟩
    exact absurd (by decide) c_11
  · refine Vw.aload_n (de_aload_0 (B 0 _ rfl)) 0 rfl (n := 1) rfl ?_
    refine Vw.getR (de_getfield (B 1 _ rfl) (B 2 _ rfl) (B 3 _ rfl)) fl_X5_30 rfl hx.rd.k hx.rd.f4 (n := 4) rfl ?_
    refine Vw.aload_n (de_aload_0 (B 4 _ rfl)) 0 rfl (n := 5) rfl ?_
    refine Vw.getI (de_getfield (B 5 _ rfl) (B 6 _ rfl) (B 7 _ rfl)) fl_X5_48 rfl hx.rd.k (n := 8) rfl ?_
    rw [rm_8]
    refine Vw.iald (de_iaload (B 8 _ rfl)) hx.rd.r4 (vIx_n (k := i) rfl (by omega)) (n := 9) rfl ?_
    rw [rm_nm, n2]
    refine Vw.istore_n (lv2 := [(0, _), (1, _), (2, _)]) (de_istore_2 (B 9 _ rfl)) rfl (by decide) [1, 2, 0] rfl (n := 10) rfl ?_
    refine Vw.iload_n (de_iload_2 (B 10 _ rfl)) 2 rfl (n := 11) rfl ?_
    refine Vw.if_lt (tgt := 20) (n := 14) (de_if_lt (B 11 _ rfl) (B 12 _ rfl) (B 13 _ rfl)) rfl rfl (fun c_11 => ?_) (fun c_11 => ?_)
    · exact absurd c_11 (nn_nI (by omega))
    refine Vw.iload_n (de_iload_2 (B 14 _ rfl)) 2 rfl (n := 15) rfl ?_
    refine Vw.bipush (v := 8) (de_bipush (B 15 _ rfl) (B 16 _ rfl)) rfl (n := 17) rfl ?_
    refine Vw.icmp_lt (tgt := 25) (n := 20) (de_icmp_lt (B 17 _ rfl) (B 18 _ rfl) (B 19 _ rfl)) rfl rfl (fun c_17 => ?_) (fun c_17 => ?_)
    · have v8 : v < 8 := by rcases Nat.lt_or_ge v 8 with z | z; exact z; exact absurd (i32_lt.mp c_17) (by rw [nI_ti (by omega)]; show ¬ (v : Int) < 8; omega)
      refine Vw.aload_n (de_aload_0 (B 25 _ rfl)) 0 rfl (n := 26) rfl ?_
      refine Vw.dup (de_dup (B 26 _ rfl)) rfl (n := 27) rfl ?_
      refine Vw.getI (de_getfield (B 27 _ rfl) (B 28 _ rfl) (B 29 _ rfl)) fl_X5_48 rfl hx.rd.k (n := 30) rfl ?_
      rw [rm_8]
      refine Vw.iconst (v := 1) (de_iconst_1 (B 30 _ rfl)) rfl (n := 31) rfl ?_
      refine Vw.iadd (de_iadd (B 31 _ rfl)) (n := 32) rfl ?_
      rw [nI_1]
      refine Vw.putI (de_putfield (B 32 _ rfl) (B 33 _ rfl) (B 34 _ rfl)) fl_X5_48 hx.rd.k rfl rfl (n := 35) rfl ?_
      rw [up_8]
      refine Vw.aload_n (de_aload_0 (B 35 _ rfl)) 0 rfl (n := 36) rfl ?_
      refine Vw.iconst (v := 1) (de_iconst_1 (B 36 _ rfl)) rfl (n := 37) rfl ?_
      refine Vw.iload_n (de_iload_1 (B 37 _ rfl)) 1 rfl (n := 38) rfl ?_
      refine Vw.iconst (v := 3) (de_iconst_3 (B 38 _ rfl)) rfl (n := 39) rfl ?_
      refine Vw.icmp_ne (tgt := 46) (n := 42) (de_icmp_ne (B 39 _ rfl) (B 40 _ rfl) (B 41 _ rfl)) rfl rfl (fun c_39 => ?_) (fun c_39 => ?_)
      · refine Vw.bipush (v := 11) (de_bipush (B 46 _ rfl) (B 47 _ rfl)) rfl (n := 48) rfl ?_
        refine Vw.iload_n (de_iload_2 (B 48 _ rfl)) 2 rfl (n := 49) rfl ?_
        refine Vw.iadd (de_iadd (B 49 _ rfl)) (n := 50) rfl ?_
        first
        | (have w3 : wd = 3 := nI_inj (by omega) (by decide) c_39
           have g := h1 v n1 v2 v8
           rw [if_pos w3] at g
           rw [show (3 : Int32) + nI v = nI (3 + v) from (nI_A 3 v).symm]
           refine Vw.ivi2 (mi' := mX5_emit) (de_invokevirtual (B 50 _ rfl) (B 51 _ rfl) (B 52 _ rfl)) ml_X5_143 mv_X5_emit hx.rd.k (Nat.le_of_ble_eq_true rfl) (n := 53) rfl (k_emit (op := 1) (k := 3 + v) hx (by omega) (by omega) hn ?_)
           refine Vw.pop (de_pop (B 53 _ rfl)) rfl (n := 54) rfl ?_
           refine Vw.iconst (v := 1) (de_iconst_1 (B 54 _ rfl)) rfl (n := 55) rfl ?_
           exact Vw.zret (de_ireturn (B 55 _ rfl)) rfl rfl ⟨_, rfl, g⟩)
        | (have w3 : ¬ wd = 3 := fun z => c_39 (by rw [z]; rfl)
           have g := h1 v n1 v2 v8
           rw [if_neg w3] at g
           rw [show (11 : Int32) + nI v = nI (11 + v) from (nI_A 11 v).symm]
           refine Vw.ivi2 (mi' := mX5_emit) (de_invokevirtual (B 50 _ rfl) (B 51 _ rfl) (B 52 _ rfl)) ml_X5_143 mv_X5_emit hx.rd.k (Nat.le_of_ble_eq_true rfl) (n := 53) rfl (k_emit (op := 1) (k := 11 + v) hx (by omega) (by omega) hn ?_)
           refine Vw.pop (de_pop (B 53 _ rfl)) rfl (n := 54) rfl ?_
           refine Vw.iconst (v := 1) (de_iconst_1 (B 54 _ rfl)) rfl (n := 55) rfl ?_
           exact Vw.zret (de_ireturn (B 55 _ rfl)) rfl rfl ⟨_, rfl, g⟩)
      refine Vw.iconst (v := 3) (de_iconst_3 (B 42 _ rfl)) rfl (n := 43) rfl ?_
      refine Vw.goto_ (n := 48) (de_goto_ (B 43 _ rfl) (B 44 _ rfl) (B 45 _ rfl)) rfl ?_
      refine Vw.iload_n (de_iload_2 (B 48 _ rfl)) 2 rfl (n := 49) rfl ?_
      refine Vw.iadd (de_iadd (B 49 _ rfl)) (n := 50) rfl ?_
      first
      | (have w3 : wd = 3 := nI_inj (by omega) (by decide) c_39
         have g := h1 v n1 v2 v8
         rw [if_pos w3] at g
         rw [show (3 : Int32) + nI v = nI (3 + v) from (nI_A 3 v).symm]
         refine Vw.ivi2 (mi' := mX5_emit) (de_invokevirtual (B 50 _ rfl) (B 51 _ rfl) (B 52 _ rfl)) ml_X5_143 mv_X5_emit hx.rd.k (Nat.le_of_ble_eq_true rfl) (n := 53) rfl (k_emit (op := 1) (k := 3 + v) hx (by omega) (by omega) hn ?_)
         refine Vw.pop (de_pop (B 53 _ rfl)) rfl (n := 54) rfl ?_
         refine Vw.iconst (v := 1) (de_iconst_1 (B 54 _ rfl)) rfl (n := 55) rfl ?_
         exact Vw.zret (de_ireturn (B 55 _ rfl)) rfl rfl ⟨_, rfl, g⟩)
      | (have w3 : ¬ wd = 3 := fun z => c_39 (by rw [z]; rfl)
         have g := h1 v n1 v2 v8
         rw [if_neg w3] at g
         rw [show (11 : Int32) + nI v = nI (11 + v) from (nI_A 11 v).symm]
         refine Vw.ivi2 (mi' := mX5_emit) (de_invokevirtual (B 50 _ rfl) (B 51 _ rfl) (B 52 _ rfl)) ml_X5_143 mv_X5_emit hx.rd.k (Nat.le_of_ble_eq_true rfl) (n := 53) rfl (k_emit (op := 1) (k := 11 + v) hx (by omega) (by omega) hn ?_)
         refine Vw.pop (de_pop (B 53 _ rfl)) rfl (n := 54) rfl ?_
         refine Vw.iconst (v := 1) (de_iconst_1 (B 54 _ rfl)) rfl (n := 55) rfl ?_
         exact Vw.zret (de_ireturn (B 55 _ rfl)) rfl rfl ⟨_, rfl, g⟩)
    refine Vw.aload_n (de_aload_0 (B 20 _ rfl)) 0 rfl (n := 21) rfl ?_
    refine Vw.ivi0 (mi' := mX5_fail) (de_invokevirtual (B 21 _ rfl) (B 22 _ rfl) (B 23 _ rfl)) ml_X5_67 mv_X5_fail hx.rd.k (Nat.le_of_ble_eq_true rfl) (n := 24) rfl (k_fail hx hi ?_)
    exact Vw.zret (de_ireturn (B 24 _ rfl)) rfl rfl ⟨_, rfl, (h0 (fun q => q.2 (by rcases zLie_01 (vl i) 0 7 with z | z; exact z; rw [v2] at z ⊢; exact absurd ((lie07 v1).mp (by rw [z]; decide)) (fun y => c_17 (i32_lt.mpr (by rw [nI_ti (by omega)]; show (v : Int) < 8; omega))))))⟩
  · refine Vw.aload_n (de_aload_0 (B 0 _ rfl)) 0 rfl (n := 1) rfl ?_
    refine Vw.getR (de_getfield (B 1 _ rfl) (B 2 _ rfl) (B 3 _ rfl)) fl_X5_30 rfl hx.rd.k hx.rd.f4 (n := 4) rfl ?_
    refine Vw.aload_n (de_aload_0 (B 4 _ rfl)) 0 rfl (n := 5) rfl ?_
    refine Vw.getI (de_getfield (B 5 _ rfl) (B 6 _ rfl) (B 7 _ rfl)) fl_X5_48 rfl hx.rd.k (n := 8) rfl ?_
    rw [rm_8]
    refine Vw.iald (de_iaload (B 8 _ rfl)) hx.rd.r4 (vIx_n (k := i) rfl (by omega)) (n := 9) rfl ?_
    rw [rm_nm, n2]
    refine Vw.istore_n (lv2 := [(0, _), (1, _), (2, _)]) (de_istore_2 (B 9 _ rfl)) rfl (by decide) [1, 2, 0] rfl (n := 10) rfl ?_
    refine Vw.iload_n (de_iload_2 (B 10 _ rfl)) 2 rfl (n := 11) rfl ?_
    refine Vw.if_lt (tgt := 20) (n := 14) (de_if_lt (B 11 _ rfl) (B 12 _ rfl) (B 13 _ rfl)) rfl rfl (fun c_11 => ?_) (fun c_11 => ?_)
    · exact absurd c_11 (by decide)
    refine Vw.iload_n (de_iload_2 (B 14 _ rfl)) 2 rfl (n := 15) rfl ?_
    refine Vw.bipush (v := 8) (de_bipush (B 15 _ rfl) (B 16 _ rfl)) rfl (n := 17) rfl ?_
    refine Vw.icmp_lt (tgt := 25) (n := 20) (de_icmp_lt (B 17 _ rfl) (B 18 _ rfl) (B 19 _ rfl)) rfl rfl (fun c_17 => ?_) (fun c_17 => ?_)
    · exact absurd c_17 (by decide)
    refine Vw.aload_n (de_aload_0 (B 20 _ rfl)) 0 rfl (n := 21) rfl ?_
    refine Vw.ivi0 (mi' := mX5_fail) (de_invokevirtual (B 21 _ rfl) (B 22 _ rfl) (B 23 _ rfl)) ml_X5_67 mv_X5_fail hx.rd.k (Nat.le_of_ble_eq_true rfl) (n := 24) rfl (k_fail hx hi ?_)
    exact Vw.zret (de_ireturn (B 24 _ rfl)) rfl rfl ⟨_, rfl, (h0 (fun q => q.2 (lie07_big n3)))⟩
