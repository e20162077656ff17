/-! The reference's asking: go and broken change -/
def em (I : vI) (r : Nat) (g b : Int32) : vI := fun a k => if a = r ∧ k = 20 then g else if a = r ∧ k = 22 then b else I a k
theorem em_g {I : vI} {r : Nat} {g b : Int32} : em I r g b r 20 = g := by simp [em]
theorem em_b {I : vI} {r : Nat} {g b : Int32} : em I r g b r 22 = b := by simp [em]
theorem em_o {I : vI} {r : Nat} {g b : Int32} {a k : Nat} (h : a ≠ r) : em I r g b a k = I a k := by simp [em, h]
theorem em_k {I : vI} {r : Nat} {g b : Int32} {a k : Nat} (h1 : k ≠ 20) (h2 : k ≠ 22) : em I r g b a k = I a k := by simp [em, h1, h2]
theorem em_ug {I : vI} {r : Nat} {g b x : Int32} : up2 (em I r g b) r 20 x = em I r x b := by
  funext a k; simp only [up2, em]; split <;> simp_all
theorem em_ub {I : vI} {r : Nat} {g b x : Int32} : up2 (em I r g b) r 22 x = em I r g x := by
  funext a k; simp only [up2, em]
  by_cases h1 : a = r ∧ k = 22
  · obtain ⟨rfl, rfl⟩ := h1; simp
  · simp [h1]
theorem em_of {I : vI} {r : Nat} {g b : Int32} : up2 (up2 I r 20 g) r 22 b = em I r g b := by
  funext a k; simp only [up2, em]
  by_cases h1 : a = r ∧ k = 22
  · obtain ⟨rfl, rfl⟩ := h1; simp
  · simp [h1]
theorem em_inc {I : vI} {r bs i : Nat} {b : Int32} : up2 (em I r (nI (bs + i)) b) r 20 (nI (bs + i) + 1) = em I r (nI (bs + (i + 1))) b := by rw [em_ug, nI_1]; rfl
theorem ix_m1 (a b : Nat) : nI a + nI (b + 1) - 1 = nI (a + b) := by rw [nI_add, show a + (b + 1) = (a + b) + 1 by omega, nI_pred]
/-- the tokens that lie in kept from bs on -/
def EV (I : vI) (r bs nt : Nat) (cd vl : Nat → Int32) : Prop := (∀ i, i < nt → I (r + 2) (153 + bs + i) = cd i ∧ I (r + 2) (2953 + bs + i) = vl i) ∧ cd nt = 0 ∧ nt ≤ 400 ∧ bs ≤ 2400 ∧ I r 21 = nI (bs + nt)
/-- the words -/
def ENV (I : vI) (r np : Nat) (o : Bool) (nv : Nat → Int32) : Prop := I r 23 = (if o = true then 1 else 0) ∧ (o = false → ∀ x, x < 8 → nv x = I (r + 12) x) ∧ (o = true → (∀ x, x < 3 → nv x = I (r + 13) x) ∧ ∀ q, q < 8 → nv (3 + q) = (if q < np then I (r + 2) (4 * q + 1) else -1) ∧ nv (11 + q) = (if q < np then I (r + 2) (4 * q + 2) else -1)) ∧ I (r + 2) 142 = nI np ∧ np ≤ 8
def evV (lv b : Int32) (dn : tD) (nv : Nat → Int32) : Int64 := if lv = 1 ∧ b = 0 then (dn nv).getD 0 else 0
def evB (lv b : Int32) (dn : tD) (nv : Nat → Int32) : Int32 := if lv = 1 ∧ b = 0 ∧ dn nv = none then 1 else b
theorem EV.lt {I : vI} {r bs nt : Nat} {cd vl : Nat → Int32} {i : Nat} (h : EV I r bs nt cd vl) (hi : i ≤ nt) (hc : ¬ cd i = 0) : i < nt := by
  rcases Nat.lt_or_ge i nt with q | q
  · exact q
  · exact absurd (by rw [show i = nt by omega]; exact h.2.1) hc
/-- what an asking method answers, where the parser has passed -/
def EC (mi : vM) (D : Nat) (P : (Nat → Int32) → (Nat → Int32) → Bool → Nat → Nat → tR tD) : Prop :=
  ∀ (d : Nat) (S : vS) (I : vI) (L : vL) (Q : Int64 → vS → vI → vL → Prop) (r bs nt np : Nat) (cd vl : Nat → Int32) (o : Bool) (nv : Nat → Int32) (i l j l2 : Nat) (dn : tD) (lv b : Int32), MS S r → EV I r bs nt cd vl → ENV I r np o nv → i ≤ nt → P cd vl o i l = .ok (j, l2, dn) → (lv = 0 ∨ lv = 1) → (b = 0 ∨ b = 1) →
    Q (evV lv b dn nv) S (em I r (nI (bs + j)) (evB lv b dn nv)) L → Vc mi (d + D) 0 0 [.ref r, .int lv] S (em I r (nI (bs + i)) b) L (VlQ Q)
/-- a parser goes on, within the tokens -/
def Bd {α : Type} (nt : Nat) (X : Nat → Nat → tR α) : Prop := ∀ i l j l2 d, i ≤ nt → X i l = .ok (j, l2, d) → i < j ∧ j ≤ nt
theorem Bd_lt {cd : Nat → Int32} {nt i : Nat} (h : cd nt = 0) (hi : i ≤ nt) (hc : ¬ cd i = 0) : i < nt := by
  rcases Nat.lt_or_ge i nt with q | q
  · exact q
  · exact absurd (by rw [show i = nt by omega]; exact h) hc
section BD
variable {cd vl : Nat → Int32} {o : Bool} {nt : Nat}
theorem pPart_inv {inn : Option (Nat → Nat → tR tD)} {i l j l2 : Nat} {d : tD} (h : pPart cd vl o inn i l = .ok (j, l2, d)) :
    (cd i = 191 ∧ ∃ f j0, inn = some f ∧ f (i + 1) l = .ok (j0, l2, d) ∧ cd j0 = 193 ∧ j = j0 + 1) ∨
    (¬ cd i = 191 ∧ o = true ∧ (cd i = 13 ∨ cd i = 14) ∧ cd (i + 1) = 50 ∧ ¬ zLie (vl (i + 1)) 0 7 = 0 ∧ j = i + 2 ∧ d = fun n => some (n ((if cd i = 13 then 3 else 11) + (vl (i + 1)).toNatClampNeg)).toInt64) ∨
    (¬ cd i = 191 ∧ ¬ (o = true ∧ (cd i = 13 ∨ cd i = 14)) ∧ cd i = 50 ∧ j = i + 1 ∧ d = fun _ => some (vl i).toInt64) ∨
    (¬ cd i = 191 ∧ ¬ (o = true ∧ (cd i = 13 ∨ cd i = 14)) ∧ ¬ cd i = 50 ∧ isVal o (cd i) = true ∧ j = i + 1 ∧ d = fun n => some (n (wIx o (cd i))).toInt64) := by
  unfold pPart at h
  by_cases h1 : cd i = 191
  · rw [if_pos h1] at h
    refine Or.inl ⟨h1, ?_⟩
    cases inn with
    | none => cases h
    | some f =>
      simp only at h
      cases hf : f (i + 1) l with
      | error e => rw [hf] at h; cases h
      | ok q =>
        obtain ⟨j0, l0, d0⟩ := q
        rw [hf] at h
        simp only at h
        by_cases h3 : cd j0 = 193
        · rw [if_pos h3] at h; cases h; exact ⟨f, j0, rfl, hf, h3, rfl⟩
        · rw [if_neg h3] at h; cases h
  · rw [if_neg h1] at h
    by_cases h2 : (cd i = 50 ∧ vl i ≤ 1000) ∨ isVal o (cd i) = true
    · rw [if_pos h2] at h
      by_cases h3 : l = 50
      · rw [if_pos h3] at h; cases h
      · rw [if_neg h3] at h
        by_cases h4 : o = true ∧ (cd i = 13 ∨ cd i = 14)
        · rw [if_pos h4] at h
          by_cases h5 : cd (i + 1) = 50 ∧ ¬ zLie (vl (i + 1)) 0 7 = 0
          · rw [if_pos h5] at h; cases h; exact Or.inr (Or.inl ⟨h1, h4.1, h4.2, h5.1, h5.2, rfl, rfl⟩)
          · rw [if_neg h5] at h; cases h
        · rw [if_neg h4] at h
          by_cases h6 : cd i = 50
          · rw [if_pos h6] at h; cases h; exact Or.inr (Or.inr (Or.inl ⟨h1, h4, h6, rfl, rfl⟩))
          · rw [if_neg h6] at h; cases h
            refine Or.inr (Or.inr (Or.inr ⟨h1, h4, h6, ?_, rfl, rfl⟩))
            rcases h2 with h2 | h2
            · exact absurd h2.1 h6
            · exact h2
    · rw [if_neg h2] at h; cases h
theorem isVal_0 {o : Bool} {c : Int32} (h : isVal o c = true) : ¬ c = 0 := by
  intro e; subst e; revert h; cases o <;> decide
theorem Bd_part {inn : Option (Nat → Nat → tR tD)} (h0 : cd nt = 0) (hf : ∀ f, inn = some f → Bd nt f) : Bd nt (pPart cd vl o inn) := by
  intro i l j l2 d hi h
  rcases pPart_inv h with ⟨h1, f, j0, h2, h3, h4, h5⟩ | ⟨h1, h2, h3, h4, h5, h6, h7⟩ | ⟨h1, h2, h3, h4, h5⟩ | ⟨h1, h2, h3, h4, h5, h6⟩
  · have hlt := Bd_lt h0 hi (by rw [h1]; decide)
    have hb := hf f h2 (i + 1) l j0 l2 d hlt h3
    have hl2 := Bd_lt h0 hb.2 (by rw [h4]; decide)
    omega
  · have hlt : i < nt := Bd_lt h0 hi (by rcases h3 with h3 | h3 <;> rw [h3] <;> decide)
    have hl2 := Bd_lt h0 hlt (by rw [h4]; decide)
    omega
  · have hlt := Bd_lt h0 hi (by rw [h3]; decide)
    omega
  · have hlt := Bd_lt h0 hi (isVal_0 h4)
    omega
theorem Bd_chain {ops : Int32 → Bool} {comb : Int32 → tD → tD → tD} {x : Nat → Nat → tR tD} (h0 : cd nt = 0) (ho : ¬ ops 0 = true) (hx : Bd nt x) : ∀ f j l d j2 l2 d2, j ≤ nt → pChain cd ops comb x f j l d = .ok (j2, l2, d2) → j ≤ j2 ∧ j2 ≤ nt := by
  intro f
  induction f with
  | zero => intro j l d j2 l2 d2 hj h; cases h; exact ⟨Nat.le_refl _, hj⟩
  | succ f ih =>
    intro j l d j2 l2 d2 hj h
    rw [pChain] at h
    by_cases hc : ops (cd j) = true
    · rw [if_pos hc] at h
      have hlt := Bd_lt h0 hj (fun e => ho (by rw [← e]; exact hc))
      cases hq : x (j + 1) l with
      | error e => rw [hq] at h; cases h
      | ok q =>
        obtain ⟨j3, l3, d3⟩ := q
        rw [hq] at h
        have hb := hx _ _ _ _ _ hlt hq
        have := ih _ _ _ _ _ _ hb.2 h
        omega
    · rw [if_neg hc] at h; cases h; exact ⟨Nat.le_refl _, hj⟩
theorem Bd_many {ops : Int32 → Bool} {comb : Int32 → tD → tD → tD} {x : Nat → Nat → tR tD} (h0 : cd nt = 0) (ho : ¬ ops 0 = true) (hx : Bd nt x) : Bd nt (pMany cd ops comb x) := by
  intro i l j l2 d hi h
  unfold pMany at h
  cases hq : x i l with
  | error e => rw [hq] at h; cases h
  | ok q =>
    obtain ⟨j3, l3, d3⟩ := q
    rw [hq] at h
    have hb := hx _ _ _ _ _ hi hq
    have := Bd_chain h0 ho hx _ _ _ _ _ _ _ hb.2 h
    omega
theorem Bd_sum (h0 : cd nt = 0) : ∀ m, Bd nt (pSum cd vl o m)
  | 0 => Bd_many h0 (by decide) (Bd_many h0 (by decide) (Bd_part h0 (fun f h => by cases h)))
  | m + 1 => Bd_many h0 (by decide) (Bd_many h0 (by decide) (Bd_part h0 (fun f h => by cases h; exact Bd_sum h0 m)))
end BD
theorem c_X12_codeAt {d : Nat} {S : vS} {I : vI} {L : vL} {Q : Int32 → vS → vI → vL → Prop} {r : Nat} {bs nt i : Nat} {cd vl : Nat → Int32} {g b : Int32} (hM : MS S r) (hE : EV I r bs nt cd vl) (hi : i ≤ nt) (h : Q (cd i) S (em I r g b) L) : Vc mX12_codeAt d 0 0 [.ref r, .int (nI (bs + i))] S (em I r g b) L (ViQ Q) := by
  refine Vc.of rfl (Nat.le_of_ble_eq_true rfl) ?_
  have B := bs_X12_codeAt
  show Vw mX12_codeAt d 0 0 0 0 (ViQ Q) 0 [(0, .ref r), (1, .int (nI (bs + i)))] [] S (em I r g b) L
  refine Vw.iload_n (de_iload_1 (B 0 _ rfl)) 1 rfl (n := 1) rfl ?_
  refine Vw.aload_n (de_aload_0 (B 1 _ rfl)) 0 rfl (n := 2) rfl ?_
  refine Vw.getI (de_getfield (B 2 _ rfl) (B 3 _ rfl) (B 4 _ rfl)) fl_X12_267 rfl hM.k (n := 5) rfl ?_
  rw [em_k (by decide) (by decide), hE.2.2.2.2]
  refine Vw.icmp_ge (tgt := 21) (n := 8) (de_icmp_ge (B 5 _ rfl) (B 6 _ rfl) (B 7 _ rfl)) rfl rfl (fun c_5 => ?_) (fun c_5 => ?_)
  · refine Vw.iconst (v := 0) (de_iconst_0 (B 21 _ rfl)) rfl (n := 22) rfl ?_
    exact Vw.iret (de_ireturn (B 22 _ rfl)) rfl ⟨_, rfl, (by first | exact h | (have e : i = nt := by have q := (nI_leI (a := bs + nt) (b := bs + i) (by have := hE.2.2; omega) (by have := hE.2.2; omega)).mp c_5; omega); rw [e, hE.2.1] at h; exact h)⟩
  have hlt : i < nt := by rcases Nat.lt_or_ge i nt with q | q; exact q; exact absurd ((nI_leI (by have := hE.2.2; omega) (by have := hE.2.2; omega)).mpr (by omega)) c_5
  refine Vw.aload_n (de_aload_0 (B 8 _ rfl)) 0 rfl (n := 9) rfl ?_
  refine Vw.getR (de_getfield (B 9 _ rfl) (B 10 _ rfl) (B 11 _ rfl)) fl_X12_24 rfl hM.k (MS_kept hM).1 (n := 12) rfl ?_
  refine Vw.sipush (v := 153) (de_sipush (B 12 _ rfl) (B 13 _ rfl) (B 14 _ rfl)) rfl (n := 15) rfl ?_
  refine Vw.iload_n (de_iload_1 (B 15 _ rfl)) 1 rfl (n := 16) rfl ?_
  refine Vw.iadd (de_iadd (B 16 _ rfl)) (n := 17) rfl ?_
  refine Vw.iald (de_iaload (B 17 _ rfl)) (MS_kept hM).2 (vIx_n (k := 153 + (bs + i)) (by simp only [nI_A, nI_M, Int32.zero_add, Int32.add_zero] <;> rfl) (by have := hE.2.2; omega)) (n := 18) rfl ?_
  rw [em_o (by omega), show 153 + (bs + i) = 153 + bs + i by omega, (hE.1 i hlt).1]
  refine Vw.goto_ (n := 22) (de_goto_ (B 18 _ rfl) (B 19 _ rfl) (B 20 _ rfl)) rfl ?_
  exact Vw.iret (de_ireturn (B 22 _ rfl)) rfl ⟨_, rfl, (by first | exact h | (have e : i = nt := by have q := (nI_leI (a := bs + nt) (b := bs + i) (by have := hE.2.2; omega) (by have := hE.2.2; omega)).mp c_5; omega); rw [e, hE.2.1] at h; exact h)⟩
