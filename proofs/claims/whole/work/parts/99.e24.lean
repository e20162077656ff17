/-! ORDERS: run by the class and by the reference -/
def SmR (p q : Int32) : Prop := p = q ∨ (p = -1000000 ∧ (q.toInt < -1000000 ∨ 1000000 < q.toInt))
theorem m1000000 : (-1000000 : Int32).toInt = -1000000 := by decide
theorem SmR.lie {p q : Int32} {n : Nat} (h : SmR p q) (hn : n ≤ 10) : p = q ∨ (zLie p 0 (nI n - 1) = 0 ∧ zLie q 0 (nI n - 1) = 0) := by
  rcases h with h | ⟨h1, h2⟩
  · exact Or.inl h
  · refine Or.inr ⟨Classical.byContradiction fun z => ?_, Classical.byContradiction fun z => ?_⟩
    · obtain ⟨j, hj, e⟩ := lie_ex (by omega) z
      have := congrArg Int32.toInt (h1.symm.trans e)
      rw [nI_ti (by omega), m1000000] at this
      omega
    · obtain ⟨j, hj, e⟩ := lie_ex (by omega) z
      rw [e, nI_ti (by omega)] at h2; omega
theorem SmR.lie3 {p q : Int32} (h : SmR p q) : p = q ∨ (zLie p (-3) 3 = 0 ∧ zLie q (-3) 3 = 0) := by
  rcases h with h | ⟨h1, h2⟩
  · exact Or.inl h
  · refine Or.inr ⟨Classical.byContradiction fun z => ?_, Classical.byContradiction fun z => ?_⟩
    · have := ((zLie_iff _ _ _).mp z).1
      rw [h1, m1000000, show (-3 : Int32).toInt = -3 from by decide] at this
      omega
    · have g := (zLie_iff _ _ _).mp z
      rw [show (-3 : Int32).toInt = -3 from by decide, show (3 : Int32).toInt = 3 from by decide] at g
      omega
def Fit (D : tD) : Prop := ∀ n v, D n = some v → -2147483648 ≤ v.toInt ∧ v.toInt ≤ 2147483647
theorem smallP_r {v : Int64} (h : -2147483648 ≤ v.toInt ∧ v.toInt ≤ 2147483647) : SmR (smallP v) v.toInt32 := by
  have e : v.toInt32.toInt = v.toInt := by rw [Int64.toInt_toInt32, bm32 (by omega) (by omega)]
  unfold smallP
  by_cases c1 : v < -1000000
  · rw [if_pos c1]
    have := Int64.lt_iff_toInt_lt.mp c1
    rw [show (-1000000 : Int64).toInt = -1000000 from by decide] at this
    exact Or.inr ⟨rfl, Or.inl (by omega)⟩
  · rw [if_neg c1]
    by_cases c2 : 1000000 < v
    · rw [if_pos c2]
      have := Int64.lt_iff_toInt_lt.mp c2
      rw [show (1000000 : Int64).toInt = 1000000 from by decide] at this
      exact Or.inr ⟨rfl, Or.inr (by omega)⟩
    · rw [if_neg c2]; exact Or.inl rfl
theorem fit_32 (x : Int32) : -2147483648 ≤ x.toInt64.toInt ∧ x.toInt64.toInt ≤ 2147483647 := by
  rw [Int32.toInt_toInt64]
  have h1 := Int32.le_toInt x
  have h2 := Int32.toInt_lt x
  omega
theorem fit_bnd {v w : Int64} (h : tBnd v = some w) : -2147483648 ≤ w.toInt ∧ w.toInt ≤ 2147483647 := by
  unfold tBnd at h
  split at h
  · cases h
  · split at h
    · cases h
    · rename_i c1 c2
      cases h
      have h1 : ¬ (1000000000 : Int64).toInt < v.toInt := fun q => c1 (Int64.lt_iff_toInt_lt.mpr q)
      have h2 : ¬ v.toInt < (-1000000000 : Int64).toInt := fun q => c2 (Int64.lt_iff_toInt_lt.mpr q)
      rw [show (1000000000 : Int64).toInt = 1000000000 from by decide] at h1
      rw [show (-1000000000 : Int64).toInt = -1000000000 from by decide] at h2
      omega
theorem Fit.bin {c : Int32} {d e : tD} : Fit (tBin c d e) := by
  intro n v h
  unfold tBin at h
  cases hd : d n with
  | none => rw [hd] at h; cases h
  | some a =>
    rw [hd] at h
    cases he : e n with
    | none => rw [he] at h; cases h
    | some b =>
      rw [he] at h
      dsimp only at h
      unfold tOp at h
      split at h
      · exact fit_bnd h
      · split at h
        · exact fit_bnd h
        · split at h
          · exact fit_bnd h
          · split at h
            · cases h
            · split at h
              · exact fit_bnd h
              · exact fit_bnd h
theorem Fit.z : Fit tD0 := fun n v h => by unfold tD0 at h; cases h; decide
section FIT
variable {cd vl : Nat → Int32} {o : Bool}
def FitR (x : Nat → Nat → tR tD) : Prop := ∀ i l j l2 d, x i l = .ok (j, l2, d) → Fit d
theorem FitR.part {f : Option (Nat → Nat → tR tD)} (hf : ∀ g, f = some g → FitR g) : FitR (pPart cd vl o f) := by
  intro i l j l2 d h
  unfold pPart at h
  split at h
  · split at h
    · cases h
    · rename_i g
      split at h
      · cases h
      · rename_i j0 l0 d0 hg
        split at h
        · cases h; exact hf _ rfl _ _ _ _ _ hg
        · cases h
  · split at h
    · split at h
      · cases h
      · split at h
        · split at h
          · cases h; exact fun n v q => by cases q; exact fit_32 _
          · cases h
        · split at h
          · cases h; exact fun n v q => by cases q; exact fit_32 _
          · cases h; exact fun n v q => by cases q; exact fit_32 _
    · cases h
theorem FitR.chain {ops : Int32 → Bool} {x : Nat → Nat → tR tD} : ∀ f i l d0 j l2 d, pChain cd ops tBin x f i l d0 = .ok (j, l2, d) → Fit d0 → Fit d
  | 0, i, l, d0, j, l2, d, h, g => by rw [pChain] at h; cases h; exact g
  | f + 1, i, l, d0, j, l2, d, h, g => by
    rcases pChain_inv h with ⟨_, _, _, e⟩ | ⟨_, j3, l3, d3, _, q⟩
    · rw [← e]; exact g
    · exact FitR.chain f j3 l3 _ j l2 d q Fit.bin
theorem FitR.many {ops : Int32 → Bool} {x : Nat → Nat → tR tD} (hx : FitR x) : FitR (pMany cd ops tBin x) := by
  intro i l j l2 d h
  obtain ⟨j0, l0, d0, q1, q2⟩ := pMany_inv h
  exact FitR.chain _ _ _ _ _ _ _ q2 (hx _ _ _ _ _ q1)
theorem FitR.sum : ∀ m, FitR (pSum cd vl o m)
  | 0 => by rw [pSum]; exact FitR.many (FitR.many (FitR.part (fun g q => by cases q)))
  | m + 1 => by rw [pSum]; exact FitR.many (FitR.many (FitR.part (fun g q => by cases q; exact FitR.sum m)))
theorem fit_one {i l j l2 : Nat} {c : tC} (h : pOne cd vl true i l = .ok (j, l2, c)) : ((∃ tm, tm ≤ 20 ∧ c.2.2.2.1 = nI tm) ∧ (c.1 = 21 ∨ c.1 = 23 ∨ c.1 = 25 ∨ c.1 = 26 ∨ c.1 = 16)) ∧ Fit c.2.1 ∧ Fit c.2.2.1 := by
  unfold pOne at h
  rw [if_pos rfl] at h
  refine ⟨pOrder_t h, ?_⟩
  obtain ⟨j0, l0, ab, h1, h2⟩ := pOrder_inv h
  have hab : Fit ab.1 ∧ Fit ab.2 := by
    rcases pHead_inv h1 with ⟨_, e⟩ | ⟨_, e⟩ | ⟨_, a, e1, e2⟩ | ⟨_, _, e⟩
    · obtain ⟨j1, l1, a, b, q1, _, q2, q3⟩ := pTwo_inv e
      rw [q3]; exact ⟨FitR.sum _ _ _ _ _ _ q1, FitR.sum _ _ _ _ _ _ q2⟩
    · obtain ⟨j1, l1, a, b, q1, _, q2, q3⟩ := pTwo_inv e
      rw [q3]; exact ⟨FitR.sum _ _ _ _ _ _ q1, FitR.sum _ _ _ _ _ _ q2⟩
    · rw [e2]; exact ⟨FitR.sum _ _ _ _ _ _ e1, Fit.z⟩
    · rw [e]; exact ⟨Fit.z, Fit.z⟩
  rcases pTimes_inv h2 with ⟨_, _, _, q⟩ | ⟨_, q⟩
  · have z := pTail_v q
    rw [z.2.1, z.2.2.1]; exact hab
  · have z := pTail_v q
    rw [z.2.1, z.2.2.1]; exact hab
end FIT
/-! the latest sixteen -/
theorem fold_psh : ∀ (g l : List tH), l.length ≤ 16 → g.foldl psh l = (l ++ g).drop ((l ++ g).length - 16)
  | [], l, h => by
    rw [List.append_nil, show l.length - 16 = 0 by omega, List.drop_zero]; rfl
  | a :: g, l, h => by
    have hp := psh_len (x := a) h
    rw [List.foldl_cons, fold_psh g (psh l a) (by rw [hp]; split <;> omega)]
    by_cases z : l.length = 16
    · have e : psh l a ++ g = (l ++ a :: g).drop 1 := by
        unfold psh; rw [if_pos z]
        cases l with
        | nil => cases z
        | cons b l => simp
      rw [e, List.drop_drop, List.length_drop]
      congr 1
      rw [List.length_append, List.length_cons]; omega
    · have e : psh l a ++ g = l ++ a :: g := by unfold psh; rw [if_neg z, List.append_assoc]; rfl
      rw [e]
theorem fold_len {g l : List tH} (h : l.length ≤ 16) : (g.foldl psh l).length ≤ 16 := by
  rw [fold_psh g l h, List.length_drop]; omega
theorem psh_fold {l g : List tH} {y : tH} (hl : l.length ≤ 16) (hg : g.length ≤ 16) : (psh g y).foldl psh l = psh (g.foldl psh l) y := by
  by_cases z : g.length = 16
  · have e : psh g y = g.tail ++ [y] := by unfold psh; rw [if_pos z]
    rw [e, List.foldl_append]
    show psh (g.tail.foldl psh l) y = _
    have eB : g.foldl psh l = g := by
      rw [fold_psh g l hl, List.length_append, show l.length + g.length - 16 = l.length by omega, List.drop_left]
    rw [eB, e]
    have lt : g.tail.length = 15 := by rw [List.length_tail, z]
    rw [fold_psh _ l hl, List.length_append, lt]
    cases l with
    | nil =>
      rw [List.nil_append, show ([] : List tH).length + 15 - 16 = 0 from rfl, List.drop_zero]
      unfold psh; rw [if_neg (by omega)]
    | cons b l =>
      unfold psh
      rw [if_pos (by rw [List.length_drop, List.length_append, lt]; simp only [List.length_cons]; omega), List.tail_drop]
      congr 1
      rw [show (b :: l).length + 15 - 16 + 1 = (b :: l).length by simp only [List.length_cons]; omega, List.drop_left]
  · have e : psh g y = g ++ [y] := by unfold psh; rw [if_neg z]
    rw [e, List.foldl_append]; rfl
/-! one order -/
def ObR (K F : Nat → Int32) (u : Nat) (g : List tH) (p : tOb) (q : tOl) : Prop := p.1 = q.1 ∧ p.2.1 = q.2.1 ∧ ((p.2.2.1 = F ∧ p.2.2.2 = u ∧ q.2.2 = g) ∨ ∃ c, p.2.2.1 = keepL F K u c ∧ p.2.2.2 = keepN u ∧ q.2.2 = psh g (K, c))
section OBEY
variable {K F : Nat → Int32} {u np nc : Nat} {g : List tH} {W : tW} {a b a' b' : Int32}
theorem feed_ob (ha : SmR a a') (hb : SmR b b') (h8 : np ≤ 8) : ObR K F u g (feedO K F u np a b) (feedL K g np a' b') := by
  unfold feedO feedL
  rcases hb.lie3 with e | ⟨e1, e2⟩
  · subst e
    by_cases c1 : zLie b (-3) 3 = 0
    · rw [if_pos c1, if_pos c1]; exact ⟨rfl, rfl, Or.inl ⟨rfl, rfl, rfl⟩⟩
    · rw [if_neg c1, if_neg c1]
      rcases ha.lie (n := np) (by omega) with e | ⟨e1, e2⟩
      · subst e
        by_cases c2 : zLie a 0 (nI np - 1) = 0
        · rw [if_pos c2, if_pos c2]; exact ⟨rfl, rfl, Or.inl ⟨rfl, rfl, rfl⟩⟩
        · rw [if_neg c2, if_neg c2]; exact ⟨rfl, rfl, Or.inl ⟨rfl, rfl, rfl⟩⟩
      · rw [if_pos e1, if_pos e2]; exact ⟨rfl, rfl, Or.inl ⟨rfl, rfl, rfl⟩⟩
  · rw [if_pos e1, if_pos e2]; exact ⟨rfl, rfl, Or.inl ⟨rfl, rfl, rfl⟩⟩
theorem let_ob {j : Nat} (ha : SmR a a') (h10 : nc ≤ 10) : ObR K F u g (letO K F u nc a j) (letL K g nc a' j) := by
  unfold letO letL
  rcases ha.lie (n := nc) h10 with e | ⟨e1, e2⟩
  · subst e
    by_cases c2 : zLie a 0 (nI nc - 1) = 0
    · rw [if_pos c2, if_pos c2]; exact ⟨rfl, rfl, Or.inl ⟨rfl, rfl, rfl⟩⟩
    · rw [if_neg c2, if_neg c2]
      by_cases c3 : K (32 + 8 * a.toNatClampNeg + 5 + j) = 0
      · rw [if_pos c3, if_pos c3]; exact ⟨rfl, rfl, Or.inl ⟨rfl, rfl, rfl⟩⟩
      · rw [if_neg c3, if_neg c3]; exact ⟨rfl, rfl, Or.inr ⟨1, rfl, rfl, rfl⟩⟩
  · rw [if_pos e1, if_pos e2]; exact ⟨rfl, rfl, Or.inl ⟨rfl, rfl, rfl⟩⟩
theorem hand_ob (ha : SmR a a') (hb : SmR b b') (h8 : np ≤ 8) (h10 : nc ≤ 10) : ObR K F u g (handO W K F u np nc a b) (handL W K g np nc a' b') := by
  unfold handO handL
  rcases ha.lie (n := nc) h10 with e | ⟨e1, e2⟩
  · subst e
    rcases hb.lie (n := np) (by omega) with e | ⟨e1, e2⟩
    · subst e
      by_cases c2 : zLie a 0 (nI nc - 1) = 0 ∨ zLie b 0 (nI np - 1) = 0
      · rw [if_pos c2, if_pos c2]; exact ⟨rfl, rfl, Or.inl ⟨rfl, rfl, rfl⟩⟩
      · rw [if_neg c2, if_neg c2]
        by_cases c3 : ¬ K (32 + 8 * a.toNatClampNeg + 4) = -1
        · rw [if_pos c3, if_pos c3]; exact ⟨rfl, rfl, Or.inl ⟨rfl, rfl, rfl⟩⟩
        · rw [if_neg c3, if_neg c3]
          by_cases c4 : fitAt (handK K a.toNatClampNeg b.toNatClampNeg) a.toNatClampNeg = 0
          · rw [if_pos c4, if_pos c4]; exact ⟨rfl, rfl, Or.inr ⟨3, rfl, rfl, rfl⟩⟩
          · rw [if_neg c4, if_neg c4]; exact ⟨rfl, rfl, Or.inr ⟨3, rfl, rfl, rfl⟩⟩
    · rw [if_pos (Or.inr e1), if_pos (Or.inr e2)]; exact ⟨rfl, rfl, Or.inl ⟨rfl, rfl, rfl⟩⟩
  · rw [if_pos (Or.inl e1), if_pos (Or.inl e2)]; exact ⟨rfl, rfl, Or.inl ⟨rfl, rfl, rfl⟩⟩
theorem quar_ob : ObR K F u g (quarO W K F u np nc) (quarL W K g np nc) := by
  unfold quarO quarL
  by_cases c1 : K 121 = 999
  · rw [if_pos c1, if_pos c1]; exact ⟨rfl, rfl, Or.inl ⟨rfl, rfl, rfl⟩⟩
  · rw [if_neg c1, if_neg c1]; exact ⟨rfl, rfl, Or.inr ⟨2, rfl, rfl, rfl⟩⟩
theorem obey_ob {v : Int32} (ha : SmR a a') (hb : SmR b b') (h8 : np ≤ 8) (h10 : nc ≤ 10) : ObR K F u g (obeyP W np nc K F u v a b) (obeyL W np nc K g v a' b') := by
  unfold obeyP obeyL
  by_cases c1 : v = 21
  · rw [if_pos c1, if_pos c1]; exact feed_ob ha hb h8
  · rw [if_neg c1, if_neg c1]
    by_cases c2 : v = 25
    · rw [if_pos c2, if_pos c2]; exact let_ob ha h10
    · rw [if_neg c2, if_neg c2]
      by_cases c3 : v = 26
      · rw [if_pos c3, if_pos c3]; exact let_ob ha h10
      · rw [if_neg c3, if_neg c3]
        by_cases c4 : v = 23
        · rw [if_pos c4, if_pos c4]; exact hand_ob ha hb h8 h10
        · rw [if_neg c4, if_neg c4]; exact quar_ob
theorem obeyL_kb {v : Int32} (hN : TN K np nc) (h : KB K np nc) : KB (obeyL W np nc K g v a b).2.1 np nc := by
  have h8 := hN.1
  have h10 := hN.2.1
  have lt : ∀ j, j ≤ 1 → KB (letL K g nc a j).2.1 np nc := fun j hj => by
    unfold letL
    split
    · exact h
    · rename_i c1
      split
      · exact h
      · rename_i c2
        obtain ⟨c, hc, rfl⟩ := lie_ex (by omega) c1
        rw [nI_cl (by omega)] at c2 ⊢
        exact (h.lt h8 h10 hc hj c2).1
  unfold obeyL
  split
  · unfold feedL
    split
    · exact h
    · rename_i c1
      split
      · exact h
      · rename_i c2
        obtain ⟨q, hq, rfl⟩ := lie_ex (by omega) c2
        rw [nI_cl (by omega)]
        exact h.fed h8 h10 hq c1
  · split
    · exact lt 0 (by omega)
    · split
      · exact lt 1 (by omega)
      · split
        · unfold handL
          split
          · exact h
          · rename_i c1
            split
            · exact h
            · obtain ⟨c, hc, rfl⟩ := lie_ex (p := a) (n := nc) (by omega) (fun z => c1 (Or.inl z))
              rw [nI_cl (by omega)]
              split
              · exact (h.of h8 h10 (Kb.hand (by omega))).of h8 h10 (Kb.pay (by omega))
              · exact h.of h8 h10 (Kb.hand (by omega))
        · unfold quarL
          split
          · exact h
          · rename_i c1
            exact h.quarter h8 h10 c1
end OBEY
/-! rounds and orders -/
def RO (l0 : List tH) (np nc : Nat) (p : tO) (q : tQ) : Prop := p.1 = q.1 ∧ p.2.2.2.1 = q.2.2.1 ∧ p.2.2.2.2 = q.2.2.2 ∧ LfR p.2.1 (q.2.1.foldl psh l0) np ∧ p.2.2.1 = (q.2.1.foldl psh l0).length ∧ q.2.1.length ≤ 16 ∧ TN q.1 np nc ∧ KB q.1 np nc
theorem rnd_eq {W : tW} {np nc : Nat} {c : tC} {l0 : List tH} {p : tO} {q : tQ} (h0 : l0.length ≤ 16) (hc1 : Fit c.2.1) (hc2 : Fit c.2.2.1) (h : RO l0 np nc p q) : (rndP W np nc c p = none ∧ rndL W np nc c q = none) ∨ ∃ p2 q2, rndP W np nc c p = some p2 ∧ rndL W np nc c q = some q2 ∧ RO l0 np nc p2 q2 := by
  obtain ⟨K, F, u, dn, pd⟩ := p
  obtain ⟨K', g, dn', pd'⟩ := q
  have hh0 := h
  obtain ⟨e1, e2, e3, hL, hu, hg, hN, hB⟩ := h
  dsimp only at e1 e2 e3 hL hu hg hN hB
  subst e1; subst e2; subst e3
  by_cases hh : clHolds c (nvO K np dn pd) = true
  · cases h1 : c.2.1 (nvO K np dn pd) with
    | none => exact Or.inl ⟨rndP_b hh (Or.inl h1), rndL_b hh (Or.inl h1)⟩
    | some a =>
      cases h2 : c.2.2.1 (nvO K np dn pd) with
      | none => exact Or.inl ⟨rndP_b hh (Or.inr h2), rndL_b hh (Or.inr h2)⟩
      | some b =>
        have ob := obey_ob (W := W) (K := K) (F := F) (u := u) (g := g) (v := c.1) (smallP_r (hc1 _ _ h1)) (smallP_r (hc2 _ _ h2)) hN.1 hN.2.1
        have okl := obeyL_ok (W := W) (l := g) (v := c.1) (a := a.toInt32) (b := b.toInt32) (show OkL np nc K from ⟨hN, hB.2.2.2⟩)
        have okb := obeyL_kb (W := W) (g := g) (v := c.1) (a := a.toInt32) (b := b.toInt32) hN hB
        obtain ⟨o1, o2, o3⟩ := ob
        have eP : rndP W np nc c (K, F, u, dn, pd) = if (obeyP W np nc K F u c.1 (smallP a) (smallP b)).1 < 0 then none else some ((obeyP W np nc K F u c.1 (smallP a) (smallP b)).2.1, (obeyP W np nc K F u c.1 (smallP a) (smallP b)).2.2.1, (obeyP W np nc K F u c.1 (smallP a) (smallP b)).2.2.2, dn + 1, paidO c.1 (obeyP W np nc K F u c.1 (smallP a) (smallP b)).1 pd) := by
          unfold rndP; dsimp only; rw [if_pos hh, h1, h2]
        have eL : rndL W np nc c (K, g, dn, pd) = if (obeyL W np nc K g c.1 a.toInt32 b.toInt32).1 < 0 then none else some ((obeyL W np nc K g c.1 a.toInt32 b.toInt32).2.1, (obeyL W np nc K g c.1 a.toInt32 b.toInt32).2.2, dn + 1, paidO c.1 (obeyL W np nc K g c.1 a.toInt32 b.toInt32).1 pd) := by
          unfold rndL; dsimp only; rw [if_pos hh, h1, h2]
        rw [eP, eL, o1]
        by_cases neg : (obeyL W np nc K g c.1 a.toInt32 b.toInt32).1 < 0
        · rw [if_pos neg, if_pos neg]; exact Or.inl ⟨rfl, rfl⟩
        · rw [if_neg neg, if_neg neg]
          refine Or.inr ⟨_, _, rfl, rfl, o2, rfl, rfl, ?_⟩
          dsimp only
          rcases o3 with ⟨q1, q2, q3⟩ | ⟨cc, q1, q2, q3⟩
          · rw [q1, q2, q3]; exact ⟨hL, hu, hg, okl.1, okb⟩
          · rw [q1, q2, q3, psh_fold h0 hg]
            refine ⟨?_, ?_, ?_, okl.1, okb⟩
            · rw [hu]; exact hL.push (fold_len h0) hN hB
            · rw [psh_len (fold_len h0), ← hu]; rfl
            · rw [psh_len hg]; split <;> omega
  · have hf : clHolds c (nvO K np dn pd) = false := by cases q : clHolds c (nvO K np dn pd); rfl; exact absurd q hh
    exact Or.inr ⟨_, _, rndP_h hf, rndL_h hf, hh0⟩
theorem rnds_eq {W : tW} {np nc : Nat} {c : tC} {l0 : List tH} (h0 : l0.length ≤ 16) (hc1 : Fit c.2.1) (hc2 : Fit c.2.2.1) : ∀ n p q, RO l0 np nc p q → (rndsP W np nc c n p = none ∧ rndsL W np nc c n q = none) ∨ ∃ p2 q2, rndsP W np nc c n p = some p2 ∧ rndsL W np nc c n q = some q2 ∧ RO l0 np nc p2 q2
  | 0, p, q, h => Or.inr ⟨p, q, rfl, rfl, h⟩
  | n + 1, p, q, h => by
    rw [rndsP, rndsL]
    rcases rnd_eq (W := W) h0 hc1 hc2 h with ⟨e1, e2⟩ | ⟨p2, q2, e1, e2, e3⟩
    · rw [e1, e2]; exact Or.inl ⟨rfl, rfl⟩
    · rw [e1, e2]; exact rnds_eq h0 hc1 hc2 n p2 q2 e3
theorem ords_eq {W : tW} {np nc : Nat} {l0 : List tH} (h0 : l0.length ≤ 16) : ∀ cs n p q, (∀ c ∈ cs, Fit c.2.1 ∧ Fit c.2.2.1) → RO l0 np nc p q → (∃ m, ordsP W np nc cs n p = .error m ∧ ordsL W np nc cs n q = .error m ∧ m < n + cs.length) ∨ ∃ p2 q2, ordsP W np nc cs n p = .ok p2 ∧ ordsL W np nc cs n q = .ok q2 ∧ RO l0 np nc p2 q2
  | [], n, p, q, hc, h => Or.inr ⟨p, q, rfl, rfl, h⟩
  | c :: cs, n, p, q, hc, h => by
    rw [ordsP, ordsL]
    have hf := hc c (List.mem_cons_self ..)
    rcases rnds_eq (W := W) h0 hf.1 hf.2 c.2.2.2.1.toNatClampNeg p q h with ⟨e1, e2⟩ | ⟨p2, q2, e1, e2, e3⟩
    · rw [e1, e2]; exact Or.inl ⟨n, rfl, rfl, by simp only [List.length_cons]; omega⟩
    · rw [e1, e2]
      rcases ords_eq h0 cs (n + 1) p2 q2 (fun c2 q2 => hc c2 (List.mem_cons_of_mem _ q2)) e3 with ⟨m, g1, g2, g3⟩ | g
      · exact Or.inl ⟨m, g1, g2, by simp only [List.length_cons]; omega⟩
      · exact Or.inr g
