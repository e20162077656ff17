/-! Bounds of people, of cloth -/
def PBt (P : tP) : Prop := (0 ≤ P.1.toInt ∧ P.1.toInt ≤ 999) ∧ (20 ≤ P.2.1.toInt ∧ P.2.1.toInt ≤ 250) ∧ (5 ≤ P.2.2.1.toInt ∧ P.2.2.1.toInt ≤ 200) ∧ (-3 ≤ P.2.2.2.toInt ∧ P.2.2.2.toInt ≤ 3)
theorem zWithin_b {v lo hi : Int32} (h : lo.toInt ≤ hi.toInt) : lo.toInt ≤ (zWithin v lo hi).toInt ∧ (zWithin v lo hi).toInt ≤ hi.toInt := by
  unfold zWithin
  by_cases h1 : lo ≤ v
  · by_cases h2 : v ≤ hi
    · rw [if_pos h1, if_pos h2]; exact ⟨i32_le.mp h1, i32_le.mp h2⟩
    · rw [if_pos h1, if_neg h2]; exact ⟨h, Int.le_refl _⟩
  · rw [if_neg h1]; exact ⟨Int.le_refl _, h⟩
theorem zMin_b {a b : Int32} : (zMin a b).toInt = if b.toInt ≤ a.toInt then b.toInt else a.toInt := by
  unfold zMin
  by_cases h : b ≤ a
  · rw [if_pos h, if_pos (i32_le.mp h)]
  · rw [if_neg h, if_neg (fun z => h (i32_le.mpr z))]
theorem zMax_b {a b : Int32} : (zMax a b).toInt = if a.toInt ≤ b.toInt then b.toInt else a.toInt := by
  unfold zMax
  by_cases h : a ≤ b
  · rw [if_pos h, if_pos (i32_le.mp h)]
  · rw [if_neg h, if_neg (fun z => h (i32_le.mpr z))]
theorem stepP_b {W : tW} {p now : Int32} {P : tP} (h : PBt P) : PBt (stepP W p now P) := by
  obtain ⟨h1, h2, h3, h4⟩ := h
  refine ⟨?_, zWithin_b (lo := 20) (hi := 250) (by decide), zWithin_b (lo := 5) (hi := 200) (by decide), h4⟩
  have e : (P.1 + 1).toInt = P.1.toInt + 1 := i32_add (by show _ ≤ _ + (1 : Int); omega) (by show _ + (1 : Int) < _; omega)
  show 0 ≤ (zMin 999 (P.1 + 1)).toInt ∧ (zMin 999 (P.1 + 1)).toInt ≤ 999
  rw [zMin_b, e, show (999 : Int32).toInt = 999 from rfl]
  split <;> omega
theorem walkP_b {W : tW} {p now : Int32} {P : tP} (h : PBt P) : ∀ k, PBt (walkP W p now P k)
  | 0 => h
  | k + 1 => stepP_b (walkP_b h k)
theorem tells_c {law : Option (List tC)} {hd wo : Int32} {nv : Nat → Int32} (h1 : 0 ≤ wo.toInt) (h2 : wo.toInt ≤ 2000) : 0 ≤ (tellsP law hd 0 999 wo nv).toInt ∧ ((tellsP law hd 0 999 wo nv).toInt ≤ 999 ∨ (tellsP law hd 0 999 wo nv).toInt ≤ wo.toInt) := by
  unfold tellsP
  cases law with
  | none => exact ⟨h1, Or.inr (Int.le_refl _)⟩
  | some cs =>
    have key : ∀ (cs : List tC) (v : Int64), 0 ≤ v.toInt → (v.toInt ≤ 999 ∨ v.toInt ≤ wo.toInt) → 0 ≤ (cs.foldl (tStep hd 0 999 nv) v).toInt ∧ ((cs.foldl (tStep hd 0 999 nv) v).toInt ≤ 999 ∨ (cs.foldl (tStep hd 0 999 nv) v).toInt ≤ wo.toInt) := by
      intro cs
      induction cs with
      | nil => exact fun v a b => ⟨a, b⟩
      | cons c cs ih =>
        intro v a b
        rw [List.foldl_cons]
        have e : 0 ≤ (tStep hd 0 999 nv v c).toInt ∧ ((tStep hd 0 999 nv v c).toInt ≤ 999 ∨ (tStep hd 0 999 nv v c).toInt ≤ wo.toInt) := by
          unfold tStep
          split
          · split
            · rename_i s _
              have := tClamp_b (lo := 0) (hi := 999) (by decide) (s := s)
              exact ⟨this.1, Or.inl this.2⟩
            · exact ⟨a, b⟩
          · exact ⟨a, b⟩
        exact ih _ e.1 e.2
    have k := key cs wo.toInt64 (by rw [Int32.toInt_toInt64]; exact h1) (by rw [Int32.toInt_toInt64]; exact Or.inr (Int.le_refl _))
    simp only
    rw [Int64.toInt_toInt32, bm32 (by omega) (by omega)]
    exact k
theorem area_b {s w : Int32} {A B : Int} (h1 : 0 ≤ s.toInt ∧ s.toInt ≤ A) (h2 : 0 ≤ w.toInt ∧ w.toInt ≤ B) (hA : A ≤ 1000) (hB : B ≤ 1000) : 0 ≤ (s * w / 50).toInt ∧ (s * w / 50).toInt * 50 ≤ A * B := by
  have m1 : 0 ≤ s.toInt * w.toInt := Int.mul_nonneg h1.1 h2.1
  have m2 : s.toInt * w.toInt ≤ A * B := Int.mul_le_mul h1.2 h2.2 h2.1 (by omega)
  have m3 : A * B ≤ 1000 * 1000 := Int.mul_le_mul hA hB (by omega) (by omega)
  have e : (s * w).toInt = s.toInt * w.toInt := i32_mul (by omega) (by omega)
  have e2 : (s * w / 50).toInt = (s.toInt * w.toInt).tdiv 50 := by
    rw [Int32.toInt_div, e, show (50 : Int32).toInt = 50 from rfl]
    refine bm32 ?_ ?_
    · rw [Int.tdiv_eq_ediv_of_nonneg m1]; omega
    · rw [Int.tdiv_eq_ediv_of_nonneg m1]; omega
  rw [e2, Int.tdiv_eq_ediv_of_nonneg m1]
  omega
theorem dMax_b {f : Nat → Int32} {a : Nat} {B : Int} (hB : 0 ≤ B) : ∀ {j : Nat}, (∀ i, i < j → (f (a + i)).toInt ≤ B) → 0 ≤ (dMax f a j).toInt ∧ (dMax f a j).toInt ≤ B
  | 0, _ => ⟨Int.le_refl 0, hB⟩
  | j + 1, h => by
    have ih := dMax_b (f := f) (a := a) hB (j := j) (fun i hi => h i (by omega))
    have e := h j (by omega)
    rw [dMax, zMax_b]
    split <;> omega
theorem dCl_b {W : tW} {K : Nat → Int32} {q n : Nat} (h : PBt (perP K q)) : CB (dCl W K q) n := by
  intro a t _ _ _
  have b1 := dMax_b (f := fun k => (walkP W (nI q) (K 121) (perP K q) k).2.1) (a := a) (B := 250) (by decide) (j := t - a) (fun i _ => (walkP_b h (a + i)).2.1.2)
  have b2 := dMax_b (f := fun k => (walkP W (nI q) (K 121) (perP K q) k).2.2.1) (a := a) (B := 200) (by decide) (j := t - a) (fun i _ => (walkP_b h (a + i)).2.2.1.2)
  have b3 := area_b b1 b2 (by decide) (by decide)
  have b4 := tells_c (law := W.1) (hd := 3) (nv := nvA (nI q) (walkP W (nI q) (K 121) (perP K q) a).1 (walkP W (nI q) (K 121) (perP K q) a).2.2.2 (dMax (fun k => (walkP W (nI q) (K 121) (perP K q) k).2.1) a (t - a)) (dMax (fun k => (walkP W (nI q) (K 121) (perP K q) k).2.2.1) a (t - a)) (-1) (K 121 + nI a) W.2) b3.1 (by omega)
  unfold dCl clothP
  omega
theorem dn_p (c : Nat) : nI (c + 1) - 1 = nI c := by rw [← nI_1, Int32.add_sub_cancel]
theorem dn_lt {c : Nat} (h : c < 100000) : nI c - 1 < 0 ↔ c = 0 := by
  constructor
  · intro g
    cases c with
    | zero => rfl
    | succ c =>
      rw [dn_p, i32_lt, nI_ti (by omega)] at g
      rw [show (0 : Int32).toInt = 0 from rfl] at g
      omega
  · intro g; subst g; decide
theorem lie_m1 {i : Int32} {n : Nat} (hn : n < 100000) (h : ¬ zLie i (-1) (nI n) = 0) (h2 : ¬ i = -1) : ∃ j, j ≤ n ∧ i = nI j := by
  have h1 := (zLie_iff _ _ _).mp h
  rw [nI_ti (by omega), show (-1 : Int32).toInt = -1 from rfl] at h1
  have h3 : i.toInt ≠ -1 := ne_ti h2 (-1) rfl
  obtain ⟨j, h4, h5⟩ := nI_ex (x := i) (n := n + 1) (by omega) (by omega)
  exact ⟨j, by omega, h5⟩
