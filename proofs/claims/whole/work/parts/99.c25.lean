/-! The cutter: most that can be paid, in natural numbers; steps -/
def mxB (cn pn g : Nat → Nat) (c : Nat) : Nat → Nat
  | 0 => g c
  | k + 1 => if cn k ≤ c then (if mxB cn pn g c k ≤ pn k + g (c - cn k) then pn k + g (c - cn k) else mxB cn pn g c k) else mxB cn pn g c k
theorem mxB_0 {cn pn g : Nat → Nat} {c : Nat} : ∀ {k : Nat}, g c ≤ mxB cn pn g c k
  | 0 => Nat.le_refl _
  | k + 1 => by
    have := mxB_0 (cn := cn) (pn := pn) (g := g) (c := c) (k := k)
    rw [mxB]; split
    · split <;> omega
    · exact this
theorem mxB_j {cn pn g : Nat → Nat} {c j : Nat} (hc : cn j ≤ c) : ∀ {k : Nat}, j < k → pn j + g (c - cn j) ≤ mxB cn pn g c k
  | 0, h => absurd h (Nat.not_lt_zero _)
  | k + 1, h => by
    rw [mxB]
    rcases (show j = k ∨ j < k by omega) with rfl | z
    · rw [if_pos hc]; split <;> omega
    · have := mxB_j (pn := pn) (g := g) hc z
      split
      · split <;> omega
      · exact this
theorem mxB_or {cn pn g : Nat → Nat} {c : Nat} : ∀ {k : Nat}, mxB cn pn g c k = g c ∨ ∃ j, j < k ∧ cn j ≤ c ∧ mxB cn pn g c k = pn j + g (c - cn j)
  | 0 => Or.inl rfl
  | k + 1 => by
    have ih := mxB_or (cn := cn) (pn := pn) (g := g) (c := c) (k := k)
    rw [mxB]
    by_cases h1 : cn k ≤ c
    · rw [if_pos h1]
      by_cases h2 : mxB cn pn g c k ≤ pn k + g (c - cn k)
      · rw [if_pos h2]; exact Or.inr ⟨k, by omega, h1, rfl⟩
      · rw [if_neg h2]
        rcases ih with h | ⟨j, a, b, e⟩
        · exact Or.inl h
        · exact Or.inr ⟨j, by omega, b, e⟩
    · rw [if_neg h1]
      rcases ih with h | ⟨j, a, b, e⟩
      · exact Or.inl h
      · exact Or.inr ⟨j, by omega, b, e⟩
theorem mxB_mo {cn pn g : Nat → Nat} {N c c2 k : Nat} (hg : ∀ x y, x ≤ y → y ≤ N → g x ≤ g y) (h : c ≤ c2) (h2 : c2 ≤ N) : mxB cn pn g c k ≤ mxB cn pn g c2 k := by
  rcases mxB_or (cn := cn) (pn := pn) (g := g) (c := c) (k := k) with e | ⟨j, a, b, e⟩
  · rw [e]; exact Nat.le_trans (hg c c2 h h2) mxB_0
  · rw [e]
    have h3 := mxB_j (pn := pn) (g := g) (show cn j ≤ c2 by omega) a
    have h4 := hg (c - cn j) (c2 - cn j) (by omega) (by omega)
    omega
theorem mxB_b {cn pn g : Nat → Nat} {c k G : Nat} (hg : ∀ x, x ≤ c → g x ≤ G) (hp : ∀ j, j < k → pn j ≤ 999) : mxB cn pn g c k ≤ 999 + G := by
  rcases mxB_or (cn := cn) (pn := pn) (g := g) (c := c) (k := k) with e | ⟨j, a, b, e⟩
  · rw [e]; have := hg c (Nat.le_refl _); omega
  · rw [e]; have h1 := hg (c - cn j) (by omega); have h2 := hp j a; omega
def mN (cn pn : Nat → Nat → Nat) (np : Nat) : Nat → Nat → Nat
  | 0 => fun _ => 0
  | m + 1 => fun c => mxB (cn (np - (m + 1))) (pn (np - (m + 1))) (mN cn pn np m) c 16
theorem mN_mo {cn pn : Nat → Nat → Nat} {np : Nat} : ∀ {m c c2 : Nat}, c ≤ c2 → mN cn pn np m c ≤ mN cn pn np m c2
  | 0, _, _, _ => Nat.le_refl _
  | m + 1, c, c2, h => by
    unfold mN
    exact mxB_mo (N := c2) (fun x y h1 _ => mN_mo h1) h (Nat.le_refl _)
theorem mN_b {cn pn : Nat → Nat → Nat} {np : Nat} (hp : ∀ q j, q < np → j < 16 → pn q j ≤ 999) : ∀ {m c : Nat}, m ≤ np → mN cn pn np m c ≤ 999 * m
  | 0, _, _ => Nat.le_refl _
  | m + 1, c, h => by
    unfold mN
    have := mxB_b (cn := cn (np - (m + 1))) (pn := pn (np - (m + 1))) (g := mN cn pn np m) (c := c) (k := 16) (G := 999 * m) (fun x _ => mN_b hp (by omega)) (fun j hj => hp _ j (by omega) hj)
    omega
theorem zMax_nI {a b : Nat} (ha : a < 2147483648) (hb : b < 2147483648) : zMax (nI a) (nI b) = nI (if a ≤ b then b else a) := by
  unfold zMax
  by_cases h : a ≤ b
  · rw [if_pos ((nI_leI ha hb).mpr h), if_pos h]
  · rw [if_neg (fun z => h ((nI_leI ha hb).mp z)), if_neg h]
theorem bestO_N {cs py nx : Nat → Int32} {cn pn g : Nat → Nat} {c : Nat} (hc : c ≤ 999) (hx : ∀ x, x ≤ c → nx x = nI (g x) ∧ g x ≤ 100000) : ∀ {k : Nat}, (∀ j, j < k → cs j = nI (cn j) ∧ cn j ≤ 1000000 ∧ py j = nI (pn j) ∧ pn j ≤ 999) → bestO cs py nx c k = nI (mxB cn pn g c k)
  | 0, _ => (hx c (Nat.le_refl _)).1
  | k + 1, h => by
    have ih := bestO_N hc hx (k := k) (fun j hj => h j (by omega))
    obtain ⟨h1, h2, h3, h4⟩ := h k (by omega)
    have hb := mxB_b (cn := cn) (pn := pn) (g := g) (c := c) (k := k) (G := 100000) (fun x hx2 => (hx x hx2).2) (fun j hj => (h j (by omega)).2.2.2)
    rw [bestO, mxB, ih, h1, nI_cl (by omega)]
    by_cases z : cn k ≤ c
    · have h5 := hx (c - cn k) (by omega)
      rw [if_pos ((nI_leI (by omega) (by omega)).mpr z), if_pos z, h3, h5.1, ← nI_A, zMax_nI (by omega) (by omega)]
    · rw [if_neg (fun q => z ((nI_leI (by omega) (by omega)).mp q)), if_neg z]
/-- costs and pays in natural numbers -/
def CPN (cs py : Nat → Nat → Int32) (cn pn : Nat → Nat → Nat) (np : Nat) : Prop := ∀ q k, q < np → k < 16 → cs q k = nI (cn q k) ∧ cn q k ≤ 1000000 ∧ py q k = nI (pn q k) ∧ pn q k ≤ 999
theorem mostR_N {cs py : Nat → Nat → Int32} {cn pn : Nat → Nat → Nat} {np : Nat} (h : CPN cs py cn pn np) (h8 : np ≤ 8) : ∀ {m c : Nat}, m ≤ np → c ≤ 999 → mostR cs py np m c = nI (mN cn pn np m c)
  | 0, _, _, _ => rfl
  | m + 1, c, hm, hc => by
    unfold mostR mN
    refine bestO_N hc (fun x hx => ⟨mostR_N h h8 (by omega) (by omega), ?_⟩) (fun j hj => h _ j (by omega) hj)
    have := mN_b (cn := cn) (pn := pn) (np := np) (m := m) (c := x) (fun q j a b => (h q j a b).2.2.2) (by omega)
    omega
def rmx (f : Nat → Nat) : Nat → Nat
  | 0 => f 0
  | c + 1 => if f (c + 1) ≤ rmx f c then rmx f c else f (c + 1)
theorem rmx_ge {f : Nat → Nat} {x : Nat} : ∀ {c : Nat}, x ≤ c → f x ≤ rmx f c
  | 0, h => by rw [show x = 0 by omega]; exact Nat.le_refl _
  | c + 1, h => by
    rw [rmx]
    rcases (show x = c + 1 ∨ x ≤ c by omega) with rfl | z
    · split <;> omega
    · have := rmx_ge (f := f) z
      split <;> omega
theorem rmx_le {f : Nat → Nat} {v : Nat} : ∀ {c : Nat}, (∀ x, x ≤ c → f x ≤ v) → rmx f c ≤ v
  | 0, h => h 0 (Nat.le_refl _)
  | c + 1, h => by
    rw [rmx]
    have h1 := rmx_le (f := f) (v := v) (c := c) (fun x hx => h x (by omega))
    have h2 := h (c + 1) (Nat.le_refl _)
    split <;> omega
def hiF (f : Nat → Nat) : Nat → Int32
  | 0 => -1
  | c + 1 => nI (rmx f c)
theorem nI_nm1 {a : Nat} (h : a < 2147483648) : ¬ nI a ≤ -1 := fun z => by
  have := i32_le.mp z
  rw [nI_ti h] at this
  have e : ((-1 : Int32)).toInt = -1 := rfl
  omega
theorem hiF_n {f : Nat → Nat} {c : Nat} (hb : ∀ x, x ≤ c → f x ≤ 100000) (h : nI (f c) ≤ hiF f c) : ∃ c2, c = c2 + 1 ∧ rmx f c = rmx f c2 := by
  cases c with
  | zero => exact absurd h (nI_nm1 (by have := hb 0 (Nat.le_refl _); omega))
  | succ c =>
    have h1 := hb (c + 1) (Nat.le_refl _)
    have h2 := rmx_le (f := f) (v := 100000) (c := c) (fun x hx => hb x (by omega))
    exact ⟨c, rfl, by rw [rmx, if_pos ((nI_leI (by omega) (by omega)).mp h)]⟩
theorem hiF_y {f : Nat → Nat} {c : Nat} (hb : ∀ x, x ≤ c → f x ≤ 100000) (h : ¬ nI (f c) ≤ hiF f c) : rmx f c = f c := by
  cases c with
  | zero => rfl
  | succ c =>
    have h1 := hb (c + 1) (Nat.le_refl _)
    have h2 := rmx_le (f := f) (v := 100000) (c := c) (fun x hx => hb x (by omega))
    rw [rmx, if_neg (fun z => h ((nI_leI (by omega) (by omega)).mpr z))]
/-- where the row g goes up, below e -/
def Stq (I : vI) (s : Nat) (g : Nat → Nat) (e n : Nat) : Prop := n ≤ e ∧ I (s + 65) 8 = nI n ∧ ∃ sc : Nat → Nat, (∀ i, i < n → sc i < e ∧ I (s + 69) i = nI (sc i) ∧ I (s + 70) i = nI (g (sc i))) ∧ (∀ i j, i < j → j < n → sc i < sc j) ∧ ∀ c, c < e → ∃ i, i < n ∧ sc i ≤ c ∧ g (sc i) = g c
theorem Stq.no {I J : vI} {s c n : Nat} {g : Nat → Nat} (h : Stq I s g (c + 1) n) (e : g (c + 1) = g c) (e0 : J (s + 65) 8 = I (s + 65) 8) (e1 : J (s + 69) = I (s + 69)) (e2 : J (s + 70) = I (s + 70)) : Stq J s g (c + 2) n := by
  obtain ⟨h1, h2, sc, h3, h4, h5⟩ := h
  refine ⟨by omega, e0.trans h2, sc, fun i hi => ?_, h4, fun x hx => ?_⟩
  · rw [e1, e2]; have := h3 i hi; exact ⟨by omega, this.2⟩
  · rcases (show x = c + 1 ∨ x < c + 1 by omega) with rfl | z
    · obtain ⟨i, g1, g2, g3⟩ := h5 c (by omega)
      exact ⟨i, g1, by omega, by rw [g3, e]⟩
    · exact h5 x z
theorem Stq.yes {I J : vI} {s c n : Nat} {g : Nat → Nat} (h : Stq I s g c n) (e0 : J (s + 65) 8 = nI (n + 1)) (e1 : ∀ i, i ≠ n → J (s + 69) i = I (s + 69) i) (e2 : ∀ i, i ≠ n → J (s + 70) i = I (s + 70) i) (e3 : J (s + 69) n = nI c) (e4 : J (s + 70) n = nI (g c)) : Stq J s g (c + 1) (n + 1) := by
  obtain ⟨h1, h2, sc, h3, h4, h5⟩ := h
  refine ⟨by omega, e0, fun i => if i = n then c else sc i, fun i hi => ?_, fun i j hij hj => ?_, fun x hx => ?_⟩
  · by_cases z : i = n
    · subst z; simp only [if_true]; exact ⟨by omega, e3, e4⟩
    · simp only [if_neg z]; rw [e1 i z, e2 i z]; have := h3 i (by omega); exact ⟨by omega, this.2⟩
  · simp only [if_neg (show ¬ i = n by omega)]
    by_cases z : j = n
    · rw [if_pos z]; exact (h3 i (by omega)).1
    · rw [if_neg z]; exact h4 i j hij (by omega)
  · rcases (show x = c ∨ x < c by omega) with rfl | z
    · exact ⟨n, by omega, by simp only [if_true]; omega, by simp only [if_true]⟩
    · obtain ⟨i, g1, g2, g3⟩ := h5 x z
      exact ⟨i, by omega, by simp only [if_neg (show ¬ i = n by omega)]; exact g2, by simp only [if_neg (show ¬ i = n by omega)]; exact g3⟩
theorem Stq.of {I J : vI} {s e n : Nat} {g g2 : Nat → Nat} (h : Stq I s g e n) (eg : ∀ c, c < e → g c = g2 c) (e0 : J (s + 65) 8 = I (s + 65) 8) (e1 : J (s + 69) = I (s + 69)) (e2 : J (s + 70) = I (s + 70)) : Stq J s g2 e n := by
  obtain ⟨h1, h2, sc, h3, h4, h5⟩ := h
  refine ⟨h1, e0.trans h2, sc, fun i hi => ?_, h4, fun c hc => ?_⟩
  · rw [e1, e2]; have := h3 i hi; exact ⟨this.1, this.2.1, by rw [this.2.2, eg _ this.1]⟩
  · obtain ⟨i, a, b, e⟩ := h5 c hc
    exact ⟨i, a, b, by rw [← eg _ (by omega), ← eg _ hc, e]⟩
theorem fill_mx {cn pn g f : Nat → Nat} {cl c n : Nat} {sc : Nat → Nat} (hc : c ≤ cl) (hg : ∀ x y, x ≤ y → y ≤ cl → g x ≤ g y) (h5 : ∀ x, x < cl + 1 → ∃ i, i < n ∧ sc i ≤ x ∧ g (sc i) = g x) (hU : ∀ x, x ≤ cl → f x ≤ mxB cn pn g x 16) (hL : ∀ x, x ≤ cl → g x ≤ f x) (hK : ∀ j, j < 16 → ∀ i, i < n → 0 < pn j → cn j + sc i ≤ cl → pn j + g (sc i) ≤ f (cn j + sc i)) : rmx f c = mxB cn pn g c 16 := by
  refine Nat.le_antisymm (rmx_le (fun x hx => Nat.le_trans (hU x (by omega)) (mxB_mo hg hx hc))) ?_
  rcases mxB_or (cn := cn) (pn := pn) (g := g) (c := c) (k := 16) with e | ⟨j, a, b, e⟩
  · rw [e]; exact Nat.le_trans (hL c hc) (rmx_ge (Nat.le_refl _))
  · rw [e]
    by_cases z : 0 < pn j
    · obtain ⟨i, i1, i2, i3⟩ := h5 (c - cn j) (by omega)
      rw [← i3]
      exact Nat.le_trans (hK j a i i1 z (by omega)) (rmx_ge (by omega))
    · have h1 := hg (c - cn j) c (by omega) hc
      have h2 := hL c hc
      have h3 := rmx_ge (f := f) (x := c) (c := c) (Nat.le_refl _)
      omega
theorem n16 {q k : Nat} : nI q * 16 + nI k = nI (16 * q + k) := by rw [nI_A, Nat.mul_comm, nI_M]; rfl
theorem n1000 {q : Nat} : nI q * 1000 = nI (1000 * q) := by rw [Nat.mul_comm, nI_M]; rfl
theorem c_X1_findSteps {d : Nat} {S : vS} {I : vI} {L : vL} {Q : vS → vI → vL → Prop} {s a cl : Nat} {f : Nat → Nat} (hc : CutS S (s + 65) s (s + 28) (s + 33)) (ha : a ≤ 8000) (hcl : cl ≤ 999) (hf : ∀ c, c ≤ cl → I (s + 68) (a + c) = nI (f c) ∧ f c ≤ 100000) (h : ∀ I2 n, (∀ b i, ¬ (b = s + 65 ∧ i = 8) → ¬ (b = s + 68 ∧ a ≤ i ∧ i ≤ a + cl) → b ≠ s + 69 → b ≠ s + 70 → I2 b i = I b i) → (∀ c, c ≤ cl → I2 (s + 68) (a + c) = nI (rmx f c)) → Stq I2 s (rmx f) (cl + 1) n → Q S I2 L) : Vc mX1_findSteps d 0 0 [.ref (s + 65), .int (nI a), .int (nI cl)] S I L (VvQ Q) := by
  refine Vc.of rfl (Nat.le_of_ble_eq_true rfl) ?_
  have B := bs_X1_findSteps
  show Vw mX1_findSteps d 0 0 0 0 (VvQ Q) 0 [(0, .ref (s + 65)), (1, .int (nI a)), (2, .int (nI cl))] [] S I L
  have loop : ∀ c, c ≤ cl + 1 → ∀ J n, (∀ b i, ¬ (b = s + 65 ∧ i = 8) → ¬ (b = s + 68 ∧ a ≤ i ∧ i ≤ a + cl) → b ≠ s + 69 → b ≠ s + 70 → J b i = I b i) → (∀ x, x < c → J (s + 68) (a + x) = nI (rmx f x)) → (∀ x, c ≤ x → x ≤ cl → J (s + 68) (a + x) = nI (f x)) → Stq J s (rmx f) c n → Vw mX1_findSteps d 0 0 0 0 (VvQ Q) 10 [(0, .ref (s + 65)), (1, .int (nI a)), (2, .int (nI cl)), (3, .int (hiF f c)), (4, .int (nI c))] [] S J L := by
    refine loop_up (fun c hc2 ih => ?_)
    intro J n fJ eJ oJ sJ
    have sJ2 := sJ
    obtain ⟨s1, s2, -⟩ := sJ
    refine Vw.iload (de_iload (B 10 _ rfl) (B 11 _ rfl)) 4 rfl (n := 12) rfl ?_
    refine Vw.iload_n (de_iload_2 (B 12 _ rfl)) 2 rfl (n := 13) rfl ?_
    refine Vw.icmp_gt (tgt := 86) (n := 16) (de_icmp_gt (B 13 _ rfl) (B 14 _ rfl) (B 15 _ rfl)) rfl rfl (fun c_13 => ?_) (fun c_13 => ?_)
    · have z_13 : ¬ c ≤ cl := fun z => absurd c_13 (Int32.not_lt.mpr ((nI_leI (a := c) (b := cl) (by omega) (by omega)).mpr z))
      obtain rfl : c = cl + 1 := by omega
      exact Vw.vret (de_return_ (B 86 _ rfl)) rfl ⟨rfl, (h J n fJ (fun x hx => eJ x (by omega)) sJ2)⟩
    have z_13 : c ≤ cl := (nI_leI (a := c) (b := cl) (by omega) (by omega)).mp (Int32.not_lt.mp c_13)
    have hb : ∀ x, x ≤ c → f x ≤ 100000 := fun x hx => (hf x (by omega)).2
    refine Vw.aload_n (de_aload_0 (B 16 _ rfl)) 0 rfl (n := 17) rfl ?_
    refine Vw.getR (de_getfield (B 17 _ rfl) (B 18 _ rfl) (B 19 _ rfl)) fl_X1_18 rfl hc.k hc.f5 (n := 20) rfl ?_
    refine Vw.iload_n (de_iload_1 (B 20 _ rfl)) 1 rfl (n := 21) rfl ?_
    refine Vw.iload (de_iload (B 21 _ rfl) (B 22 _ rfl)) 4 rfl (n := 23) rfl ?_
    refine Vw.iadd (de_iadd (B 23 _ rfl)) (n := 24) rfl ?_
    refine Vw.iald (de_iaload (B 24 _ rfl)) hc.r5 (vIx_n (k := a + c) (by simp only [nI_A, nI_M, Int32.zero_add, Int32.add_zero] <;> rfl) (by omega)) (n := 25) rfl ?_
    rw [show J (s + 65 + 3) (a + c) = nI (f c) from oJ c (Nat.le_refl _) z_13]
    refine Vw.iload_n (de_iload_3 (B 25 _ rfl)) 3 rfl (n := 26) rfl ?_
    refine Vw.icmp_le (tgt := 70) (n := 29) (de_icmp_le (B 26 _ rfl) (B 27 _ rfl) (B 28 _ rfl)) rfl rfl (fun c_26 => ?_) (fun c_26 => ?_)
    · refine Vw.aload_n (de_aload_0 (B 70 _ rfl)) 0 rfl (n := 71) rfl ?_
      refine Vw.getR (de_getfield (B 71 _ rfl) (B 72 _ rfl) (B 73 _ rfl)) fl_X1_18 rfl hc.k hc.f5 (n := 74) rfl ?_
      refine Vw.iload_n (de_iload_1 (B 74 _ rfl)) 1 rfl (n := 75) rfl ?_
      refine Vw.iload (de_iload (B 75 _ rfl) (B 76 _ rfl)) 4 rfl (n := 77) rfl ?_
      refine Vw.iadd (de_iadd (B 77 _ rfl)) (n := 78) rfl ?_
      refine Vw.iload_n (de_iload_3 (B 78 _ rfl)) 3 rfl (n := 79) rfl ?_
      refine Vw.iast (de_iastore (B 79 _ rfl)) hc.r5 (vIx_n (k := a + c) (by simp only [nI_A, nI_M, Int32.zero_add, Int32.add_zero] <;> rfl) (by omega)) (n := 80) rfl ?_
      refine Vw.iinc (v := nI (c + 1)) (lv2 := [(0, _), (1, _), (2, _), (3, _), (4, _)]) (de_iinc (B 80 _ rfl) (B 81 _ rfl) (B 82 _ rfl)) 4 rfl (nI_1 c) (by decide) [1, 2, 3, 4, 0] rfl (n := 83) rfl ?_
      refine Vw.goto_ (n := 10) (de_goto_ (B 83 _ rfl) (B 84 _ rfl) (B 85 _ rfl)) rfl ?_
      first
      | (obtain ⟨c2, ec, er⟩ := hiF_n hb c_26
         have eh : hiF f c = nI (rmx f c) := by rw [er, ec]; rfl
         have g := ih (by omega) (up2 J (s + 68) (a + c) (hiF f c)) n (fun b i h1 h2 h3 h4 => by rw [up2_ne (by omega)]; exact fJ b i h1 h2 h3 h4) (fun x hx => by
           rcases (show x = c ∨ x < c by omega) with z | z
           · rw [z, up2_s, eh]
           · rw [up2_k (by omega)]; exact eJ x z) (fun x h1 h2 => by rw [up2_k (by omega)]; exact oJ x (by omega) h2) (by
           rw [ec] at sJ2 ⊢
           exact sJ2.no (by rw [← ec]; exact er) (by rw [up2_a (by omega)]) (up2_row (by omega)) (up2_row (by omega)))
         rw [show hiF f (c + 1) = nI (rmx f c) from rfl, ← eh] at g
         exact g)
      | (have er := hiF_y hb c_26
         have g := ih (by omega) (up2 (up2 (up2 (up2 J (s + 69) n (nI c)) (s + 70) n (nI (f c))) (s + 65) 8 (nI (n + 1))) (s + 68) (a + c) (nI (f c))) (n + 1) (fun b i h1 h2 h3 h4 => by rw [up2_ne (by omega), up2_ne (by omega), up2_ne (by omega), up2_ne (by omega)]; exact fJ b i h1 h2 h3 h4) (fun x hx => by
           rcases (show x = c ∨ x < c by omega) with z | z
           · rw [z, up2_s, er]
           · rw [up2_k (by omega), up2_ne (by omega), up2_ne (by omega), up2_ne (by omega)]; exact eJ x z) (fun x h1 h2 => by rw [up2_k (by omega), up2_ne (by omega), up2_ne (by omega), up2_ne (by omega)]; exact oJ x (by omega) h2)
           (sJ2.yes (by rw [up2_ne (by omega), up2_s]) (fun i hi => by rw [up2_ne (by omega), up2_ne (by omega), up2_ne (by omega), up2_ne (by omega)]) (fun i hi => by rw [up2_ne (by omega), up2_ne (by omega), up2_ne (by omega), up2_ne (by omega)]) (by rw [up2_ne (by omega), up2_ne (by omega), up2_ne (by omega), up2_s]) (by rw [up2_ne (by omega), up2_ne (by omega), up2_s, er]))
         rw [show hiF f (c + 1) = nI (rmx f c) from rfl, er] at g
         exact g)
    refine Vw.aload_n (de_aload_0 (B 29 _ rfl)) 0 rfl (n := 30) rfl ?_
    refine Vw.getR (de_getfield (B 30 _ rfl) (B 31 _ rfl) (B 32 _ rfl)) fl_X1_18 rfl hc.k hc.f5 (n := 33) rfl ?_
    refine Vw.iload_n (de_iload_1 (B 33 _ rfl)) 1 rfl (n := 34) rfl ?_
    refine Vw.iload (de_iload (B 34 _ rfl) (B 35 _ rfl)) 4 rfl (n := 36) rfl ?_
    refine Vw.iadd (de_iadd (B 36 _ rfl)) (n := 37) rfl ?_
    refine Vw.iald (de_iaload (B 37 _ rfl)) hc.r5 (vIx_n (k := a + c) (by simp only [nI_A, nI_M, Int32.zero_add, Int32.add_zero] <;> rfl) (by omega)) (n := 38) rfl ?_
    rw [show J (s + 65 + 3) (a + c) = nI (f c) from oJ c (Nat.le_refl _) z_13]
    refine Vw.istore_n (lv2 := [(0, _), (1, _), (2, _), (3, _), (4, _)]) (de_istore_3 (B 38 _ rfl)) rfl (by decide) [1, 2, 3, 0, 4] rfl (n := 39) rfl ?_
    refine Vw.aload_n (de_aload_0 (B 39 _ rfl)) 0 rfl (n := 40) rfl ?_
    refine Vw.getR (de_getfield (B 40 _ rfl) (B 41 _ rfl) (B 42 _ rfl)) fl_X1_21 rfl hc.k hc.f6 (n := 43) rfl ?_
    refine Vw.aload_n (de_aload_0 (B 43 _ rfl)) 0 rfl (n := 44) rfl ?_
    refine Vw.getI (de_getfield (B 44 _ rfl) (B 45 _ rfl) (B 46 _ rfl)) fl_X1_138 rfl hc.k (n := 47) rfl ?_
    rw [s2]
    refine Vw.iload (de_iload (B 47 _ rfl) (B 48 _ rfl)) 4 rfl (n := 49) rfl ?_
    refine Vw.iast (de_iastore (B 49 _ rfl)) hc.r6 (vIx_n (k := n) rfl (by omega)) (n := 50) rfl ?_
    refine Vw.aload_n (de_aload_0 (B 50 _ rfl)) 0 rfl (n := 51) rfl ?_
    refine Vw.getR (de_getfield (B 51 _ rfl) (B 52 _ rfl) (B 53 _ rfl)) fl_X1_24 rfl hc.k hc.f7 (n := 54) rfl ?_
    refine Vw.aload_n (de_aload_0 (B 54 _ rfl)) 0 rfl (n := 55) rfl ?_
    refine Vw.getI (de_getfield (B 55 _ rfl) (B 56 _ rfl) (B 57 _ rfl)) fl_X1_138 rfl hc.k (n := 58) rfl ?_
    rw [up2_a (show s + 65 ≠ s + 65 + 4 by omega), s2]
    refine Vw.iload_n (de_iload_3 (B 58 _ rfl)) 3 rfl (n := 59) rfl ?_
    refine Vw.iast (de_iastore (B 59 _ rfl)) hc.r7 (vIx_n (k := n) rfl (by omega)) (n := 60) rfl ?_
    refine Vw.aload_n (de_aload_0 (B 60 _ rfl)) 0 rfl (n := 61) rfl ?_
    refine Vw.dup (de_dup (B 61 _ rfl)) rfl (n := 62) rfl ?_
    refine Vw.getI (de_getfield (B 62 _ rfl) (B 63 _ rfl) (B 64 _ rfl)) fl_X1_138 rfl hc.k (n := 65) rfl ?_
    rw [up2_a (show s + 65 ≠ s + 65 + 5 by omega), up2_a (show s + 65 ≠ s + 65 + 4 by omega), s2]
    refine Vw.iconst (v := 1) (de_iconst_1 (B 65 _ rfl)) rfl (n := 66) rfl ?_
    refine Vw.iadd (de_iadd (B 66 _ rfl)) (n := 67) rfl ?_
    rw [nI_1]
    refine Vw.putI (de_putfield (B 67 _ rfl) (B 68 _ rfl) (B 69 _ rfl)) fl_X1_138 hc.k rfl rfl (n := 70) rfl ?_
    refine Vw.aload_n (de_aload_0 (B 70 _ rfl)) 0 rfl (n := 71) rfl ?_
    refine Vw.getR (de_getfield (B 71 _ rfl) (B 72 _ rfl) (B 73 _ rfl)) fl_X1_18 rfl hc.k hc.f5 (n := 74) rfl ?_
    refine Vw.iload_n (de_iload_1 (B 74 _ rfl)) 1 rfl (n := 75) rfl ?_
    refine Vw.iload (de_iload (B 75 _ rfl) (B 76 _ rfl)) 4 rfl (n := 77) rfl ?_
    refine Vw.iadd (de_iadd (B 77 _ rfl)) (n := 78) rfl ?_
    refine Vw.iload_n (de_iload_3 (B 78 _ rfl)) 3 rfl (n := 79) rfl ?_
    refine Vw.iast (de_iastore (B 79 _ rfl)) hc.r5 (vIx_n (k := a + c) (by simp only [nI_A, nI_M, Int32.zero_add, Int32.add_zero] <;> rfl) (by omega)) (n := 80) rfl ?_
    refine Vw.iinc (v := nI (c + 1)) (lv2 := [(0, _), (1, _), (2, _), (3, _), (4, _)]) (de_iinc (B 80 _ rfl) (B 81 _ rfl) (B 82 _ rfl)) 4 rfl (nI_1 c) (by decide) [1, 2, 3, 4, 0] rfl (n := 83) rfl ?_
    refine Vw.goto_ (n := 10) (de_goto_ (B 83 _ rfl) (B 84 _ rfl) (B 85 _ rfl)) rfl ?_
    first
    | (obtain ⟨c2, ec, er⟩ := hiF_n hb c_26
       have eh : hiF f c = nI (rmx f c) := by rw [er, ec]; rfl
       have g := ih (by omega) (up2 J (s + 68) (a + c) (hiF f c)) n (fun b i h1 h2 h3 h4 => by rw [up2_ne (by omega)]; exact fJ b i h1 h2 h3 h4) (fun x hx => by
         rcases (show x = c ∨ x < c by omega) with z | z
         · rw [z, up2_s, eh]
         · rw [up2_k (by omega)]; exact eJ x z) (fun x h1 h2 => by rw [up2_k (by omega)]; exact oJ x (by omega) h2) (by
         rw [ec] at sJ2 ⊢
         exact sJ2.no (by rw [← ec]; exact er) (by rw [up2_a (by omega)]) (up2_row (by omega)) (up2_row (by omega)))
       rw [show hiF f (c + 1) = nI (rmx f c) from rfl, ← eh] at g
       exact g)
    | (have er := hiF_y hb c_26
       have g := ih (by omega) (up2 (up2 (up2 (up2 J (s + 69) n (nI c)) (s + 70) n (nI (f c))) (s + 65) 8 (nI (n + 1))) (s + 68) (a + c) (nI (f c))) (n + 1) (fun b i h1 h2 h3 h4 => by rw [up2_ne (by omega), up2_ne (by omega), up2_ne (by omega), up2_ne (by omega)]; exact fJ b i h1 h2 h3 h4) (fun x hx => by
         rcases (show x = c ∨ x < c by omega) with z | z
         · rw [z, up2_s, er]
         · rw [up2_k (by omega), up2_ne (by omega), up2_ne (by omega), up2_ne (by omega)]; exact eJ x z) (fun x h1 h2 => by rw [up2_k (by omega), up2_ne (by omega), up2_ne (by omega), up2_ne (by omega)]; exact oJ x (by omega) h2)
         (sJ2.yes (by rw [up2_ne (by omega), up2_s]) (fun i hi => by rw [up2_ne (by omega), up2_ne (by omega), up2_ne (by omega), up2_ne (by omega)]) (fun i hi => by rw [up2_ne (by omega), up2_ne (by omega), up2_ne (by omega), up2_ne (by omega)]) (by rw [up2_ne (by omega), up2_ne (by omega), up2_ne (by omega), up2_s]) (by rw [up2_ne (by omega), up2_ne (by omega), up2_s, er]))
       rw [show hiF f (c + 1) = nI (rmx f c) from rfl, er] at g
       exact g)
  refine Vw.aload_n (de_aload_0 (B 0 _ rfl)) 0 rfl (n := 1) rfl ?_
  refine Vw.iconst (v := 0) (de_iconst_0 (B 1 _ rfl)) rfl (n := 2) rfl ?_
  refine Vw.putI (de_putfield (B 2 _ rfl) (B 3 _ rfl) (B 4 _ rfl)) fl_X1_138 hc.k rfl rfl (n := 5) rfl ?_
  refine Vw.iconst (v := -1) (de_iconst_m1 (B 5 _ rfl)) rfl (n := 6) rfl ?_
  refine Vw.istore_n (lv2 := [(0, _), (1, _), (2, _), (3, _)]) (de_istore_3 (B 6 _ rfl)) rfl (by decide) [1, 2, 3, 0] rfl (n := 7) rfl ?_
  refine Vw.iconst (v := 0) (de_iconst_0 (B 7 _ rfl)) rfl (n := 8) rfl ?_
  refine Vw.istore (lv2 := [(0, _), (1, _), (2, _), (3, _), (4, _)]) (de_istore (B 8 _ rfl) (B 9 _ rfl)) (by decide) [1, 2, 3, 4, 0] rfl (n := 10) rfl ?_
  refine loop 0 (Nat.zero_le _) (up2 I (s + 65) 8 0) 0 (fun b i h1 _ _ _ => up2_ne h1) (fun x hx => absurd hx (Nat.not_lt_zero _)) (fun x _ h2 => by rw [up2_a (by omega)]; exact (hf x h2).1) ⟨Nat.le_refl _, up2_s _ _ _ _, fun _ => 0, fun i hi => absurd hi (Nat.not_lt_zero _), fun i j _ hj => absurd hj (Nat.not_lt_zero _), fun x hx => absurd hx (Nat.not_lt_zero _)⟩
