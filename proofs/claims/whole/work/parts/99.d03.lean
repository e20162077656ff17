/-! The reader: what is read, as memory; leaves -/
def rm (I : vI) (s : Nat) (t l c f : Int32) (w : Nat → Int32) : vI := fun a k => if a = s + 74 ∧ k = 8 then t else if a = s + 74 ∧ k = 9 then l else if a = s + 74 ∧ k = 10 then c else if a = s + 74 ∧ k = 11 then f else if a = s + 82 then w k else I a k
section RM
variable {I : vI} {s : Nat} {t l c f v : Int32} {w : Nat → Int32}
theorem rm_8 : rm I s t l c f w (s + 74) 8 = t := by simp [rm]
theorem rm_9 : rm I s t l c f w (s + 74) 9 = l := by simp [rm]
theorem rm_10 : rm I s t l c f w (s + 74) 10 = c := by simp [rm]
theorem rm_11 : rm I s t l c f w (s + 74) 11 = f := by simp [rm]
theorem rm_6 : rm I s t l c f w (s + 74) 6 = I (s + 74) 6 := by simp [rm]
theorem rm_a {a k : Nat} (h : a ≠ s + 74) (h2 : a ≠ s + 82) : rm I s t l c f w a k = I a k := by simp [rm, h, h2]
theorem rm_r {a : Nat} (h : a ≠ s + 74) (h2 : a ≠ s + 82) : rm I s t l c f w a = I a := funext fun _ => rm_a h h2
theorem rm_w {k : Nat} : rm I s t l c f w (s + 82) k = w k := by simp [rm]
theorem rm_kd {k : Nat} : rm I s t l c f w (s + 74 + 9) k = I (s + 83) k := rm_a (by omega) (by omega)
theorem rm_st {k : Nat} : rm I s t l c f w (s + 74 + 10) k = I (s + 84) k := rm_a (by omega) (by omega)
theorem rm_nm {k : Nat} : rm I s t l c f w (s + 74 + 12) k = I (s + 86) k := rm_a (by omega) (by omega)
theorem up_8 : up2 (rm I s t l c f w) (s + 74) 8 v = rm I s v l c f w := by
  funext a k; simp only [up2, rm]
  by_cases h : a = s + 74 ∧ k = 8
  · simp [h]
  · simp [h]
theorem up_9 : up2 (rm I s t l c f w) (s + 74) 9 v = rm I s t v c f w := by
  funext a k; simp only [up2, rm]
  by_cases h : a = s + 74 ∧ k = 9
  · obtain ⟨rfl, rfl⟩ := h; simp
  · simp [h]
theorem up_10 : up2 (rm I s t l c f w) (s + 74) 10 v = rm I s t l v f w := by
  funext a k; simp only [up2, rm]
  by_cases h : a = s + 74 ∧ k = 10
  · obtain ⟨rfl, rfl⟩ := h; simp
  · simp [h]
theorem up_11 : up2 (rm I s t l c f w) (s + 74) 11 v = rm I s t l c v w := by
  funext a k; simp only [up2, rm]
  by_cases h : a = s + 74 ∧ k = 11
  · obtain ⟨rfl, rfl⟩ := h; simp
  · simp [h]
theorem up_w {j : Nat} : up2 (rm I s t l c f w) (s + 82) j v = rm I s t l c f (upK w j v) := by
  funext a k; simp only [up2, rm, upK]
  by_cases h : a = s + 82
  · subst h
    by_cases h2 : k = j
    · subst h2; simp
    · simp [h2]
  · simp [h]
end RM
/-- tokens of one kind throughout -/
def LTk (u : Nat → Int32) (a e : Nat) : Prop := (isSm (u a) = true → ∀ x, a ≤ x → x < e → isSm (u x) = true) ∧ (isDg (u a) = true → ∀ x, a ≤ x → x < e → isDg (u x) = true)
def RX (S : vS) (I : vI) (s tp : Nat) (u cd vl : Nat → Int32) (nt : Nat) (o : Bool) : Prop :=
  ReadS S (s + 74) ∧ S.2.1 (s + 74) 5 = some tp ∧ S.1 tp = (100, 400) ∧ s + 87 ≤ tp ∧ (∀ k, k < 11 → ∃ z, TxS S k z) ∧ I (s + 74) 6 = bI o ∧ nt ≤ 400 ∧ (∀ x, x < 400 → I tp x = u x &&& 255 ∧ bt (u x)) ∧
  (∃ tks : List (Nat × Nat), tks.length = nt ∧ ∀ i a e, tks[i]? = some (a, e) → a < e ∧ e ≤ 400 ∧ I (s + 83) i = knF (u a) ∧ I (s + 84) i = nI a ∧ I (s + 85) i = nI e ∧ I (s + 86) i = nmF u a e ∧ cd i = tCd u a e ∧ vl i = tVl u a e ∧ LTk u a e) ∧
  I (s + 83) nt = 258 ∧ I (s + 86) nt = -1 ∧ cd nt = 0
section RXS
variable {S : vS} {I : vI} {s tp nt i : Nat} {u cd vl : Nat → Int32} {o : Bool}
theorem RX.rd (h : RX S I s tp u cd vl nt o) : ReadS S (s + 74) := h.1
theorem RX.str (h : RX S I s tp u cd vl nt o) : ∀ k, k < 11 → ∃ z, TxS S k z := h.2.2.2.2.1
theorem RX.ord (h : RX S I s tp u cd vl nt o) : I (s + 74) 6 = bI o := h.2.2.2.2.2.1
theorem RX.n4 (h : RX S I s tp u cd vl nt o) : nt ≤ 400 := h.2.2.2.2.2.2.1
theorem RX.c0 (h : RX S I s tp u cd vl nt o) : cd nt = 0 := h.2.2.2.2.2.2.2.2.2.2.2
theorem RX.tok (h : RX S I s tp u cd vl nt o) (hi : i < nt) : ∃ a e, a < e ∧ e ≤ 400 ∧ I (s + 83) i = knF (u a) ∧ I (s + 84) i = nI a ∧ I (s + 85) i = nI e ∧ I (s + 86) i = nmF u a e ∧ cd i = tCd u a e ∧ vl i = tVl u a e ∧ LTk u a e ∧ ∀ x, a ≤ x → x < e → bt (u x) := by
  have hu := h.2.2.2.2.2.2.2.1
  obtain ⟨tks, h1, h2⟩ := h.2.2.2.2.2.2.2.2.1
  have g := h2 i (tks[i]'(by omega)).1 (tks[i]'(by omega)).2 (List.getElem?_eq_getElem (by omega))
  obtain ⟨g1, g2, g3, g4, g5, g6, g7, g8, g9⟩ := g
  exact ⟨_, _, g1, g2, g3, g4, g5, g6, g7, g8, g9, fun x _ hx => (hu x (by omega)).2⟩
theorem wIdx_b {t : List Int32} : ∀ {ws : List (List Int32)} {k : Nat}, wIdx ws t k = 0 ∨ ∃ j, k ≤ j ∧ j < k + ws.length ∧ wIdx ws t k = nI j
  | [], _ => Or.inl rfl
  | w :: ws, k => by
    rw [wIdx]
    split
    · exact Or.inr ⟨k, Nat.le_refl _, by rw [List.length_cons]; omega, rfl⟩
    · rcases wIdx_b (t := t) (ws := ws) (k := k + 1) with h | ⟨j, h1, h2, h3⟩
      · exact Or.inl h
      · exact Or.inr ⟨j, by omega, by rw [List.length_cons]; omega, h3⟩
theorem wordF_b {a e : Nat} : ∃ j, j < 28 ∧ wordF u a e = nI j := by
  unfold wordF
  rcases wIdx_b (t := lett u a e) (ws := WL) (k := 1) with h | ⟨j, h1, h2, h3⟩
  · exact ⟨0, by omega, h⟩
  · exact ⟨j, by have : WL.length = 27 := rfl; omega, h3⟩
theorem RX.sign (h : RX S I s tp u cd vl nt o) (hi : i ≤ nt) {c : Nat} (hc : c < 256) : I (s + 83) i = nI c ↔ cd i = nI (100 + c) := by
  rcases Nat.lt_or_ge i nt with z | z
  · obtain ⟨a, e, g1, g2, g3, g4, g5, g6, g7, g8, g9, g10⟩ := h.tok z
    have hb := g10 a (Nat.le_refl _) g1
    rw [g3, g7]
    unfold knF tCd
    by_cases q1 : isSm (u a) = true
    · rw [if_pos q1, if_pos q1]
      obtain ⟨j, j1, j2⟩ := wordF_b (u := u) (a := a) (e := e)
      rw [j2]
      exact ⟨fun q => absurd (nI_inj (a := 256) (b := c) (by decide) (by omega) q) (by omega), fun q => absurd (nI_inj (by omega) (by omega) q) (by omega)⟩
    · rw [if_neg q1, if_neg q1]
      by_cases q2 : isDg (u a) = true
      · rw [if_pos q2, if_pos q2]
        exact ⟨fun q => absurd (nI_inj (a := 257) (b := c) (by decide) (by omega) q) (by omega), fun q => absurd (nI_inj (a := 50) (b := 100 + c) (by decide) (by omega) q) (by omega)⟩
      · rw [if_neg q2, if_neg q2]
        obtain ⟨x, x1, x2⟩ := (bt_f hb).2.2.2.2
        rw [x2, show (100 : Int32) + nI x = nI (100 + x) from (nI_A 100 x).symm]
        exact ⟨fun q => by rw [nI_inj (by omega) (by omega) q], fun q => by have := nI_inj (by omega) (by omega) q; rw [show x = c by omega]⟩
  · obtain rfl : i = nt := by omega
    rw [h.2.2.2.2.2.2.2.2.2.1, h.c0]
    exact ⟨fun q => absurd (nI_inj (a := 258) (b := c) (by decide) (by omega) q) (by omega), fun q => absurd (nI_inj (a := 0) (b := 100 + c) (by decide) (by omega) q) (by omega)⟩
theorem RX.endk (h : RX S I s tp u cd vl nt o) (hi : i ≤ nt) : I (s + 83) i = 258 ↔ i = nt := by
  refine ⟨fun q => ?_, fun q => by rw [q]; exact h.2.2.2.2.2.2.2.2.2.1⟩
  rcases Nat.lt_or_ge i nt with z | z
  · obtain ⟨a, e, g1, g2, g3, g4, g5, g6, g7, g8, g9, g10⟩ := h.tok z
    have hb := g10 a (Nat.le_refl _) g1
    rw [g3] at q
    unfold knF at q
    by_cases q1 : isSm (u a) = true
    · rw [if_pos q1] at q; exact absurd q (by decide)
    · rw [if_neg q1] at q
      by_cases q2 : isDg (u a) = true
      · rw [if_pos q2] at q; exact absurd q (by decide)
      · rw [if_neg q2] at q
        obtain ⟨x, x1, x2⟩ := (bt_f hb).2.2.2.2
        rw [x2] at q
        exact absurd (nI_inj (a := x) (b := 258) (by omega) (by decide) q) (by omega)
  · omega
theorem nb_tV {a : Nat} : ∀ {j : Nat}, (∀ x, a ≤ x → x < a + j → u x &&& 255 = u x ∧ 48 ≤ (u x).toInt ∧ (u x).toInt ≤ 57) → (nbS u a j = tVs u a j ∧ 0 ≤ (tVs u a j).toInt ∧ (tVs u a j).toInt ≤ 1000) ∨ (nbS u a j = 1001 ∧ 1000 < (tVs u a j).toInt ∧ (tVs u a j).toInt ≤ 20000000)
  | 0, _ => Or.inl ⟨rfl, Int.le_refl 0, by show (0 : Int32).toInt ≤ 1000; decide⟩
  | j + 1, h => by
    have ih := nb_tV (a := a) (j := j) (fun x h1 h2 => h x h1 (by omega))
    obtain ⟨e1, e2, e3⟩ := h (a + j) (by omega) (by omega)
    rw [nbS, tVs, e1]
    unfold tV1
    rcases ih with ⟨i1, i2, i3⟩ | ⟨i1, i2, i3⟩
    · rw [i1, if_pos (i32_le.mpr (by show _ ≤ (1000000 : Int); omega))]
      have m1 : (tVs u a j * 10).toInt = (tVs u a j).toInt * 10 := i32_mul (by show _ ≤ _ * (10 : Int); omega) (by show _ * (10 : Int) < _; omega)
      have m2 : (10 * tVs u a j).toInt = 10 * (tVs u a j).toInt := i32_mul (by show _ ≤ (10 : Int) * _; omega) (by show (10 : Int) * _ < _; omega)
      have a1 : (tVs u a j * 10 + u (a + j)).toInt = (tVs u a j).toInt * 10 + (u (a + j)).toInt := by rw [i32_add (by omega) (by omega), m1]
      have a2 : (10 * tVs u a j + u (a + j)).toInt = (tVs u a j).toInt * 10 + (u (a + j)).toInt := by rw [i32_add (by omega) (by omega), m2]; omega
      have s1 : (tVs u a j * 10 + u (a + j) - 48).toInt = (tVs u a j).toInt * 10 + (u (a + j)).toInt - 48 := by rw [i32_sub (by show _ ≤ _ - (48 : Int); omega) (by show _ - (48 : Int) < _; omega), a1]; rfl
      have s2 : (10 * tVs u a j + u (a + j) - 48).toInt = (tVs u a j).toInt * 10 + (u (a + j)).toInt - 48 := by rw [i32_sub (by show _ ≤ _ - (48 : Int); omega) (by show _ - (48 : Int) < _; omega), a2]; rfl
      have eq : tVs u a j * 10 + u (a + j) - 48 = 10 * tVs u a j + u (a + j) - 48 := i32_eq (by rw [s1, s2])
      rw [eq]
      unfold zMin
      by_cases z : 10 * tVs u a j + u (a + j) - 48 ≤ 1001
      · rw [if_pos z]
        have z2 := i32_le.mp z
        rw [s2, show (1001 : Int32).toInt = 1001 from rfl] at z2
        rcases (show (tVs u a j).toInt * 10 + (u (a + j)).toInt - 48 ≤ 1000 ∨ (tVs u a j).toInt * 10 + (u (a + j)).toInt - 48 = 1001 by omega) with y | y
        · exact Or.inl ⟨rfl, by rw [s2]; omega, by rw [s2]; omega⟩
        · exact Or.inr ⟨i32_eq (by rw [s2, y]; rfl), by rw [s2]; omega, by rw [s2]; omega⟩
      · rw [if_neg z]
        have z2 : ¬ (10 * tVs u a j + u (a + j) - 48).toInt ≤ 1001 := fun q => z (i32_le.mpr q)
        rw [s2] at z2
        exact Or.inr ⟨rfl, by rw [s2]; omega, by rw [s2]; omega⟩
    · rw [i1]
      have c1 : zMin 1001 (1001 * 10 + u (a + j) - 48) = 1001 := by
        unfold zMin
        rw [if_neg]
        intro q
        have q2 := i32_le.mp q
        have a1 : (1001 * 10 + u (a + j)).toInt = 10010 + (u (a + j)).toInt := by rw [i32_add (by show _ ≤ (10010 : Int) + _; omega) (by show (10010 : Int) + _ < _; omega)]; rfl
        rw [i32_sub (by rw [a1]; show _ ≤ _ - (48 : Int); omega) (by rw [a1]; show _ - (48 : Int) < _; omega), a1, show (1001 : Int32).toInt = 1001 from rfl, show (48 : Int32).toInt = 48 from rfl] at q2
        omega
      rw [c1]
      refine Or.inr ⟨rfl, ?_⟩
      split
      · rename_i z
        have z2 := i32_le.mp z
        rw [show (1000000 : Int32).toInt = 1000000 from rfl] at z2
        have m2 : (10 * tVs u a j).toInt = 10 * (tVs u a j).toInt := i32_mul (by show _ ≤ (10 : Int) * _; omega) (by show (10 : Int) * _ < _; omega)
        have a2 : (10 * tVs u a j + u (a + j)).toInt = 10 * (tVs u a j).toInt + (u (a + j)).toInt := by rw [i32_add (by omega) (by omega), m2]
        rw [i32_sub (by rw [a2]; show _ ≤ _ - (48 : Int); omega) (by rw [a2]; show _ - (48 : Int) < _; omega), a2, show (48 : Int32).toInt = 48 from rfl]
        omega
      · exact ⟨i2, i3⟩
/-- numbers of the class, values of the reference -/
theorem RX.num (h : RX S I s tp u cd vl nt o) (hi : i ≤ nt) : (¬ cd i = 50 ∧ I (s + 86) i = -1) ∨ (cd i = 50 ∧ ∃ v, v ≤ 1000 ∧ vl i = nI v ∧ I (s + 86) i = nI v) ∨ (cd i = 50 ∧ 1000 < (vl i).toInt ∧ I (s + 86) i = 1001) := by
  rcases Nat.lt_or_ge i nt with z | z
  · obtain ⟨a, e, g1, g2, g3, g4, g5, g6, g7, g8, g9, g10⟩ := h.tok z
    have hb := g10 a (Nat.le_refl _) g1
    rw [g6, g7, g8]
    unfold nmF tCd tVl
    by_cases q2 : isDg (u a) = true
    · have q1 : ¬ isSm (u a) = true := fun q => by rw [((bt_f hb).2.2.1 q).2] at q2; cases q2
      rw [if_pos q2, if_neg q1, if_pos q2, if_pos q2]
      refine Or.inr ?_
      rcases nb_tV (u := u) (a := a) (j := e - a) (fun x h1 h2 => (bt_f (g10 x h1 (by omega))).2.2.2.1 (g9.2 q2 x h1 (by omega))) with ⟨i1, i2, i3⟩ | ⟨i1, i2, i3⟩
      · obtain ⟨v, v1, v2⟩ := nI_ex (n := 1001) i2 (by omega)
        exact Or.inl ⟨rfl, v, by omega, v2, by rw [i1, v2]⟩
      · exact Or.inr ⟨rfl, i2, i1⟩
    · refine Or.inl ⟨?_, if_neg q2⟩
      by_cases q1 : isSm (u a) = true
      · rw [if_pos q1]
        obtain ⟨j, j1, j2⟩ := wordF_b (u := u) (a := a) (e := e)
        rw [j2]
        exact fun q => absurd (nI_inj (a := j) (b := 50) (by omega) (by decide) q) (by omega)
      · rw [if_neg q1, if_neg q2]
        obtain ⟨x, x1, x2⟩ := (bt_f hb).2.2.2.2
        rw [x2, show (100 : Int32) + nI x = nI (100 + x) from (nI_A 100 x).symm]
        exact fun q => absurd (nI_inj (a := 100 + x) (b := 50) (by omega) (by decide) q) (by omega)
  · obtain rfl : i = nt := by omega
    exact Or.inl ⟨by rw [h.c0]; decide, h.2.2.2.2.2.2.2.2.2.2.1⟩
theorem lsP_far {k : Nat} (hk : k < 11) {c : Nat} (h : 28 ≤ c) (hc : c < 2147483648) : lsP k (nI c) = -1 := by
  have all : ∀ k, k < 11 → ∀ y ∈ lsC.getD k [], ∃ j, j < 28 ∧ y = nI j := by
    have h0 : ∀ k, k < 11 → ∀ y ∈ lsC.getD k [], y.toNatClampNeg < 28 ∧ y = nI y.toNatClampNeg := by decide +kernel
    exact fun k hk y hy => ⟨_, (h0 k hk y hy).1, (h0 k hk y hy).2⟩
  have gen : ∀ ys : List Int32, (∀ y ∈ ys, ∃ j, j < 28 ∧ y = nI j) → ∀ n, lsX ys (nI c) n = -1 := by
    intro ys
    induction ys with
    | nil => intro _ n; rfl
    | cons y ys ih =>
      intro hy n
      obtain ⟨j, j1, j2⟩ := hy y List.mem_cons_self
      rw [lsX, j2, if_neg (fun q => absurd (nI_inj (by omega) (by omega) q) (by omega))]
      exact ih (fun y hy2 => hy y (List.mem_cons_of_mem _ hy2)) _
  exact gen _ (all k hk) 0
end RXS
theorem k_listed {d : Nat} {S : vS} {I : vI} {L : vL} {Q : Int32 → vS → vI → vL → Prop} {s tp nt i : Nat} {u cd vl : Nat → Int32} {o : Bool} {l c f : Int32} {w : Nat → Int32} {k z : Nat} (hx : RX S I s tp u cd vl nt o) (hz : TxS S k z) (hi : i ≤ nt) (h : Q (lsP k (cd i)) S (rm I s (nI i) l c f w) L) : Vc mX5_listed (d + 5) 0 0 [.ref (s + 74), .ref z] S (rm I s (nI i) l c f w) L (ViQ Q) := by
  have h4 := hx.n4
  have htp := hx.2.2.2.1
  refine c_X5_listed (i := i) (k := k) hx.1 hx.2.1 hx.2.2.1 hz rm_8 (by omega) (fun q => ?_) (fun q => ?_)
  · rw [rm_a (by omega) (by omega)] at q
    refine qv ?_ h
    rcases Nat.lt_or_ge i nt with y | y
    · obtain ⟨a, e, g1, g2, g3, g4, g5, g6, g7, g8, g9, g10⟩ := hx.tok y
      have hb := g10 a (Nat.le_refl _) g1
      rw [g3] at q
      have q1 : ¬ isSm (u a) = true := fun z => q (knF_os z)
      rw [g7]
      unfold tCd
      rw [if_neg q1]
      by_cases q2 : isDg (u a) = true
      · rw [if_pos q2]; exact lsP_far hz.1 (c := 50) (by omega) (by omega)
      · rw [if_neg q2]
        obtain ⟨x, x1, x2⟩ := (bt_f hb).2.2.2.2
        rw [x2, show (100 : Int32) + nI x = nI (100 + x) from (nI_A 100 x).symm]
        exact lsP_far hz.1 (by omega) (by omega)
    · rw [show i = nt by omega, hx.c0]; exact (WK_ok k hz.1).2.2.2
  · rw [rm_a (by omega) (by omega)] at q
    have y : i < nt := by
      rcases Nat.lt_or_ge i nt with y | y
      · exact y
      · rw [show i = nt by omega, hx.2.2.2.2.2.2.2.2.2.1] at q; exact absurd q (by decide)
    obtain ⟨a, e, g1, g2, g3, g4, g5, g6, g7, g8, g9, g10⟩ := hx.tok y
    have hb := g10 a (Nat.le_refl _) g1
    rw [g3] at q
    have q1 := knF_s q hb
    refine ⟨a, e, g1, g2, by rw [rm_a (by omega) (by omega)]; exact g4, by rw [rm_a (by omega) (by omega)]; exact g5, ?_⟩
    have eG : (fun x => rm I s (nI i) l c f w tp (a + x)) = fun x => I tp (a + x) := funext fun x => rm_a (by omega) (by omega)
    rw [eG]
    have eL : lsG (fun x => I tp (a + x)) (e - a) (vSby.getD k []) 0 (some 0) = lsP k (cd i) := by
      rw [g7]
      unfold tCd
      rw [if_pos q1, ls_all (by omega) hz.1]
      unfold wordF
      congr 2
      refine List.map_congr_left (fun x hx2 => ?_)
      rw [List.mem_range] at hx2
      show I tp (a + x) = u (a + x)
      rw [(hx.2.2.2.2.2.2.2.1 (a + x) (by omega)).1]
      exact ((bt_f (g10 (a + x) (by omega) (by omega))).2.2.1 (g9.1 q1 (a + x) (by omega) (by omega))).1
    rw [eL]; exact h
def wcd (k : Nat) : Int32 := (lsC.getD k []).getD 0 0
theorem wcd_ok {k : Nat} (h : 4 ≤ k) (hk : k < 11) (c : Int32) : lsP k c = if wcd k = c then 0 else -1 := by
  rcases (show k = 4 ∨ k = 5 ∨ k = 6 ∨ k = 7 ∨ k = 8 ∨ k = 9 ∨ k = 10 by omega) with rfl | rfl | rfl | rfl | rfl | rfl | rfl <;> rfl
theorem k_fail {d : Nat} {S : vS} {I : vI} {L : vL} {Q : Int32 → vS → vI → vL → Prop} {s tp nt i : Nat} {u cd vl : Nat → Int32} {o : Bool} {l c f : Int32} {w : Nat → Int32}  (hx : RX S I s tp u cd vl nt o) (hi : i ≤ nt) (h : Q 0 S (rm I s (nI i) l c (I (s + 84) i) w) L) : Vc mX5_fail d 0 0 [.ref (s + 74)] S (rm I s (nI i) l c f w) L (ViQ Q) := by
  refine Vc.of rfl (Nat.le_of_ble_eq_true rfl) ?_
  have B := bs_X5_fail
  show Vw mX5_fail d 0 0 0 0 (ViQ Q) 0 [(0, .ref (s + 74))] [] S (rm I s (nI i) l c f w) L
  have h4 := hx.n4
  refine Vw.aload_n (de_aload_0 (B 0 _ rfl)) 0 rfl (n := 1) rfl ?_
  refine Vw.aload_n (de_aload_0 (B 1 _ rfl)) 0 rfl (n := 2) rfl ?_
  refine Vw.getR (de_getfield (B 2 _ rfl) (B 3 _ rfl) (B 4 _ rfl)) fl_X5_24 rfl hx.rd.k hx.rd.f2 (n := 5) rfl ?_
  refine Vw.aload_n (de_aload_0 (B 5 _ rfl)) 0 rfl (n := 6) rfl ?_
  refine Vw.getI (de_getfield (B 6 _ rfl) (B 7 _ rfl) (B 8 _ rfl)) fl_X5_48 rfl hx.rd.k (n := 9) rfl ?_
  rw [rm_8]
  refine Vw.iald (de_iaload (B 9 _ rfl)) hx.rd.r2 (vIx_n (k := i) rfl (by omega)) (n := 10) rfl ?_
  rw [rm_st]
  refine Vw.putI (de_putfield (B 10 _ rfl) (B 11 _ rfl) (B 12 _ rfl)) fl_X5_36 hx.rd.k rfl rfl (n := 13) rfl ?_
  rw [up_11]
  refine Vw.iconst (v := 0) (de_iconst_0 (B 13 _ rfl)) rfl (n := 14) rfl ?_
  exact Vw.zret (de_ireturn (B 14 _ rfl)) rfl rfl ⟨_, rfl, h⟩
theorem k_goOnBehind {d : Nat} {S : vS} {I : vI} {L : vL} {Q : Int32 → vS → vI → vL → Prop} {s tp nt i : Nat} {u cd vl : Nat → Int32} {o : Bool} {l c f : Int32} {w : Nat → Int32} {sg : Nat} (hx : RX S I s tp u cd vl nt o) (hi : i ≤ nt) (hsg : sg < 256) (h1 : cd i = nI (100 + sg) → Q 1 S (rm I s (nI (i + 1)) l c f w) L) (h0 : ¬ cd i = nI (100 + sg) → Q 0 S (rm I s (nI i) l c (I (s + 84) i) w) L) : Vc mX5_goOnBehind (d + 1) 0 0 [.ref (s + 74), .int (nI sg)] S (rm I s (nI i) l c f w) L (ViQ Q) := by
  refine Vc.of rfl (Nat.le_of_ble_eq_true rfl) ?_
  have B := bs_X5_goOnBehind
  show Vw mX5_goOnBehind (d + 1) 0 0 0 0 (ViQ Q) 0 [(0, .ref (s + 74)), (1, .int (nI sg))] [] S (rm I s (nI i) l c f w) L
  have h4 := hx.n4
  refine Vw.aload_n (de_aload_0 (B 0 _ rfl)) 0 rfl (n := 1) rfl ?_
  refine Vw.getR (de_getfield (B 1 _ rfl) (B 2 _ rfl) (B 3 _ rfl)) fl_X5_20 rfl hx.rd.k hx.rd.f1 (n := 4) rfl ?_
  refine Vw.aload_n (de_aload_0 (B 4 _ rfl)) 0 rfl (n := 5) rfl ?_
  refine Vw.getI (de_getfield (B 5 _ rfl) (B 6 _ rfl) (B 7 _ rfl)) fl_X5_48 rfl hx.rd.k (n := 8) rfl ?_
  rw [rm_8]
  refine Vw.iald (de_iaload (B 8 _ rfl)) hx.rd.r1 (vIx_n (k := i) rfl (by omega)) (n := 9) rfl ?_
  rw [rm_kd]
  refine Vw.iload_n (de_iload_1 (B 9 _ rfl)) 1 rfl (n := 10) rfl ?_
  refine Vw.icmp_eq (tgt := 18) (n := 13) (de_icmp_eq (B 10 _ rfl) (B 11 _ rfl) (B 12 _ rfl)) rfl rfl (fun c_10 => ?_) (fun c_10 => ?_)
  · refine Vw.aload_n (de_aload_0 (B 18 _ rfl)) 0 rfl (n := 19) rfl ?_
    refine Vw.dup (de_dup (B 19 _ rfl)) rfl (n := 20) rfl ?_
    refine Vw.getI (de_getfield (B 20 _ rfl) (B 21 _ rfl) (B 22 _ rfl)) fl_X5_48 rfl hx.rd.k (n := 23) rfl ?_
    rw [rm_8]
    refine Vw.iconst (v := 1) (de_iconst_1 (B 23 _ rfl)) rfl (n := 24) rfl ?_
    refine Vw.iadd (de_iadd (B 24 _ rfl)) (n := 25) rfl ?_
    rw [nI_1]
    refine Vw.putI (de_putfield (B 25 _ rfl) (B 26 _ rfl) (B 27 _ rfl)) fl_X5_48 hx.rd.k rfl rfl (n := 28) rfl ?_
    rw [up_8]
    refine Vw.iconst (v := 1) (de_iconst_1 (B 28 _ rfl)) rfl (n := 29) rfl ?_
    exact Vw.zret (de_ireturn (B 29 _ rfl)) rfl rfl ⟨_, rfl, (h1 ((hx.sign hi hsg).mp c_10))⟩
  refine Vw.aload_n (de_aload_0 (B 13 _ rfl)) 0 rfl (n := 14) rfl ?_
  refine Vw.ivi0 (mi' := mX5_fail) (de_invokevirtual (B 14 _ rfl) (B 15 _ rfl) (B 16 _ rfl)) ml_X5_67 mv_X5_fail hx.rd.k (Nat.le_of_ble_eq_true rfl) (n := 17) rfl (k_fail hx hi ?_)
  exact Vw.zret (de_ireturn (B 17 _ rfl)) rfl rfl ⟨_, rfl, (h0 (fun z => c_10 ((hx.sign hi hsg).mpr z)))⟩
theorem or16 {o k : Nat} (ho : o < 16) (hk : k ≤ 1000000) : nI o ||| (nI k <<< ((4 : Int32) &&& 31)) = nI (o + 16 * k) := by
  rw [pk_shlN ((4 : Int32) &&& 31) 4 rfl (by omega)]
  refine Int32.toBitVec_inj.mp (BitVec.eq_of_toNat_eq ?_)
  rw [Int32.toBitVec_or, BitVec.toNat_or, pk_tn (by omega), pk_tn (by omega), pk_tn (by omega)]
  have e := Nat.shiftLeft_add_eq_or_of_lt (b := o) (i := 4) (by omega) k
  rw [Nat.shiftLeft_eq] at e
  rw [Nat.or_comm, ← e]
  omega
theorem k_emit {d : Nat} {S : vS} {I : vI} {L : vL} {Q : Int32 → vS → vI → vL → Prop} {s tp nt : Nat} {u cd vl : Nat → Int32} {o : Bool} {l f : Int32} {w : Nat → Int32} {op k n : Nat} {t : Int32} (hx : RX S I s tp u cd vl nt o) (hop : op < 16) (hk : k ≤ 1000000) (hn : n < 400) (h : Q (nI n) S (rm I s t l (nI (n + 1)) f (upK w n (nI (op + 16 * k)))) L) : Vc mX5_emit d 0 0 [.ref (s + 74), .int (nI op), .int (nI k)] S (rm I s t l (nI n) f w) L (ViQ Q) := by
  refine Vc.of rfl (Nat.le_of_ble_eq_true rfl) ?_
  have B := bs_X5_emit
  show Vw mX5_emit d 0 0 0 0 (ViQ Q) 0 [(0, .ref (s + 74)), (1, .int (nI op)), (2, .int (nI k))] [] S (rm I s t l (nI n) f w) L
  have h4 := hx.n4
  refine Vw.aload_n (de_aload_0 (B 0 _ rfl)) 0 rfl (n := 1) rfl ?_
  refine Vw.getI (de_getfield (B 1 _ rfl) (B 2 _ rfl) (B 3 _ rfl)) fl_X5_54 rfl hx.rd.k (n := 4) rfl ?_
  rw [rm_10]
  refine Vw.aload_n (de_aload_0 (B 4 _ rfl)) 0 rfl (n := 5) rfl ?_
  refine Vw.getR (de_getfield (B 5 _ rfl) (B 6 _ rfl) (B 7 _ rfl)) fl_X5_14 rfl hx.rd.k hx.rd.f0 (n := 8) rfl ?_
  refine Vw.getR (de_getfield (B 8 _ rfl) (B 9 _ rfl) (B 10 _ rfl)) fl_X5_175 rfl hx.rd.p0.k hx.rd.p0.f7 (n := 11) rfl ?_
  refine Vw.alen (de_arraylength (B 11 _ rfl)) hx.rd.p0.r7 (i := nI 400) rfl (n := 12) rfl ?_
  refine Vw.icmp_lt (tgt := 17) (n := 15) (de_icmp_lt (B 12 _ rfl) (B 13 _ rfl) (B 14 _ rfl)) rfl rfl (fun c_12 => ?_) (fun c_12 => ?_)
  · refine Vw.aload_n (de_aload_0 (B 17 _ rfl)) 0 rfl (n := 18) rfl ?_
    refine Vw.getR (de_getfield (B 18 _ rfl) (B 19 _ rfl) (B 20 _ rfl)) fl_X5_14 rfl hx.rd.k hx.rd.f0 (n := 21) rfl ?_
    refine Vw.getR (de_getfield (B 21 _ rfl) (B 22 _ rfl) (B 23 _ rfl)) fl_X5_175 rfl hx.rd.p0.k hx.rd.p0.f7 (n := 24) rfl ?_
    refine Vw.aload_n (de_aload_0 (B 24 _ rfl)) 0 rfl (n := 25) rfl ?_
    refine Vw.getI (de_getfield (B 25 _ rfl) (B 26 _ rfl) (B 27 _ rfl)) fl_X5_54 rfl hx.rd.k (n := 28) rfl ?_
    rw [rm_10]
    refine Vw.iload_n (de_iload_1 (B 28 _ rfl)) 1 rfl (n := 29) rfl ?_
    refine Vw.iload_n (de_iload_2 (B 29 _ rfl)) 2 rfl (n := 30) rfl ?_
    refine Vw.iconst (v := 4) (de_iconst_4 (B 30 _ rfl)) rfl (n := 31) rfl ?_
    refine Vw.ishl (de_ishl (B 31 _ rfl)) (n := 32) rfl ?_
    refine Vw.ior (de_ior (B 32 _ rfl)) (n := 33) rfl ?_
    rw [or16 hop hk]
    refine Vw.iast (de_iastore (B 33 _ rfl)) hx.rd.p0.r7 (vIx_n (k := n) rfl (by omega)) (n := 34) rfl ?_
    rw [show s + 74 + 1 + 7 = s + 82 from rfl, up_w]
    refine Vw.aload_n (de_aload_0 (B 34 _ rfl)) 0 rfl (n := 35) rfl ?_
    refine Vw.dup (de_dup (B 35 _ rfl)) rfl (n := 36) rfl ?_
    refine Vw.getI (de_getfield (B 36 _ rfl) (B 37 _ rfl) (B 38 _ rfl)) fl_X5_54 rfl hx.rd.k (n := 39) rfl ?_
    rw [rm_10]
    refine Vw.iconst (v := 1) (de_iconst_1 (B 39 _ rfl)) rfl (n := 40) rfl ?_
    refine Vw.iadd (de_iadd (B 40 _ rfl)) (n := 41) rfl ?_
    rw [nI_1]
    refine Vw.putI (de_putfield (B 41 _ rfl) (B 42 _ rfl) (B 43 _ rfl)) fl_X5_54 hx.rd.k rfl rfl (n := 44) rfl ?_
    rw [up_10]
    refine Vw.aload_n (de_aload_0 (B 44 _ rfl)) 0 rfl (n := 45) rfl ?_
    refine Vw.getI (de_getfield (B 45 _ rfl) (B 46 _ rfl) (B 47 _ rfl)) fl_X5_54 rfl hx.rd.k (n := 48) rfl ?_
    rw [rm_10]
    refine Vw.iconst (v := 1) (de_iconst_1 (B 48 _ rfl)) rfl (n := 49) rfl ?_
    refine Vw.isub (de_isub (B 49 _ rfl)) (n := 50) rfl ?_
    rw [dn_p]
    exact Vw.iret (de_ireturn (B 50 _ rfl)) rfl ⟨_, rfl, h⟩
  exact absurd (i32_lt.mpr (by rw [nI_ti (by omega), nI_ti (by omega)]; omega)) c_12
theorem k_landHere {d : Nat} {S : vS} {I : vI} {L : vL} {Q : vS → vI → vL → Prop} {s tp nt : Nat} {u cd vl : Nat → Int32} {o : Bool} {l f : Int32} {w : Nat → Int32} {op b n : Nat} {t : Int32} (hx : RX S I s tp u cd vl nt o) (hop : op < 16) (hb : b < 400) (hn : n ≤ 400) (h : Q S (rm I s t l (nI n) f (upK w b (nI (op + 16 * n)))) L) : Vc mX5_landHere d 0 0 [.ref (s + 74), .int (nI b), .int (nI op)] S (rm I s t l (nI n) f w) L (VvQ Q) := by
  refine Vc.of rfl (Nat.le_of_ble_eq_true rfl) ?_
  have B := bs_X5_landHere
  show Vw mX5_landHere d 0 0 0 0 (VvQ Q) 0 [(0, .ref (s + 74)), (1, .int (nI b)), (2, .int (nI op))] [] S (rm I s t l (nI n) f w) L
  have h4 := hx.n4
  refine Vw.iload_n (de_iload_1 (B 0 _ rfl)) 1 rfl (n := 1) rfl ?_
  refine Vw.if_lt (tgt := 33) (n := 4) (de_if_lt (B 1 _ rfl) (B 2 _ rfl) (B 3 _ rfl)) rfl rfl (fun c_1 => ?_) (fun c_1 => ?_)
  · exact absurd c_1 (nn_nI (by omega))
  refine Vw.iload_n (de_iload_1 (B 4 _ rfl)) 1 rfl (n := 5) rfl ?_
  refine Vw.aload_n (de_aload_0 (B 5 _ rfl)) 0 rfl (n := 6) rfl ?_
  refine Vw.getR (de_getfield (B 6 _ rfl) (B 7 _ rfl) (B 8 _ rfl)) fl_X5_14 rfl hx.rd.k hx.rd.f0 (n := 9) rfl ?_
  refine Vw.getR (de_getfield (B 9 _ rfl) (B 10 _ rfl) (B 11 _ rfl)) fl_X5_175 rfl hx.rd.p0.k hx.rd.p0.f7 (n := 12) rfl ?_
  refine Vw.alen (de_arraylength (B 12 _ rfl)) hx.rd.p0.r7 (i := nI 400) rfl (n := 13) rfl ?_
  refine Vw.icmp_ge (tgt := 33) (n := 16) (de_icmp_ge (B 13 _ rfl) (B 14 _ rfl) (B 15 _ rfl)) rfl rfl (fun c_13 => ?_) (fun c_13 => ?_)
  · exact absurd ((nI_leI (a := 400) (b := b) (by omega) (by omega)).mp c_13) (by omega)
  refine Vw.aload_n (de_aload_0 (B 16 _ rfl)) 0 rfl (n := 17) rfl ?_
  refine Vw.getR (de_getfield (B 17 _ rfl) (B 18 _ rfl) (B 19 _ rfl)) fl_X5_14 rfl hx.rd.k hx.rd.f0 (n := 20) rfl ?_
  refine Vw.getR (de_getfield (B 20 _ rfl) (B 21 _ rfl) (B 22 _ rfl)) fl_X5_175 rfl hx.rd.p0.k hx.rd.p0.f7 (n := 23) rfl ?_
  refine Vw.iload_n (de_iload_1 (B 23 _ rfl)) 1 rfl (n := 24) rfl ?_
  refine Vw.iload_n (de_iload_2 (B 24 _ rfl)) 2 rfl (n := 25) rfl ?_
  refine Vw.aload_n (de_aload_0 (B 25 _ rfl)) 0 rfl (n := 26) rfl ?_
  refine Vw.getI (de_getfield (B 26 _ rfl) (B 27 _ rfl) (B 28 _ rfl)) fl_X5_54 rfl hx.rd.k (n := 29) rfl ?_
  rw [rm_10]
  refine Vw.iconst (v := 4) (de_iconst_4 (B 29 _ rfl)) rfl (n := 30) rfl ?_
  refine Vw.ishl (de_ishl (B 30 _ rfl)) (n := 31) rfl ?_
  refine Vw.ior (de_ior (B 31 _ rfl)) (n := 32) rfl ?_
  rw [or16 hop (show n ≤ 1000000 by omega)]
  refine Vw.iast (de_iastore (B 32 _ rfl)) hx.rd.p0.r7 (vIx_n (k := b) rfl (by omega)) (n := 33) rfl ?_
  first | rw [show s + 74 + 1 + 7 = s + 82 from rfl, up_w] | skip
  exact Vw.vret (de_return_ (B 33 _ rfl)) rfl ⟨rfl, h⟩
theorem k_isWord {d : Nat} {S : vS} {I : vI} {L : vL} {Q : Int32 → vS → vI → vL → Prop} {s tp nt i : Nat} {u cd vl : Nat → Int32} {o : Bool} {l c f : Int32} {w : Nat → Int32} {k z : Nat} (hx : RX S I s tp u cd vl nt o) (hz : TxS S k z) (h4k : 4 ≤ k) (hi : i ≤ nt) (h1 : cd i = wcd k → Q 1 S (rm I s (nI i) l c f w) L) (h0 : ¬ cd i = wcd k → Q 0 S (rm I s (nI i) l c f w) L) : Vc mX5_isWord (d + 6) 0 0 [.ref (s + 74), .ref z] S (rm I s (nI i) l c f w) L (ViQ Q) := by
  refine Vc.of rfl (Nat.le_of_ble_eq_true rfl) ?_
  have B := bs_X5_isWord
  show Vw mX5_isWord (d + 6) 0 0 0 0 (ViQ Q) 0 [(0, .ref (s + 74)), (1, .ref z)] [] S (rm I s (nI i) l c f w) L
  have h4 := hx.n4
  refine Vw.aload_n (de_aload_0 (B 0 _ rfl)) 0 rfl (n := 1) rfl ?_
  refine Vw.aload_n (de_aload_1 (B 1 _ rfl)) 1 rfl (n := 2) rfl ?_
  refine Vw.ivi1 (mi' := mX5_listed) (de_invokevirtual (B 2 _ rfl) (B 3 _ rfl) (B 4 _ rfl)) ml_X5_95 mv_X5_listed hx.rd.k (Nat.le_of_ble_eq_true rfl) (n := 5) rfl (k_listed hx hz hi ?_)
  rw [wcd_ok h4k hz.1]
  refine Vw.if_ne (tgt := 12) (n := 8) (de_if_ne (B 5 _ rfl) (B 6 _ rfl) (B 7 _ rfl)) rfl rfl (fun c_5 => ?_) (fun c_5 => ?_)
  · refine Vw.iconst (v := 0) (de_iconst_0 (B 12 _ rfl)) rfl (n := 13) rfl ?_
    exact Vw.zret (de_ireturn (B 13 _ rfl)) rfl rfl ⟨_, rfl, (by
    by_cases q : wcd k = cd i
    · rw [if_pos q] at c_5
      first | exact h1 q.symm | exact absurd rfl c_5
    · rw [if_neg q] at c_5
      first | exact h0 (fun z => q z.symm) | exact absurd c_5 (by decide))⟩
  refine Vw.iconst (v := 1) (de_iconst_1 (B 8 _ rfl)) rfl (n := 9) rfl ?_
  refine Vw.goto_ (n := 13) (de_goto_ (B 9 _ rfl) (B 10 _ rfl) (B 11 _ rfl)) rfl ?_
  exact Vw.zret (de_ireturn (B 13 _ rfl)) rfl rfl ⟨_, rfl, (by
    by_cases q : wcd k = cd i
    · rw [if_pos q] at c_5
      first | exact h1 q.symm | exact absurd rfl c_5
    · rw [if_neg q] at c_5
      first | exact h0 (fun z => q z.symm) | exact absurd c_5 (by decide))⟩
