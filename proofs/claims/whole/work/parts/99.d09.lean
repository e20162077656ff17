/-! The reader: CLAUSES -/
theorem up_I {I : vI} {s a k : Nat} {t l c f v : Int32} {w : Nat → Int32} (h : a ≠ s + 74) (h2 : a ≠ s + 82) : up2 (rm I s t l c f w) a k v = rm (up2 I a k v) s t l c f w := by
  funext b j
  by_cases q : b = a ∧ j = k
  · obtain ⟨rfl, rfl⟩ := q
    rw [up2_s, rm_a h h2, up2_s]
  · rw [up2_n q]
    unfold rm
    rw [up2_n q]
def FrC (I I2 : vI) (s n : Nat) : Prop := ∀ b x, ¬ (s + 76 ≤ b ∧ b ≤ s + 81 ∧ x = n) → I2 b x = I b x
theorem FrC.rfl {I : vI} {s n : Nat} : FrC I I s n := fun _ _ _ => Eq.refl _
theorem FrC.up {I I2 : vI} {s n a : Nat} {v : Int32} (h : FrC I I2 s n) (h1 : s + 76 ≤ a) (h2 : a ≤ s + 81) : FrC I (up2 I2 a n v) s n := fun b x q => by rw [up2_n (fun z => q ⟨by omega, by omega, z.2⟩)]; exact h b x q
theorem FrC.row {I I2 : vI} {s n b : Nat} (h : FrC I I2 s n) (hb : ¬ (s + 76 ≤ b ∧ b ≤ s + 81)) : I2 b = I b := funext fun x => h b x (fun z => hb ⟨z.1, z.2.1⟩)
theorem RX.fr {S : vS} {I I2 : vI} {s tp nt n : Nat} {u cd vl : Nat → Int32} {o : Bool} (h : RX S I s tp u cd vl nt o) (g : FrC I I2 s n) : RX S I2 s tp u cd vl nt o := by
  obtain ⟨h1, h2, h3, h4, h5, h6, h7, h8, h9, h10, h11, h12⟩ := h
  refine ⟨h1, h2, h3, h4, h5, by rw [g.row (by omega)]; exact h6, h7, fun x hx => by rw [g.row (by omega)]; exact h8 x hx, ?_, by rw [g.row (by omega)]; exact h10, by rw [g.row (by omega)]; exact h11, h12⟩
  obtain ⟨tks, a1, a2⟩ := h9
  exact ⟨tks, a1, fun i a e q => by rw [g.row (show ¬ (s + 76 ≤ s + 83 ∧ s + 83 ≤ s + 81) by omega), g.row (show ¬ (s + 76 ≤ s + 84 ∧ s + 84 ≤ s + 81) by omega), g.row (show ¬ (s + 76 ≤ s + 85 ∧ s + 85 ≤ s + 81) by omega), g.row (show ¬ (s + 76 ≤ s + 86 ∧ s + 86 ≤ s + 81) by omega)]; exact a2 i a e q⟩
def OKw (w : Nat → Int32) (a b : Nat) : Prop := ∀ x, a ≤ x → x < b → ∃ o k, o ≤ 12 ∧ k ≤ 1000000 ∧ w x = nI (o + 16 * k)
theorem OKw.of {w w2 : Nat → Int32} {a b : Nat} (h : OKw w a b) (e : ∀ x, a ≤ x → x < b → w2 x = w x) : OKw w2 a b := fun x h1 h2 => by rw [e x h1 h2]; exact h x h1 h2
theorem OKw.app {w : Nat → Int32} {a b c : Nat} (h : OKw w a b) (g : OKw w b c) : OKw w a c := fun x h1 h2 => by
  rcases Nat.lt_or_ge x b with z | z
  · exact h x h1 z
  · exact g x z h2
theorem OKw.nil {w : Nat → Int32} {a : Nat} : OKw w a a := fun x h1 h2 => by omega
def vbX (o : Bool) (c : Int32) : Int32 := if o = true then vbO c else vbL c
def nbX (o : Bool) : Int32 := if o = true then 16 else 5
def dNX (o : Bool) : tD := if o = true then tD0 else tD1
/-- the first and the second SUM of a CLAUSE as they stand in the code -/
def CQ1 (o : Bool) (w : Nat → Int32) (v : Int32) (a b : tD) (c fe se : Nat) : Prop := c ≤ fe ∧ fe ≤ se ∧
  ((c < fe ∧ ¬ v = nbX o ∧ WC2 (klO o) w c fe a 20) ∨ (c = fe ∧ v = nbX o ∧ a = dNX o)) ∧ ((fe < se ∧ WC2 (klO o) w fe se b 20) ∨ (fe = se ∧ b = tD0 ∧ ¬ v = 21 ∧ ¬ v = 23))
theorem CQ1.of {o : Bool} {w w2 : Nat → Int32} {v : Int32} {a b : tD} {c fe se : Nat} (h : CQ1 o w v a b c fe se) (e : ∀ x, x < se → w2 x = w x) : CQ1 o w2 v a b c fe se := by
  obtain ⟨h1, h2, h3, h4⟩ := h
  refine ⟨h1, h2, ?_, ?_⟩
  · rcases h3 with ⟨q1, q2, q3⟩ | q
    · exact Or.inl ⟨q1, q2, q3.of (fun x _ g => e x (by omega))⟩
    · exact Or.inr q
  · rcases h4 with ⟨q1, q2⟩ | q
    · exact Or.inl ⟨q1, q2.of (fun x _ g => e x g)⟩
    · exact Or.inr q
def CQ (o : Bool) (I : vI) (w : Nat → Int32) (s n : Nat) (cl : tC) (c c2 : Nat) : Prop := ∃ fe se : Nat, I (s + 78) n = nI c ∧ I (s + 79) n = nI fe ∧ I (s + 80) n = nI se ∧ I (s + 81) n = nI c2 ∧ I (s + 77) n = cl.2.2.2.1 ∧ I (s + 76) n = vbX o cl.1 ∧ CQ1 o w cl.1 cl.2.1 cl.2.2.1 c fe se ∧ se ≤ c2 ∧
  ((se = c2 ∧ cl.2.2.2.2 = none) ∨ (se < c2 ∧ ∃ t, cl.2.2.2.2 = some t ∧ WC2 (klO o) w se c2 t 20))
theorem ls1 (c : Int32) : (∃ k, k < 5 ∧ c = nI (1 + k) ∧ lsP 1 c = nI k ∧ (isVerb c = true ↔ k < 4) ∧ vbL c = nI k) ∨ (lsP 1 c = -1 ∧ ¬ isVerb c = true ∧ ¬ c = 5) := by
  by_cases h : ∃ k : Fin 5, c = nI (1 + k.1)
  · obtain ⟨k, rfl⟩ := h
    have all : ∀ k : Fin 5, lsP 1 (nI (1 + k.1)) = nI k.1 ∧ (isVerb (nI (1 + k.1)) = true ↔ k.1 < 4) ∧ vbL (nI (1 + k.1)) = nI k.1 := by decide
    exact Or.inl ⟨k.1, k.2, rfl, (all k).1, (all k).2.1, (all k).2.2⟩
  · have ne : ∀ k : Fin 5, ¬ nI (1 + k.1) = c := fun k q => h ⟨k, q.symm⟩
    refine Or.inr ⟨?_, ?_, fun q => ne 4 q.symm⟩
    · unfold lsP
      show lsX [1, 2, 3, 4, 5] c 0 = -1
      simp only [lsX]
      rw [if_neg (show ¬ (1 : Int32) = c from ne 0), if_neg (show ¬ (2 : Int32) = c from ne 1), if_neg (show ¬ (3 : Int32) = c from ne 2), if_neg (show ¬ (4 : Int32) = c from ne 3), if_neg (show ¬ (5 : Int32) = c from ne 4)]
    · intro q
      unfold isVerb at q
      simp only [Bool.or_eq_true, decide_eq_true_eq] at q
      rcases q with ((q | q) | q) | q
      · exact ne 0 q.symm
      · exact ne 1 q.symm
      · exact ne 2 q.symm
      · exact ne 3 q.symm
theorem ls0 (c : Int32) : (c = 21 ∧ lsP 0 c = 0) ∨ (c = 23 ∧ lsP 0 c = 1) ∨ (c = 25 ∧ lsP 0 c = 2) ∨ (c = 26 ∧ lsP 0 c = 3) ∨ (c = 16 ∧ lsP 0 c = 4) ∨ (lsP 0 c = -1 ∧ ¬ c = 21 ∧ ¬ c = 23 ∧ ¬ c = 25 ∧ ¬ c = 26 ∧ ¬ c = 16) := by
  by_cases h1 : c = 21
  · subst h1; exact Or.inl ⟨rfl, by decide⟩
  by_cases h2 : c = 23
  · subst h2; exact Or.inr (Or.inl ⟨rfl, by decide⟩)
  by_cases h3 : c = 25
  · subst h3; exact Or.inr (Or.inr (Or.inl ⟨rfl, by decide⟩))
  by_cases h4 : c = 26
  · subst h4; exact Or.inr (Or.inr (Or.inr (Or.inl ⟨rfl, by decide⟩)))
  by_cases h5 : c = 16
  · subst h5; exact Or.inr (Or.inr (Or.inr (Or.inr (Or.inl ⟨rfl, by decide⟩))))
  refine Or.inr (Or.inr (Or.inr (Or.inr (Or.inr ⟨?_, h1, h2, h3, h4, h5⟩))))
  unfold lsP
  show lsX [21, 23, 25, 26, 16] c 0 = -1
  simp only [lsX]
  rw [if_neg (fun q => h1 q.symm), if_neg (fun q => h2 q.symm), if_neg (fun q => h3 q.symm), if_neg (fun q => h4 q.symm), if_neg (fun q => h5 q.symm)]
theorem lie120 {v : Nat} (hv : v ≤ 1000) : ¬ zLie (nI v) 1 20 = 0 ↔ 1 ≤ v ∧ v ≤ 20 := by
  rw [zLie_iff, nI_ti (by omega)]
  show (1 : Int) ≤ _ ∧ _ ≤ (20 : Int) ↔ _
  omega
theorem lie120_big {x : Int32} (h : 1000 < x.toInt) : zLie x 1 20 = 0 := by
  rcases zLie_01 x 1 20 with z | z
  · exact z
  · have := (zLie_iff x 1 20).mp (by rw [z]; decide)
    have e : (20 : Int32).toInt = 20 := rfl
    omega
theorem kr_second0  : KR mX5_readSecond (33) [.int 0] (fun cd vl o => fun i l => if cd i = 22 then pSum cd vl o 8 (i + 1) l else .error i) (19) false := by
  intro d S I L Q s tp u cd vl nt o i l c f w hx hi hl hci h1 h0
  dsimp only at h1 h0
  have h4 := hx.n4
  refine Vc.of rfl (Nat.le_of_ble_eq_true rfl) ?_
  have B := bs_X5_readSecond
  show Vw mX5_readSecond (d + (33)) 0 0 0 0 (ViQ Q) 0 [(0, .ref (s + 74)), (1, .int 0)] [] S (rm I s (nI i) (nI l) (nI c) f w) L
  refine Vw.aload_n (de_aload_0 (B 0 _ rfl)) 0 rfl (n := 1) rfl ?_
  refine Vw.iload_n (de_iload_1 (B 1 _ rfl)) 1 rfl (n := 2) rfl ?_
  refine Vw.if_ne (tgt := 10) (n := 5) (de_if_ne (B 2 _ rfl) (B 3 _ rfl) (B 4 _ rfl)) rfl rfl (fun c_2 => ?_) (fun c_2 => ?_)
  · exact absurd rfl c_2
  obtain ⟨z5, hz5⟩ := hx.str 4 (by decide)
  refine Vw.ldcS (i := 4) (de_ldc (B 5 _ rfl) (B 6 _ rfl)) rfl (by decide) hz5.2.1 (n := 7) rfl ?_
  refine Vw.goto_ (n := 12) (de_goto_ (B 7 _ rfl) (B 8 _ rfl) (B 9 _ rfl)) rfl ?_
  refine Vw.ivi1 (mi' := mX5_isWord) (de_invokevirtual (B 12 _ rfl) (B 13 _ rfl) (B 14 _ rfl)) ml_X5_119 mv_X5_isWord hx.rd.k (Nat.le_of_ble_eq_true rfl) (n := 15) rfl (k_isWord (i := i) hx hz5 (by decide) hi (fun c12 => ?_) (fun c12 => ?_))
  · have c12b : cd i = 22 := c12
    have i1 : i < nt := by
      rcases Nat.lt_or_ge i nt with z | z
      · exact z
      · rw [show i = nt by omega, hx.c0] at c12b; exact absurd c12b (by decide)
    refine Vw.if_ne (tgt := 23) (n := 18) (de_if_ne (B 15 _ rfl) (B 16 _ rfl) (B 17 _ rfl)) rfl rfl (fun c_15 => ?_) (fun c_15 => ?_)
    · refine Vw.aload_n (de_aload_0 (B 23 _ rfl)) 0 rfl (n := 24) rfl ?_
      refine Vw.dup (de_dup (B 24 _ rfl)) rfl (n := 25) rfl ?_
      refine Vw.getI (de_getfield (B 25 _ rfl) (B 26 _ rfl) (B 27 _ rfl)) fl_X5_48 rfl hx.rd.k (n := 28) rfl ?_
      rw [rm_8]
      refine Vw.iconst (v := 1) (de_iconst_1 (B 28 _ rfl)) rfl (n := 29) rfl ?_
      refine Vw.iadd (de_iadd (B 29 _ rfl)) (n := 30) rfl ?_
      rw [nI_1]
      refine Vw.putI (de_putfield (B 30 _ rfl) (B 31 _ rfl) (B 32 _ rfl)) fl_X5_48 hx.rd.k rfl rfl (n := 33) rfl ?_
      rw [up_8]
      refine Vw.aload_n (de_aload_0 (B 33 _ rfl)) 0 rfl (n := 34) rfl ?_
      refine Vw.iconst (v := 0) (de_iconst_0 (B 34 _ rfl)) rfl (n := 35) rfl ?_
      refine Vw.ivi1 (mi' := mX5_readSum) (de_invokevirtual (B 35 _ rfl) (B 36 _ rfl) (B 37 _ rfl)) ml_X5_106 mv_X5_readSum hx.rd.k (Nat.le_of_ble_eq_true rfl) (n := 38) rfl (kr_sumM 8 (by decide) (d + 0) S I L _ s tp u cd vl nt o (i + 1) l c f w hx (by omega) hl (by omega) (fun j l2 d2 c2 w2 e2 a1 a2 a3 a4 a5 a6 a7 => ?_) (fun e t2 l2 c2 w2 e2 a1 => ?_))
      · exact Vw.zret (de_ireturn (B 38 _ rfl)) rfl rfl ⟨_, rfl, (h1 j l2 d2 c2 w2 (by rw [if_pos c12b]; exact e2) (by omega) a2 a3 (by omega) a5 a6 a7)⟩
      · exact Vw.zret (de_ireturn (B 38 _ rfl)) rfl rfl ⟨_, rfl, (h0 e t2 l2 c2 w2 (by rw [if_pos c12b]; exact e2) a1)⟩
    exact absurd c_15 (by decide)
  · refine Vw.if_ne (tgt := 23) (n := 18) (de_if_ne (B 15 _ rfl) (B 16 _ rfl) (B 17 _ rfl)) rfl rfl (fun c_15 => ?_) (fun c_15 => ?_)
    · exact absurd c_15 (by decide)
    refine Vw.aload_n (de_aload_0 (B 18 _ rfl)) 0 rfl (n := 19) rfl ?_
    refine Vw.ivi0 (mi' := mX5_fail) (de_invokevirtual (B 19 _ rfl) (B 20 _ rfl) (B 21 _ rfl)) ml_X5_67 mv_X5_fail hx.rd.k (Nat.le_of_ble_eq_true rfl) (n := 22) rfl (k_fail hx hi ?_)
    exact Vw.zret (de_ireturn (B 22 _ rfl)) rfl rfl ⟨_, rfl, (h0 i _ _ _ _ (by rw [if_neg (show ¬ cd i = 22 from c12)]) hi)⟩
theorem kr_second1  : KR mX5_readSecond (33) [.int 1] (fun cd vl o => fun i l => if cd i = 24 then pSum cd vl o 8 (i + 1) l else .error i) (19) false := by
  intro d S I L Q s tp u cd vl nt o i l c f w hx hi hl hci h1 h0
  dsimp only at h1 h0
  have h4 := hx.n4
  refine Vc.of rfl (Nat.le_of_ble_eq_true rfl) ?_
  have B := bs_X5_readSecond
  show Vw mX5_readSecond (d + (33)) 0 0 0 0 (ViQ Q) 0 [(0, .ref (s + 74)), (1, .int 1)] [] S (rm I s (nI i) (nI l) (nI c) f w) L
  refine Vw.aload_n (de_aload_0 (B 0 _ rfl)) 0 rfl (n := 1) rfl ?_
  refine Vw.iload_n (de_iload_1 (B 1 _ rfl)) 1 rfl (n := 2) rfl ?_
  refine Vw.if_ne (tgt := 10) (n := 5) (de_if_ne (B 2 _ rfl) (B 3 _ rfl) (B 4 _ rfl)) rfl rfl (fun c_2 => ?_) (fun c_2 => ?_)
  · obtain ⟨z10, hz10⟩ := hx.str 5 (by decide)
    refine Vw.ldcS (i := 5) (de_ldc (B 10 _ rfl) (B 11 _ rfl)) rfl (by decide) hz10.2.1 (n := 12) rfl ?_
    refine Vw.ivi1 (mi' := mX5_isWord) (de_invokevirtual (B 12 _ rfl) (B 13 _ rfl) (B 14 _ rfl)) ml_X5_119 mv_X5_isWord hx.rd.k (Nat.le_of_ble_eq_true rfl) (n := 15) rfl (k_isWord (i := i) hx hz10 (by decide) hi (fun c12 => ?_) (fun c12 => ?_))
    · have c12b : cd i = 24 := c12
      have i1 : i < nt := by
        rcases Nat.lt_or_ge i nt with z | z
        · exact z
        · rw [show i = nt by omega, hx.c0] at c12b; exact absurd c12b (by decide)
      refine Vw.if_ne (tgt := 23) (n := 18) (de_if_ne (B 15 _ rfl) (B 16 _ rfl) (B 17 _ rfl)) rfl rfl (fun c_15 => ?_) (fun c_15 => ?_)
      · refine Vw.aload_n (de_aload_0 (B 23 _ rfl)) 0 rfl (n := 24) rfl ?_
        refine Vw.dup (de_dup (B 24 _ rfl)) rfl (n := 25) rfl ?_
        refine Vw.getI (de_getfield (B 25 _ rfl) (B 26 _ rfl) (B 27 _ rfl)) fl_X5_48 rfl hx.rd.k (n := 28) rfl ?_
        rw [rm_8]
        refine Vw.iconst (v := 1) (de_iconst_1 (B 28 _ rfl)) rfl (n := 29) rfl ?_
        refine Vw.iadd (de_iadd (B 29 _ rfl)) (n := 30) rfl ?_
        rw [nI_1]
        refine Vw.putI (de_putfield (B 30 _ rfl) (B 31 _ rfl) (B 32 _ rfl)) fl_X5_48 hx.rd.k rfl rfl (n := 33) rfl ?_
        rw [up_8]
        refine Vw.aload_n (de_aload_0 (B 33 _ rfl)) 0 rfl (n := 34) rfl ?_
        refine Vw.iconst (v := 0) (de_iconst_0 (B 34 _ rfl)) rfl (n := 35) rfl ?_
        refine Vw.ivi1 (mi' := mX5_readSum) (de_invokevirtual (B 35 _ rfl) (B 36 _ rfl) (B 37 _ rfl)) ml_X5_106 mv_X5_readSum hx.rd.k (Nat.le_of_ble_eq_true rfl) (n := 38) rfl (kr_sumM 8 (by decide) (d + 0) S I L _ s tp u cd vl nt o (i + 1) l c f w hx (by omega) hl (by omega) (fun j l2 d2 c2 w2 e2 a1 a2 a3 a4 a5 a6 a7 => ?_) (fun e t2 l2 c2 w2 e2 a1 => ?_))
        · exact Vw.zret (de_ireturn (B 38 _ rfl)) rfl rfl ⟨_, rfl, (h1 j l2 d2 c2 w2 (by rw [if_pos c12b]; exact e2) (by omega) a2 a3 (by omega) a5 a6 a7)⟩
        · exact Vw.zret (de_ireturn (B 38 _ rfl)) rfl rfl ⟨_, rfl, (h0 e t2 l2 c2 w2 (by rw [if_pos c12b]; exact e2) a1)⟩
      exact absurd c_15 (by decide)
    · refine Vw.if_ne (tgt := 23) (n := 18) (de_if_ne (B 15 _ rfl) (B 16 _ rfl) (B 17 _ rfl)) rfl rfl (fun c_15 => ?_) (fun c_15 => ?_)
      · exact absurd c_15 (by decide)
      refine Vw.aload_n (de_aload_0 (B 18 _ rfl)) 0 rfl (n := 19) rfl ?_
      refine Vw.ivi0 (mi' := mX5_fail) (de_invokevirtual (B 19 _ rfl) (B 20 _ rfl) (B 21 _ rfl)) ml_X5_67 mv_X5_fail hx.rd.k (Nat.le_of_ble_eq_true rfl) (n := 22) rfl (k_fail hx hi ?_)
      exact Vw.zret (de_ireturn (B 22 _ rfl)) rfl rfl ⟨_, rfl, (h0 i _ _ _ _ (by rw [if_neg (show ¬ cd i = 24 from c12)]) hi)⟩
  exact absurd c_2 (by decide)
theorem k_readTimes {d : Nat} {S : vS} {I : vI} {L : vL} {Q : Int32 → vS → vI → vL → Prop} {s tp nt i : Nat} {u cd vl : Nat → Int32} {o : Bool} {l c f : Int32} {w : Nat → Int32} {n : Nat} (hx : RX S I s tp u cd vl nt o) (hi : i < nt) (hn : n < 12) (h1 : cd (i + 1) = 50 → ¬ zLie (vl (i + 1)) 1 20 = 0 → i + 1 < nt → Q 1 S (rm (up2 I (s + 77) n (vl (i + 1))) s (nI (i + 2)) l c f w) L) (h0 : ¬ (cd (i + 1) = 50 ∧ ¬ zLie (vl (i + 1)) 1 20 = 0) → Q 0 S (rm I s (nI (i + 1)) l c (I (s + 84) (i + 1)) w) L) : Vc mX5_readTimes (d + 1) 0 0 [.ref (s + 74), .int (nI n)] S (rm I s (nI i) l c f w) L (ViQ Q) := by
  refine Vc.of rfl (Nat.le_of_ble_eq_true rfl) ?_
  have B := bs_X5_readTimes
  show Vw mX5_readTimes (d + 1) 0 0 0 0 (ViQ Q) 0 [(0, .ref (s + 74)), (1, .int (nI n))] [] S (rm I s (nI i) l c f w) L
  have h4 := hx.n4
  have hi1 : i + 1 ≤ nt := hi
  rcases hx.num hi1 with ⟨n1, n2⟩ | ⟨n1, v, v1, v2, n2⟩ | ⟨n1, n3, n2⟩
  · refine Vw.aload_n (de_aload_0 (B 0 _ rfl)) 0 rfl (n := 1) rfl ?_
    refine Vw.dup (de_dup (B 1 _ rfl)) rfl (n := 2) rfl ?_
    refine Vw.getI (de_getfield (B 2 _ rfl) (B 3 _ rfl) (B 4 _ rfl)) fl_X5_48 rfl hx.rd.k (n := 5) rfl ?_
    rw [rm_8]
    refine Vw.iconst (v := 1) (de_iconst_1 (B 5 _ rfl)) rfl (n := 6) rfl ?_
    refine Vw.iadd (de_iadd (B 6 _ rfl)) (n := 7) rfl ?_
    rw [nI_1]
    refine Vw.putI (de_putfield (B 7 _ rfl) (B 8 _ rfl) (B 9 _ rfl)) fl_X5_48 hx.rd.k rfl rfl (n := 10) rfl ?_
    rw [up_8]
    refine Vw.aload_n (de_aload_0 (B 10 _ rfl)) 0 rfl (n := 11) rfl ?_
    refine Vw.getR (de_getfield (B 11 _ rfl) (B 12 _ rfl) (B 13 _ rfl)) fl_X5_30 rfl hx.rd.k hx.rd.f4 (n := 14) rfl ?_
    refine Vw.aload_n (de_aload_0 (B 14 _ rfl)) 0 rfl (n := 15) rfl ?_
    refine Vw.getI (de_getfield (B 15 _ rfl) (B 16 _ rfl) (B 17 _ rfl)) fl_X5_48 rfl hx.rd.k (n := 18) rfl ?_
    rw [rm_8]
    refine Vw.iald (de_iaload (B 18 _ rfl)) hx.rd.r4 (vIx_n (k := i + 1) rfl (by omega)) (n := 19) rfl ?_
    rw [rm_nm, n2]
    refine Vw.istore_n (lv2 := [(0, _), (1, _), (2, _)]) (de_istore_2 (B 19 _ rfl)) rfl (by decide) [1, 2, 0] rfl (n := 20) rfl ?_
    refine Vw.iload_n (de_iload_2 (B 20 _ rfl)) 2 rfl (n := 21) rfl ?_
    refine Vw.iconst (v := 1) (de_iconst_1 (B 21 _ rfl)) rfl (n := 22) rfl ?_
    refine Vw.icmp_lt (tgt := 31) (n := 25) (de_icmp_lt (B 22 _ rfl) (B 23 _ rfl) (B 24 _ rfl)) rfl rfl (fun c_22 => ?_) (fun c_22 => ?_)
    · refine Vw.aload_n (de_aload_0 (B 31 _ rfl)) 0 rfl (n := 32) rfl ?_
      refine Vw.ivi0 (mi' := mX5_fail) (de_invokevirtual (B 32 _ rfl) (B 33 _ rfl) (B 34 _ rfl)) ml_X5_67 mv_X5_fail hx.rd.k (Nat.le_of_ble_eq_true rfl) (n := 35) rfl (k_fail (i := i + 1) hx hi1 ?_)
      exact Vw.zret (de_ireturn (B 35 _ rfl)) rfl rfl ⟨_, rfl, (h0 (fun q => n1 q.1))⟩
    exact absurd (by decide) c_22
  · refine Vw.aload_n (de_aload_0 (B 0 _ rfl)) 0 rfl (n := 1) rfl ?_
    refine Vw.dup (de_dup (B 1 _ rfl)) rfl (n := 2) rfl ?_
    refine Vw.getI (de_getfield (B 2 _ rfl) (B 3 _ rfl) (B 4 _ rfl)) fl_X5_48 rfl hx.rd.k (n := 5) rfl ?_
    rw [rm_8]
    refine Vw.iconst (v := 1) (de_iconst_1 (B 5 _ rfl)) rfl (n := 6) rfl ?_
    refine Vw.iadd (de_iadd (B 6 _ rfl)) (n := 7) rfl ?_
    rw [nI_1]
    refine Vw.putI (de_putfield (B 7 _ rfl) (B 8 _ rfl) (B 9 _ rfl)) fl_X5_48 hx.rd.k rfl rfl (n := 10) rfl ?_
    rw [up_8]
    refine Vw.aload_n (de_aload_0 (B 10 _ rfl)) 0 rfl (n := 11) rfl ?_
    refine Vw.getR (de_getfield (B 11 _ rfl) (B 12 _ rfl) (B 13 _ rfl)) fl_X5_30 rfl hx.rd.k hx.rd.f4 (n := 14) rfl ?_
    refine Vw.aload_n (de_aload_0 (B 14 _ rfl)) 0 rfl (n := 15) rfl ?_
    refine Vw.getI (de_getfield (B 15 _ rfl) (B 16 _ rfl) (B 17 _ rfl)) fl_X5_48 rfl hx.rd.k (n := 18) rfl ?_
    rw [rm_8]
    refine Vw.iald (de_iaload (B 18 _ rfl)) hx.rd.r4 (vIx_n (k := i + 1) rfl (by omega)) (n := 19) rfl ?_
    rw [rm_nm, n2]
    refine Vw.istore_n (lv2 := [(0, _), (1, _), (2, _)]) (de_istore_2 (B 19 _ rfl)) rfl (by decide) [1, 2, 0] rfl (n := 20) rfl ?_
    refine Vw.iload_n (de_iload_2 (B 20 _ rfl)) 2 rfl (n := 21) rfl ?_
    refine Vw.iconst (v := 1) (de_iconst_1 (B 21 _ rfl)) rfl (n := 22) rfl ?_
    refine Vw.icmp_lt (tgt := 31) (n := 25) (de_icmp_lt (B 22 _ rfl) (B 23 _ rfl) (B 24 _ rfl)) rfl rfl (fun c_22 => ?_) (fun c_22 => ?_)
    · refine Vw.aload_n (de_aload_0 (B 31 _ rfl)) 0 rfl (n := 32) rfl ?_
      refine Vw.ivi0 (mi' := mX5_fail) (de_invokevirtual (B 32 _ rfl) (B 33 _ rfl) (B 34 _ rfl)) ml_X5_67 mv_X5_fail hx.rd.k (Nat.le_of_ble_eq_true rfl) (n := 35) rfl (k_fail (i := i + 1) hx hi1 ?_)
      exact Vw.zret (de_ireturn (B 35 _ rfl)) rfl rfl ⟨_, rfl, (h0 (fun q => by
      rw [v2] at q
      have q2 := (lie120 v1).mp q.2
      first
      | exact absurd (i32_lt.mp c_22) (by rw [nI_ti (by omega)]; show ¬ (v : Int) < 1; omega)
      | exact c_28 ((nI_leI (a := v) (b := 20) (by omega) (by omega)).mpr q2.2)))⟩
    refine Vw.iload_n (de_iload_2 (B 25 _ rfl)) 2 rfl (n := 26) rfl ?_
    refine Vw.bipush (v := 20) (de_bipush (B 26 _ rfl) (B 27 _ rfl)) rfl (n := 28) rfl ?_
    refine Vw.icmp_le (tgt := 36) (n := 31) (de_icmp_le (B 28 _ rfl) (B 29 _ rfl) (B 30 _ rfl)) rfl rfl (fun c_28 => ?_) (fun c_28 => ?_)
    · have vv : 1 ≤ v ∧ v ≤ 20 := ⟨by rcases Nat.lt_or_ge 0 v with z | z; exact z; exact absurd (by rw [show v = 0 by omega]; decide) c_22, (nI_leI (a := v) (b := 20) (by omega) (by omega)).mp c_28⟩
      refine Vw.aload_n (de_aload_0 (B 36 _ rfl)) 0 rfl (n := 37) rfl ?_
      refine Vw.getR (de_getfield (B 37 _ rfl) (B 38 _ rfl) (B 39 _ rfl)) fl_X5_14 rfl hx.rd.k hx.rd.f0 (n := 40) rfl ?_
      refine Vw.getR (de_getfield (B 40 _ rfl) (B 41 _ rfl) (B 42 _ rfl)) fl_X5_102 rfl hx.rd.p0.k hx.rd.p0.f2 (n := 43) rfl ?_
      refine Vw.iload_n (de_iload_1 (B 43 _ rfl)) 1 rfl (n := 44) rfl ?_
      refine Vw.iload_n (de_iload_2 (B 44 _ rfl)) 2 rfl (n := 45) rfl ?_
      refine Vw.iast (de_iastore (B 45 _ rfl)) hx.rd.p0.r2 (vIx_n (k := n) rfl (by omega)) (n := 46) rfl ?_
      rw [show s + 74 + 1 + 2 = s + 77 from rfl, up_I (by omega) (by omega)]
      refine Vw.aload_n (de_aload_0 (B 46 _ rfl)) 0 rfl (n := 47) rfl ?_
      refine Vw.dup (de_dup (B 47 _ rfl)) rfl (n := 48) rfl ?_
      refine Vw.getI (de_getfield (B 48 _ rfl) (B 49 _ rfl) (B 50 _ rfl)) fl_X5_48 rfl hx.rd.k (n := 51) rfl ?_
      rw [rm_8]
      refine Vw.iconst (v := 1) (de_iconst_1 (B 51 _ rfl)) rfl (n := 52) rfl ?_
      refine Vw.iadd (de_iadd (B 52 _ rfl)) (n := 53) rfl ?_
      rw [nI_1]
      refine Vw.putI (de_putfield (B 53 _ rfl) (B 54 _ rfl) (B 55 _ rfl)) fl_X5_48 hx.rd.k rfl rfl (n := 56) rfl ?_
      rw [up_8]
      refine Vw.iconst (v := 1) (de_iconst_1 (B 56 _ rfl)) rfl (n := 57) rfl ?_
      exact Vw.zret (de_ireturn (B 57 _ rfl)) rfl rfl ⟨_, rfl, (by
      have i2 : i + 1 < nt := by
        rcases Nat.lt_or_ge (i + 1) nt with z | z
        · exact z
        · rw [show i + 1 = nt by omega, hx.c0] at n1; exact absurd n1 (by decide)
      have g := h1 n1 (by rw [v2]; exact (lie120 v1).mpr vv) i2
      rw [v2] at g
      exact g)⟩
    refine Vw.aload_n (de_aload_0 (B 31 _ rfl)) 0 rfl (n := 32) rfl ?_
    refine Vw.ivi0 (mi' := mX5_fail) (de_invokevirtual (B 32 _ rfl) (B 33 _ rfl) (B 34 _ rfl)) ml_X5_67 mv_X5_fail hx.rd.k (Nat.le_of_ble_eq_true rfl) (n := 35) rfl (k_fail (i := i + 1) hx hi1 ?_)
    exact Vw.zret (de_ireturn (B 35 _ rfl)) rfl rfl ⟨_, rfl, (h0 (fun q => by
      rw [v2] at q
      have q2 := (lie120 v1).mp q.2
      first
      | exact absurd (i32_lt.mp c_22) (by rw [nI_ti (by omega)]; show ¬ (v : Int) < 1; omega)
      | exact c_28 ((nI_leI (a := v) (b := 20) (by omega) (by omega)).mpr q2.2)))⟩
  · refine Vw.aload_n (de_aload_0 (B 0 _ rfl)) 0 rfl (n := 1) rfl ?_
    refine Vw.dup (de_dup (B 1 _ rfl)) rfl (n := 2) rfl ?_
    refine Vw.getI (de_getfield (B 2 _ rfl) (B 3 _ rfl) (B 4 _ rfl)) fl_X5_48 rfl hx.rd.k (n := 5) rfl ?_
    rw [rm_8]
    refine Vw.iconst (v := 1) (de_iconst_1 (B 5 _ rfl)) rfl (n := 6) rfl ?_
    refine Vw.iadd (de_iadd (B 6 _ rfl)) (n := 7) rfl ?_
    rw [nI_1]
    refine Vw.putI (de_putfield (B 7 _ rfl) (B 8 _ rfl) (B 9 _ rfl)) fl_X5_48 hx.rd.k rfl rfl (n := 10) rfl ?_
    rw [up_8]
    refine Vw.aload_n (de_aload_0 (B 10 _ rfl)) 0 rfl (n := 11) rfl ?_
    refine Vw.getR (de_getfield (B 11 _ rfl) (B 12 _ rfl) (B 13 _ rfl)) fl_X5_30 rfl hx.rd.k hx.rd.f4 (n := 14) rfl ?_
    refine Vw.aload_n (de_aload_0 (B 14 _ rfl)) 0 rfl (n := 15) rfl ?_
    refine Vw.getI (de_getfield (B 15 _ rfl) (B 16 _ rfl) (B 17 _ rfl)) fl_X5_48 rfl hx.rd.k (n := 18) rfl ?_
    rw [rm_8]
    refine Vw.iald (de_iaload (B 18 _ rfl)) hx.rd.r4 (vIx_n (k := i + 1) rfl (by omega)) (n := 19) rfl ?_
    rw [rm_nm, n2]
    refine Vw.istore_n (lv2 := [(0, _), (1, _), (2, _)]) (de_istore_2 (B 19 _ rfl)) rfl (by decide) [1, 2, 0] rfl (n := 20) rfl ?_
    refine Vw.iload_n (de_iload_2 (B 20 _ rfl)) 2 rfl (n := 21) rfl ?_
    refine Vw.iconst (v := 1) (de_iconst_1 (B 21 _ rfl)) rfl (n := 22) rfl ?_
    refine Vw.icmp_lt (tgt := 31) (n := 25) (de_icmp_lt (B 22 _ rfl) (B 23 _ rfl) (B 24 _ rfl)) rfl rfl (fun c_22 => ?_) (fun c_22 => ?_)
    · exact absurd c_22 (by decide)
    refine Vw.iload_n (de_iload_2 (B 25 _ rfl)) 2 rfl (n := 26) rfl ?_
    refine Vw.bipush (v := 20) (de_bipush (B 26 _ rfl) (B 27 _ rfl)) rfl (n := 28) rfl ?_
    refine Vw.icmp_le (tgt := 36) (n := 31) (de_icmp_le (B 28 _ rfl) (B 29 _ rfl) (B 30 _ rfl)) rfl rfl (fun c_28 => ?_) (fun c_28 => ?_)
    · exact absurd c_28 (by decide)
    refine Vw.aload_n (de_aload_0 (B 31 _ rfl)) 0 rfl (n := 32) rfl ?_
    refine Vw.ivi0 (mi' := mX5_fail) (de_invokevirtual (B 32 _ rfl) (B 33 _ rfl) (B 34 _ rfl)) ml_X5_67 mv_X5_fail hx.rd.k (Nat.le_of_ble_eq_true rfl) (n := 35) rfl (k_fail (i := i + 1) hx hi1 ?_)
    exact Vw.zret (de_ireturn (B 35 _ rfl)) rfl rfl ⟨_, rfl, (h0 (fun q => q.2 (lie120_big n3)))⟩
theorem k_tail172 {d : Nat} {S : vS} {I : vI} {L : vL} {Q : Int32 → vS → vI → vL → Prop} {s tp nt j l c n : Nat} {u cd vl : Nat → Int32} {o : Bool} {f vb : Int32} {w : Nat → Int32} (hx : RX S I s tp u cd vl nt o) (hj : j ≤ nt) (hl : l ≤ 50) (hcj : c ≤ j) (hn : n < 12)
    (hA : ¬ cd j = 6 → Q 1 S (rm (up2 I (s + 81) n (nI c)) s (nI j) (nI l) (nI c) f w) L)
    (hB : ∀ j2 l2 t c2 w2, cd j = 6 → pTest cd vl o 8 (j + 1) l = .ok (j2, l2, t) → j + 1 < j2 → j2 ≤ nt → l2 ≤ 50 → c2 + (j + 1) ≤ c + j2 → (∀ x, x < c → w2 x = w x) → WC2 (klO o) w2 c c2 t 20 → Q 1 S (rm (up2 I (s + 81) n (nI c2)) s (nI j2) (nI l2) (nI c2) f w2) L)
    (hC : ∀ e t l2 c2 w2, cd j = 6 → pTest cd vl o 8 (j + 1) l = .error e → e ≤ nt → Q 0 S (rm I s t l2 c2 (I (s + 84) e) w2) L) : Vw mX5_readClause (d + 45) 0 0 0 0 (ViQ Q) 172 [(0, .ref (s + 74)), (1, .int (nI n)), (2, .int vb)] [] S (rm I s (nI j) (nI l) (nI c) f w) L := by
  have h4 := hx.n4
  have B := bs_X5_readClause
  refine Vw.aload_n (de_aload_0 (B 172 _ rfl)) 0 rfl (n := 173) rfl ?_
  obtain ⟨z173, hz173⟩ := hx.str 7 (by decide)
  refine Vw.ldcS (i := 7) (de_ldc (B 173 _ rfl) (B 174 _ rfl)) rfl (by decide) hz173.2.1 (n := 175) rfl ?_
  refine Vw.ivi1 (mi' := mX5_isWord) (de_invokevirtual (B 175 _ rfl) (B 176 _ rfl) (B 177 _ rfl)) ml_X5_119 mv_X5_isWord hx.rd.k (Nat.le_of_ble_eq_true rfl) (n := 178) rfl (k_isWord (i := j) hx hz173 (by decide) hj (fun c175 => ?_) (fun c175 => ?_))
  · have c6 : cd j = 6 := c175
    have j1 : j < nt := by
      rcases Nat.lt_or_ge j nt with z | z
      · exact z
      · rw [show j = nt by omega, hx.c0] at c6; exact absurd c6 (by decide)
    refine Vw.if_eq (tgt := 201) (n := 181) (de_if_eq (B 178 _ rfl) (B 179 _ rfl) (B 180 _ rfl)) rfl rfl (fun c_178 => ?_) (fun c_178 => ?_)
    · exact absurd c_178 (by decide)
    refine Vw.aload_n (de_aload_0 (B 181 _ rfl)) 0 rfl (n := 182) rfl ?_
    refine Vw.dup (de_dup (B 182 _ rfl)) rfl (n := 183) rfl ?_
    refine Vw.getI (de_getfield (B 183 _ rfl) (B 184 _ rfl) (B 185 _ rfl)) fl_X5_48 rfl hx.rd.k (n := 186) rfl ?_
    rw [rm_8]
    refine Vw.iconst (v := 1) (de_iconst_1 (B 186 _ rfl)) rfl (n := 187) rfl ?_
    refine Vw.iadd (de_iadd (B 187 _ rfl)) (n := 188) rfl ?_
    rw [nI_1]
    refine Vw.putI (de_putfield (B 188 _ rfl) (B 189 _ rfl) (B 190 _ rfl)) fl_X5_48 hx.rd.k rfl rfl (n := 191) rfl ?_
    rw [up_8]
    refine Vw.aload_n (de_aload_0 (B 191 _ rfl)) 0 rfl (n := 192) rfl ?_
    refine Vw.iconst (v := 0) (de_iconst_0 (B 192 _ rfl)) rfl (n := 193) rfl ?_
    refine Vw.ivi1 (mi' := mX5_readTest) (de_invokevirtual (B 193 _ rfl) (B 194 _ rfl) (B 195 _ rfl)) ml_X5_128 mv_X5_readTest hx.rd.k (Nat.le_of_ble_eq_true rfl) (n := 196) rfl (((kr_testM 8 (by decide)).le (show 4 * 8 + 4 + 7 ≤ 44 by decide)) d S I L _ s tp u cd vl nt o (j + 1) l c f w hx (by omega) hl (by omega) (fun j2 l2 t c2 w2 e2 a1 a2 a3 a4 a5 a6 a7 => ?_) (fun e t2 l2 c2 w2 e2 a1 => ?_))
    · refine Vw.if_ne (tgt := 201) (n := 199) (de_if_ne (B 196 _ rfl) (B 197 _ rfl) (B 198 _ rfl)) rfl rfl (fun c_196 => ?_) (fun c_196 => ?_)
      · refine Vw.aload_n (de_aload_0 (B 201 _ rfl)) 0 rfl (n := 202) rfl ?_
        refine Vw.getR (de_getfield (B 202 _ rfl) (B 203 _ rfl) (B 204 _ rfl)) fl_X5_14 rfl hx.rd.k hx.rd.f0 (n := 205) rfl ?_
        refine Vw.getR (de_getfield (B 205 _ rfl) (B 206 _ rfl) (B 207 _ rfl)) fl_X5_131 rfl hx.rd.p0.k hx.rd.p0.f6 (n := 208) rfl ?_
        refine Vw.iload_n (de_iload_1 (B 208 _ rfl)) 1 rfl (n := 209) rfl ?_
        refine Vw.aload_n (de_aload_0 (B 209 _ rfl)) 0 rfl (n := 210) rfl ?_
        refine Vw.getI (de_getfield (B 210 _ rfl) (B 211 _ rfl) (B 212 _ rfl)) fl_X5_54 rfl hx.rd.k (n := 213) rfl ?_
        rw [rm_10]
        refine Vw.iast (de_iastore (B 213 _ rfl)) hx.rd.p0.r6 (vIx_n (k := n) rfl (by omega)) (n := 214) rfl ?_
        rw [show s + 74 + 1 + 6 = s + 81 from rfl, up_I (by omega) (by omega)]
        refine Vw.iconst (v := 1) (de_iconst_1 (B 214 _ rfl)) rfl (n := 215) rfl ?_
        exact Vw.zret (de_ireturn (B 215 _ rfl)) rfl rfl ⟨_, rfl, (hB j2 l2 t c2 w2 c6 e2 a1 a2 a3 a4 a5 a6)⟩
      exact absurd c_196 (by decide)
    · refine Vw.if_ne (tgt := 201) (n := 199) (de_if_ne (B 196 _ rfl) (B 197 _ rfl) (B 198 _ rfl)) rfl rfl (fun c_196 => ?_) (fun c_196 => ?_)
      · exact absurd c_196 (by decide)
      refine Vw.iconst (v := 0) (de_iconst_0 (B 199 _ rfl)) rfl (n := 200) rfl ?_
      exact Vw.zret (de_ireturn (B 200 _ rfl)) rfl rfl ⟨_, rfl, (hC e t2 l2 c2 w2 c6 e2 a1)⟩
  · refine Vw.if_eq (tgt := 201) (n := 181) (de_if_eq (B 178 _ rfl) (B 179 _ rfl) (B 180 _ rfl)) rfl rfl (fun c_178 => ?_) (fun c_178 => ?_)
    · refine Vw.aload_n (de_aload_0 (B 201 _ rfl)) 0 rfl (n := 202) rfl ?_
      refine Vw.getR (de_getfield (B 202 _ rfl) (B 203 _ rfl) (B 204 _ rfl)) fl_X5_14 rfl hx.rd.k hx.rd.f0 (n := 205) rfl ?_
      refine Vw.getR (de_getfield (B 205 _ rfl) (B 206 _ rfl) (B 207 _ rfl)) fl_X5_131 rfl hx.rd.p0.k hx.rd.p0.f6 (n := 208) rfl ?_
      refine Vw.iload_n (de_iload_1 (B 208 _ rfl)) 1 rfl (n := 209) rfl ?_
      refine Vw.aload_n (de_aload_0 (B 209 _ rfl)) 0 rfl (n := 210) rfl ?_
      refine Vw.getI (de_getfield (B 210 _ rfl) (B 211 _ rfl) (B 212 _ rfl)) fl_X5_54 rfl hx.rd.k (n := 213) rfl ?_
      rw [rm_10]
      refine Vw.iast (de_iastore (B 213 _ rfl)) hx.rd.p0.r6 (vIx_n (k := n) rfl (by omega)) (n := 214) rfl ?_
      rw [show s + 74 + 1 + 6 = s + 81 from rfl, up_I (by omega) (by omega)]
      refine Vw.iconst (v := 1) (de_iconst_1 (B 214 _ rfl)) rfl (n := 215) rfl ?_
      exact Vw.zret (de_ireturn (B 215 _ rfl)) rfl rfl ⟨_, rfl, (hA c175)⟩
    exact absurd c_178 (by decide)
